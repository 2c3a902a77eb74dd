theorem dJ3_checkIndex_8e157_17 : decode cJ3_checkIndex_8e157 17 = .ok (.ireturn, 1) := by decide +kernel
theorem dL_from_0 : decode cL_from 0 = .ok (.aload_n 0, 1) := by decide +kernel
theorem dL_from_1 : decode cL_from 1 = .ok (.arraylength, 1) := by decide +kernel
theorem dL_from_2 : decode cL_from 2 = .ok (.ifCond .ne 15, 3) := by decide +kernel
theorem dL_from_5 : decode cL_from 5 = .ok (.sipush 191, 3) := by decide +kernel
theorem dL_from_8 : decode cL_from 8 = .ok (.iload_n 1, 1) := by decide +kernel
theorem dL_from_9 : decode cL_from 9 = .ok (.imul, 1) := by decide +kernel
theorem dL_from_10 : decode cL_from 10 = .ok (.sipush 163, 3) := by decide +kernel
theorem dL_from_13 : decode cL_from 13 = .ok (.iadd, 1) := by decide +kernel
theorem dL_from_14 : decode cL_from 14 = .ok (.goto 14, 3) := by decide +kernel
theorem dL_from_17 : decode cL_from 17 = .ok (.aload_n 0, 1) := by decide +kernel
theorem dL_from_18 : decode cL_from 18 = .ok (.iload_n 1, 1) := by decide +kernel
theorem dL_from_19 : decode cL_from 19 = .ok (.aload_n 0, 1) := by decide +kernel
theorem dL_from_20 : decode cL_from 20 = .ok (.arraylength, 1) := by decide +kernel
theorem dL_from_21 : decode cL_from 21 = .ok (.irem, 1) := by decide +kernel
theorem dL_from_22 : decode cL_from 22 = .ok (.iaload, 1) := by decide +kernel
theorem dL_from_23 : decode cL_from 23 = .ok (.ldc 7, 2) := by decide +kernel
theorem dL_from_25 : decode cL_from 25 = .ok (.iload_n 1, 1) := by decide +kernel
theorem dL_from_26 : decode cL_from 26 = .ok (.imul, 1) := by decide +kernel
theorem dL_from_27 : decode cL_from 27 = .ok (.ixor, 1) := by decide +kernel
theorem dL_from_28 : decode cL_from 28 = .ok (.istore_n 3, 1) := by decide +kernel
theorem dL_from_29 : decode cL_from 29 = .ok (.iload_n 3, 1) := by decide +kernel
theorem dL_from_30 : decode cL_from 30 = .ok (.ldc 8, 2) := by decide +kernel
theorem dL_from_32 : decode cL_from 32 = .ok (.iand, 1) := by decide +kernel
theorem dL_from_33 : decode cL_from 33 = .ok (.iload_n 2, 1) := by decide +kernel
theorem dL_from_34 : decode cL_from 34 = .ok (.irem, 1) := by decide +kernel
theorem dL_from_35 : decode cL_from 35 = .ok (.ireturn, 1) := by decide +kernel
theorem dL_size_0 : decode cL_size 0 = .ok (.iconst 0, 1) := by decide +kernel
theorem dL_size_1 : decode cL_size 1 = .ok (.istore_n 1, 1) := by decide +kernel
theorem dL_size_2 : decode cL_size 2 = .ok (.iload_n 0, 1) := by decide +kernel
theorem dL_size_3 : decode cL_size 3 = .ok (.istore_n 2, 1) := by decide +kernel
theorem dL_size_4 : decode cL_size 4 = .ok (.iload_n 2, 1) := by decide +kernel
theorem dL_size_5 : decode cL_size 5 = .ok (.ifCond .le 15, 3) := by decide +kernel
theorem dL_size_8 : decode cL_size 8 = .ok (.iinc 1 1, 3) := by decide +kernel
theorem dL_size_11 : decode cL_size 11 = .ok (.iload_n 2, 1) := by decide +kernel
theorem dL_size_12 : decode cL_size 12 = .ok (.sipush 128, 3) := by decide +kernel
theorem dL_size_15 : decode cL_size 15 = .ok (.idiv, 1) := by decide +kernel
theorem dL_size_16 : decode cL_size 16 = .ok (.istore_n 2, 1) := by decide +kernel
theorem dL_size_17 : decode cL_size 17 = .ok (.goto (-13), 3) := by decide +kernel
theorem dL_size_20 : decode cL_size 20 = .ok (.iload_n 1, 1) := by decide +kernel
theorem dL_size_21 : decode cL_size 21 = .ok (.ireturn, 1) := by decide +kernel
theorem dL_has_0 : decode cL_has 0 = .ok (.iconst 0, 1) := by decide +kernel
theorem dL_has_1 : decode cL_has 1 = .ok (.istore_n 2, 1) := by decide +kernel
theorem dL_has_2 : decode cL_has 2 = .ok (.iload_n 0, 1) := by decide +kernel
theorem dL_has_3 : decode cL_has 3 = .ok (.istore_n 3, 1) := by decide +kernel
theorem dL_has_4 : decode cL_has 4 = .ok (.iload_n 3, 1) := by decide +kernel
theorem dL_has_5 : decode cL_has 5 = .ok (.ifCond .le 31, 3) := by decide +kernel
theorem dL_has_8 : decode cL_has 8 = .ok (.iload_n 2, 1) := by decide +kernel
theorem dL_has_9 : decode cL_has 9 = .ok (.ifCond .ne 12, 3) := by decide +kernel
theorem dL_has_12 : decode cL_has 12 = .ok (.iload_n 3, 1) := by decide +kernel
theorem dL_has_13 : decode cL_has 13 = .ok (.sipush 128, 3) := by decide +kernel
theorem dL_has_16 : decode cL_has 16 = .ok (.irem, 1) := by decide +kernel
theorem dL_has_17 : decode cL_has 17 = .ok (.iload_n 1, 1) := by decide +kernel
theorem dL_has_18 : decode cL_has 18 = .ok (.if_icmp .ne 7, 3) := by decide +kernel
theorem dL_has_21 : decode cL_has 21 = .ok (.iconst 1, 1) := by decide +kernel
theorem dL_has_22 : decode cL_has 22 = .ok (.goto 4, 3) := by decide +kernel
theorem dL_has_25 : decode cL_has 25 = .ok (.iconst 0, 1) := by decide +kernel
theorem dL_has_26 : decode cL_has 26 = .ok (.istore_n 2, 1) := by decide +kernel
theorem dL_has_27 : decode cL_has 27 = .ok (.iload_n 3, 1) := by decide +kernel
theorem dL_has_28 : decode cL_has 28 = .ok (.sipush 128, 3) := by decide +kernel
theorem dL_has_31 : decode cL_has 31 = .ok (.idiv, 1) := by decide +kernel
theorem dL_has_32 : decode cL_has 32 = .ok (.istore_n 3, 1) := by decide +kernel
theorem dL_has_33 : decode cL_has 33 = .ok (.goto (-29), 3) := by decide +kernel
theorem dL_has_36 : decode cL_has 36 = .ok (.iload_n 2, 1) := by decide +kernel
theorem dL_has_37 : decode cL_has 37 = .ok (.ireturn, 1) := by decide +kernel
set_option maxRecDepth 20000 in
theorem ggL_fits_L_has : GoodIn wsL_fits wsL_has := goodIn_r _ [4] (by decide +kernel) (by decide +kernel)
set_option maxRecDepth 20000 in
theorem gL_fits_L_has : GoodIn wsL_fits (va_wsS RL 9 yL_has wsL_has) := goodIn_app (goodIn_of _ (by decide +kernel)) ggL_fits_L_has
theorem dL_fits_0 : decode cL_fits 0 = .ok (.aload_n 0, 1) := by decide +kernel
theorem dL_fits_1 : decode cL_fits 1 = .ok (.bipush 27, 2) := by decide +kernel
theorem dL_fits_3 : decode cL_fits 3 = .ok (.iload_n 2, 1) := by decide +kernel
theorem dL_fits_4 : decode cL_fits 4 = .ok (.imul, 1) := by decide +kernel
theorem dL_fits_5 : decode cL_fits 5 = .ok (.bipush 9, 2) := by decide +kernel
theorem dL_fits_7 : decode cL_fits 7 = .ok (.iload_n 3, 1) := by decide +kernel
theorem dL_fits_8 : decode cL_fits 8 = .ok (.imul, 1) := by decide +kernel
theorem dL_fits_9 : decode cL_fits 9 = .ok (.iadd, 1) := by decide +kernel
theorem dL_fits_10 : decode cL_fits 10 = .ok (.iload 4, 2) := by decide +kernel
theorem dL_fits_12 : decode cL_fits 12 = .ok (.iadd, 1) := by decide +kernel
theorem dL_fits_13 : decode cL_fits 13 = .ok (.iaload, 1) := by decide +kernel
theorem dL_fits_14 : decode cL_fits 14 = .ok (.istore 5, 2) := by decide +kernel
theorem dL_fits_16 : decode cL_fits 16 = .ok (.iload 5, 2) := by decide +kernel
theorem dL_fits_18 : decode cL_fits 18 = .ok (.ifCond .le 7, 3) := by decide +kernel
theorem dL_fits_21 : decode cL_fits 21 = .ok (.iconst 1, 1) := by decide +kernel
theorem dL_fits_22 : decode cL_fits 22 = .ok (.goto 4, 3) := by decide +kernel
theorem dL_fits_25 : decode cL_fits 25 = .ok (.iconst 0, 1) := by decide +kernel
theorem dL_fits_26 : decode cL_fits 26 = .ok (.istore 6, 2) := by decide +kernel
theorem dL_fits_28 : decode cL_fits 28 = .ok (.bipush 101, 2) := by decide +kernel
theorem dL_fits_30 : decode cL_fits 30 = .ok (.istore 7, 2) := by decide +kernel
theorem dL_fits_32 : decode cL_fits 32 = .ok (.iload 7, 2) := by decide +kernel
theorem dL_fits_34 : decode cL_fits 34 = .ok (.bipush 105, 2) := by decide +kernel
theorem dL_fits_36 : decode cL_fits 36 = .ok (.if_icmp .ge 137, 3) := by decide +kernel
theorem dL_fits_39 : decode cL_fits 39 = .ok (.iconst 0, 1) := by decide +kernel
theorem dL_fits_40 : decode cL_fits 40 = .ok (.istore 8, 2) := by decide +kernel
theorem dL_fits_42 : decode cL_fits 42 = .ok (.iconst 0, 1) := by decide +kernel
theorem dL_fits_43 : decode cL_fits 43 = .ok (.istore 9, 2) := by decide +kernel
theorem dL_fits_45 : decode cL_fits 45 = .ok (.iload 9, 2) := by decide +kernel
theorem dL_fits_47 : decode cL_fits 47 = .ok (.bipush 9, 2) := by decide +kernel
theorem dL_fits_49 : decode cL_fits 49 = .ok (.if_icmp .ge 36, 3) := by decide +kernel
theorem dL_fits_52 : decode cL_fits 52 = .ok (.iload 8, 2) := by decide +kernel
theorem dL_fits_54 : decode cL_fits 54 = .ok (.aload_n 0, 1) := by decide +kernel
theorem dL_fits_55 : decode cL_fits 55 = .ok (.bipush 27, 2) := by decide +kernel
theorem dL_fits_57 : decode cL_fits 57 = .ok (.iload_n 2, 1) := by decide +kernel
theorem dL_fits_58 : decode cL_fits 58 = .ok (.imul, 1) := by decide +kernel
theorem dL_fits_59 : decode cL_fits 59 = .ok (.iload 9, 2) := by decide +kernel
theorem dL_fits_61 : decode cL_fits 61 = .ok (.iadd, 1) := by decide +kernel
theorem dL_fits_62 : decode cL_fits 62 = .ok (.iaload, 1) := by decide +kernel
theorem dL_fits_63 : decode cL_fits 63 = .ok (.iload 7, 2) := by decide +kernel
theorem dL_fits_65 : decode cL_fits 65 = .ok (.invokestatic 9, 3) := by decide +kernel
theorem dL_fits_68 : decode cL_fits 68 = .ok (.ifCond .eq 7, 3) := by decide +kernel
theorem dL_fits_71 : decode cL_fits 71 = .ok (.iconst 1, 1) := by decide +kernel
theorem dL_fits_72 : decode cL_fits 72 = .ok (.goto 4, 3) := by decide +kernel
theorem dL_fits_75 : decode cL_fits 75 = .ok (.iconst 0, 1) := by decide +kernel
theorem dL_fits_76 : decode cL_fits 76 = .ok (.iadd, 1) := by decide +kernel
theorem dL_fits_77 : decode cL_fits 77 = .ok (.istore 8, 2) := by decide +kernel
theorem dL_fits_79 : decode cL_fits 79 = .ok (.iinc 9 1, 3) := by decide +kernel
theorem dL_fits_82 : decode cL_fits 82 = .ok (.goto (-37), 3) := by decide +kernel
theorem dL_fits_85 : decode cL_fits 85 = .ok (.iload 8, 2) := by decide +kernel
theorem dL_fits_87 : decode cL_fits 87 = .ok (.ifCond .ne 17, 3) := by decide +kernel
theorem dL_fits_90 : decode cL_fits 90 = .ok (.iload 5, 2) := by decide +kernel
theorem dL_fits_92 : decode cL_fits 92 = .ok (.iload 7, 2) := by decide +kernel
theorem dL_fits_94 : decode cL_fits 94 = .ok (.invokestatic 9, 3) := by decide +kernel
theorem dL_fits_97 : decode cL_fits 97 = .ok (.ifCond .eq 7, 3) := by decide +kernel
theorem dL_fits_100 : decode cL_fits 100 = .ok (.iconst 1, 1) := by decide +kernel
theorem dL_fits_101 : decode cL_fits 101 = .ok (.goto 4, 3) := by decide +kernel
theorem dL_fits_104 : decode cL_fits 104 = .ok (.iconst 0, 1) := by decide +kernel
theorem dL_fits_105 : decode cL_fits 105 = .ok (.istore 9, 2) := by decide +kernel
theorem dL_fits_107 : decode cL_fits 107 = .ok (.iload 8, 2) := by decide +kernel
theorem dL_fits_109 : decode cL_fits 109 = .ok (.ifCond .le 17, 3) := by decide +kernel
theorem dL_fits_112 : decode cL_fits 112 = .ok (.iload 5, 2) := by decide +kernel
theorem dL_fits_114 : decode cL_fits 114 = .ok (.iload 7, 2) := by decide +kernel
theorem dL_fits_116 : decode cL_fits 116 = .ok (.invokestatic 9, 3) := by decide +kernel
theorem dL_fits_119 : decode cL_fits 119 = .ok (.ifCond .ne 7, 3) := by decide +kernel
theorem dL_fits_122 : decode cL_fits 122 = .ok (.iconst 1, 1) := by decide +kernel
theorem dL_fits_123 : decode cL_fits 123 = .ok (.goto 4, 3) := by decide +kernel
theorem dL_fits_126 : decode cL_fits 126 = .ok (.iconst 0, 1) := by decide +kernel
theorem dL_fits_127 : decode cL_fits 127 = .ok (.istore 10, 2) := by decide +kernel
theorem dL_fits_129 : decode cL_fits 129 = .ok (.iload 6, 2) := by decide +kernel
theorem dL_fits_131 : decode cL_fits 131 = .ok (.ifCond .eq 33, 3) := by decide +kernel
theorem dL_fits_134 : decode cL_fits 134 = .ok (.iload 9, 2) := by decide +kernel
theorem dL_fits_136 : decode cL_fits 136 = .ok (.ifCond .ne 28, 3) := by decide +kernel
theorem dL_fits_139 : decode cL_fits 139 = .ok (.iload 10, 2) := by decide +kernel
theorem dL_fits_141 : decode cL_fits 141 = .ok (.ifCond .eq 19, 3) := by decide +kernel
theorem dL_fits_144 : decode cL_fits 144 = .ok (.aload_n 1, 1) := by decide +kernel
theorem dL_fits_145 : decode cL_fits 145 = .ok (.iconst 3, 1) := by decide +kernel
theorem dL_fits_146 : decode cL_fits 146 = .ok (.iload_n 2, 1) := by decide +kernel
theorem dL_fits_147 : decode cL_fits 147 = .ok (.imul, 1) := by decide +kernel
theorem dL_fits_148 : decode cL_fits 148 = .ok (.iload_n 3, 1) := by decide +kernel
theorem dL_fits_149 : decode cL_fits 149 = .ok (.iadd, 1) := by decide +kernel
theorem dL_fits_150 : decode cL_fits 150 = .ok (.iaload, 1) := by decide +kernel
theorem dL_fits_151 : decode cL_fits 151 = .ok (.iload 4, 2) := by decide +kernel
theorem dL_fits_153 : decode cL_fits 153 = .ok (.ishr, 1) := by decide +kernel
theorem dL_fits_154 : decode cL_fits 154 = .ok (.iconst 1, 1) := by decide +kernel
theorem dL_fits_155 : decode cL_fits 155 = .ok (.iand, 1) := by decide +kernel
theorem dL_fits_156 : decode cL_fits 156 = .ok (.iconst 1, 1) := by decide +kernel
theorem dL_fits_157 : decode cL_fits 157 = .ok (.if_icmp .ne 7, 3) := by decide +kernel
theorem dL_fits_160 : decode cL_fits 160 = .ok (.iconst 1, 1) := by decide +kernel
theorem dL_fits_161 : decode cL_fits 161 = .ok (.goto 4, 3) := by decide +kernel
theorem dL_fits_164 : decode cL_fits 164 = .ok (.iconst 0, 1) := by decide +kernel
theorem dL_fits_165 : decode cL_fits 165 = .ok (.istore 6, 2) := by decide +kernel
theorem dL_fits_167 : decode cL_fits 167 = .ok (.iinc 7 1, 3) := by decide +kernel
theorem dL_fits_170 : decode cL_fits 170 = .ok (.goto (-138), 3) := by decide +kernel
theorem dL_fits_173 : decode cL_fits 173 = .ok (.iload 6, 2) := by decide +kernel
theorem dL_fits_175 : decode cL_fits 175 = .ok (.ireturn, 1) := by decide +kernel
theorem dL_kind_0 : decode cL_kind 0 = .ok (.iload_n 2, 1) := by decide +kernel
theorem dL_kind_1 : decode cL_kind 1 = .ok (.ifCond .eq 22, 3) := by decide +kernel
theorem dL_kind_4 : decode cL_kind 4 = .ok (.iload_n 2, 1) := by decide +kernel
theorem dL_kind_5 : decode cL_kind 5 = .ok (.aload_n 0, 1) := by decide +kernel
theorem dL_kind_6 : decode cL_kind 6 = .ok (.iconst 3, 1) := by decide +kernel
theorem dL_kind_7 : decode cL_kind 7 = .ok (.iload_n 1, 1) := by decide +kernel
theorem dL_kind_8 : decode cL_kind 8 = .ok (.iadd, 1) := by decide +kernel
theorem dL_kind_9 : decode cL_kind 9 = .ok (.iaload, 1) := by decide +kernel
theorem dL_kind_10 : decode cL_kind 10 = .ok (.if_icmp .le 15, 3) := by decide +kernel
theorem dL_kind_13 : decode cL_kind 13 = .ok (.iload_n 2, 1) := by decide +kernel
theorem dL_kind_14 : decode cL_kind 14 = .ok (.aload_n 0, 1) := by decide +kernel
theorem dL_kind_15 : decode cL_kind 15 = .ok (.bipush 6, 2) := by decide +kernel
theorem dL_kind_17 : decode cL_kind 17 = .ok (.iload_n 1, 1) := by decide +kernel
theorem dL_kind_18 : decode cL_kind 18 = .ok (.iadd, 1) := by decide +kernel
theorem dL_kind_19 : decode cL_kind 19 = .ok (.iaload, 1) := by decide +kernel
theorem dL_kind_20 : decode cL_kind 20 = .ok (.if_icmp .le 5, 3) := by decide +kernel
theorem dL_kind_23 : decode cL_kind 23 = .ok (.iconst 2, 1) := by decide +kernel
theorem dL_kind_24 : decode cL_kind 24 = .ok (.ireturn, 1) := by decide +kernel
theorem dL_kind_25 : decode cL_kind 25 = .ok (.iload_n 2, 1) := by decide +kernel
theorem dL_kind_26 : decode cL_kind 26 = .ok (.aload_n 0, 1) := by decide +kernel
theorem dL_kind_27 : decode cL_kind 27 = .ok (.iconst 3, 1) := by decide +kernel
theorem dL_kind_28 : decode cL_kind 28 = .ok (.iload_n 1, 1) := by decide +kernel
theorem dL_kind_29 : decode cL_kind 29 = .ok (.iadd, 1) := by decide +kernel
theorem dL_kind_30 : decode cL_kind 30 = .ok (.iaload, 1) := by decide +kernel
theorem dL_kind_31 : decode cL_kind 31 = .ok (.if_icmp .gt 7, 3) := by decide +kernel
theorem dL_kind_34 : decode cL_kind 34 = .ok (.iconst 0, 1) := by decide +kernel
theorem dL_kind_35 : decode cL_kind 35 = .ok (.goto 4, 3) := by decide +kernel
theorem dL_kind_38 : decode cL_kind 38 = .ok (.iconst 1, 1) := by decide +kernel
theorem dL_kind_39 : decode cL_kind 39 = .ok (.ireturn, 1) := by decide +kernel
set_option maxRecDepth 20000 in
theorem ggL_told_L_kind : GoodIn wsL_told wsL_kind := goodIn_r _ [4] (by decide +kernel) (by decide +kernel)
set_option maxRecDepth 20000 in
theorem gL_told_L_kind : GoodIn wsL_told (va_wsS RL 15 yL_kind wsL_kind) := goodIn_app (goodIn_of _ (by decide +kernel)) ggL_told_L_kind
set_option maxRecDepth 20000 in
theorem ggL_told_L_fits : GoodIn wsL_told wsL_fits := goodIn_r _ [7, 8, 9, 3, 10] (by decide +kernel) (by decide +kernel)
set_option maxRecDepth 20000 in
theorem gL_told_L_fits : GoodIn wsL_told (va_wsS RL 19 yL_fits wsL_fits) := goodIn_app (goodIn_of _ (by decide +kernel)) ggL_told_L_fits
theorem dL_told_0 : decode cL_told 0 = .ok (.iconst (-1), 1) := by decide +kernel
theorem dL_told_1 : decode cL_told 1 = .ok (.istore 7, 2) := by decide +kernel
theorem dL_told_3 : decode cL_told 3 = .ok (.sipush 1000, 3) := by decide +kernel
theorem dL_told_6 : decode cL_told 6 = .ok (.istore 8, 2) := by decide +kernel
theorem dL_told_8 : decode cL_told 8 = .ok (.iconst 0, 1) := by decide +kernel
theorem dL_told_9 : decode cL_told 9 = .ok (.istore 9, 2) := by decide +kernel
theorem dL_told_11 : decode cL_told 11 = .ok (.iload 4, 2) := by decide +kernel
theorem dL_told_13 : decode cL_told 13 = .ok (.istore 10, 2) := by decide +kernel
theorem dL_told_15 : decode cL_told 15 = .ok (.iload 9, 2) := by decide +kernel
theorem dL_told_17 : decode cL_told 17 = .ok (.iconst 3, 1) := by decide +kernel
theorem dL_told_18 : decode cL_told 18 = .ok (.if_icmp .ge 192, 3) := by decide +kernel
theorem dL_told_21 : decode cL_told 21 = .ok (.aload_n 2, 1) := by decide +kernel
theorem dL_told_22 : decode cL_told 22 = .ok (.iload 10, 2) := by decide +kernel
theorem dL_told_24 : decode cL_told 24 = .ok (.iload 5, 2) := by decide +kernel
theorem dL_told_26 : decode cL_told 26 = .ok (.invokestatic 15, 3) := by decide +kernel
theorem dL_told_29 : decode cL_told 29 = .ok (.istore 11, 2) := by decide +kernel
theorem dL_told_31 : decode cL_told 31 = .ok (.iconst 0, 1) := by decide +kernel
theorem dL_told_32 : decode cL_told 32 = .ok (.istore 12, 2) := by decide +kernel
theorem dL_told_34 : decode cL_told 34 = .ok (.iload 12, 2) := by decide +kernel
theorem dL_told_36 : decode cL_told 36 = .ok (.bipush 9, 2) := by decide +kernel
theorem dL_told_38 : decode cL_told 38 = .ok (.if_icmp .ge 148, 3) := by decide +kernel
theorem dL_told_41 : decode cL_told 41 = .ok (.iload 12, 2) := by decide +kernel
theorem dL_told_43 : decode cL_told 43 = .ok (.iconst 3, 1) := by decide +kernel
theorem dL_told_44 : decode cL_told 44 = .ok (.idiv, 1) := by decide +kernel
theorem dL_told_45 : decode cL_told 45 = .ok (.iload 11, 2) := by decide +kernel
theorem dL_told_47 : decode cL_told 47 = .ok (.if_icmp .ne 7, 3) := by decide +kernel
theorem dL_told_50 : decode cL_told 50 = .ok (.iconst 1, 1) := by decide +kernel
theorem dL_told_51 : decode cL_told 51 = .ok (.goto 4, 3) := by decide +kernel
theorem dL_told_54 : decode cL_told 54 = .ok (.iconst 0, 1) := by decide +kernel
theorem dL_told_55 : decode cL_told 55 = .ok (.istore 13, 2) := by decide +kernel
theorem dL_told_57 : decode cL_told 57 = .ok (.iload 13, 2) := by decide +kernel
theorem dL_told_59 : decode cL_told 59 = .ok (.ifCond .eq 16, 3) := by decide +kernel
theorem dL_told_62 : decode cL_told 62 = .ok (.iload 12, 2) := by decide +kernel
theorem dL_told_64 : decode cL_told 64 = .ok (.iconst 3, 1) := by decide +kernel
theorem dL_told_65 : decode cL_told 65 = .ok (.irem, 1) := by decide +kernel
theorem dL_told_66 : decode cL_told 66 = .ok (.iload 6, 2) := by decide +kernel
theorem dL_told_68 : decode cL_told 68 = .ok (.if_icmp .ne 7, 3) := by decide +kernel
theorem dL_told_71 : decode cL_told 71 = .ok (.iconst 0, 1) := by decide +kernel
theorem dL_told_72 : decode cL_told 72 = .ok (.goto 54, 3) := by decide +kernel
theorem dL_told_75 : decode cL_told 75 = .ok (.iload 13, 2) := by decide +kernel
theorem dL_told_77 : decode cL_told 77 = .ok (.ifCond .eq 14, 3) := by decide +kernel
theorem dL_told_80 : decode cL_told 80 = .ok (.iload 12, 2) := by decide +kernel
theorem dL_told_82 : decode cL_told 82 = .ok (.iconst 3, 1) := by decide +kernel
theorem dL_told_83 : decode cL_told 83 = .ok (.irem, 1) := by decide +kernel
theorem dL_told_84 : decode cL_told 84 = .ok (.ifCond .ne 7, 3) := by decide +kernel
theorem dL_told_87 : decode cL_told 87 = .ok (.iconst 1, 1) := by decide +kernel
theorem dL_told_88 : decode cL_told 88 = .ok (.goto 38, 3) := by decide +kernel
theorem dL_told_91 : decode cL_told 91 = .ok (.iload 12, 2) := by decide +kernel
theorem dL_told_93 : decode cL_told 93 = .ok (.iconst 3, 1) := by decide +kernel
theorem dL_told_94 : decode cL_told 94 = .ok (.idiv, 1) := by decide +kernel
theorem dL_told_95 : decode cL_told 95 = .ok (.iconst 2, 1) := by decide +kernel
theorem dL_told_96 : decode cL_told 96 = .ok (.if_icmp .ne 16, 3) := by decide +kernel
theorem dL_told_99 : decode cL_told 99 = .ok (.iload 12, 2) := by decide +kernel
theorem dL_told_101 : decode cL_told 101 = .ok (.iconst 3, 1) := by decide +kernel
theorem dL_told_102 : decode cL_told 102 = .ok (.irem, 1) := by decide +kernel
theorem dL_told_103 : decode cL_told 103 = .ok (.iload 6, 2) := by decide +kernel
theorem dL_told_105 : decode cL_told 105 = .ok (.if_icmp .ne 7, 3) := by decide +kernel
theorem dL_told_108 : decode cL_told 108 = .ok (.iconst 2, 1) := by decide +kernel
theorem dL_told_109 : decode cL_told 109 = .ok (.goto 17, 3) := by decide +kernel
theorem dL_told_112 : decode cL_told 112 = .ok (.iload 12, 2) := by decide +kernel
theorem dL_told_114 : decode cL_told 114 = .ok (.bipush 6, 2) := by decide +kernel
theorem dL_told_116 : decode cL_told 116 = .ok (.if_icmp .ne 7, 3) := by decide +kernel
theorem dL_told_119 : decode cL_told 119 = .ok (.iconst 3, 1) := by decide +kernel
theorem dL_told_120 : decode cL_told 120 = .ok (.goto 6, 3) := by decide +kernel
theorem dL_told_123 : decode cL_told 123 = .ok (.sipush 1000, 3) := by decide +kernel
theorem dL_told_126 : decode cL_told 126 = .ok (.istore 14, 2) := by decide +kernel
theorem dL_told_128 : decode cL_told 128 = .ok (.iload 14, 2) := by decide +kernel
theorem dL_told_130 : decode cL_told 130 = .ok (.sipush 1000, 3) := by decide +kernel
theorem dL_told_133 : decode cL_told 133 = .ok (.if_icmp .ge 47, 3) := by decide +kernel
theorem dL_told_136 : decode cL_told 136 = .ok (.iconst 4, 1) := by decide +kernel
theorem dL_told_137 : decode cL_told 137 = .ok (.iload 9, 2) := by decide +kernel
theorem dL_told_139 : decode cL_told 139 = .ok (.imul, 1) := by decide +kernel
theorem dL_told_140 : decode cL_told 140 = .ok (.iload 14, 2) := by decide +kernel
theorem dL_told_142 : decode cL_told 142 = .ok (.iadd, 1) := by decide +kernel
theorem dL_told_143 : decode cL_told 143 = .ok (.iload 8, 2) := by decide +kernel
theorem dL_told_145 : decode cL_told 145 = .ok (.if_icmp .ge 35, 3) := by decide +kernel
theorem dL_told_148 : decode cL_told 148 = .ok (.aload_n 0, 1) := by decide +kernel
theorem dL_told_149 : decode cL_told 149 = .ok (.aload_n 1, 1) := by decide +kernel
theorem dL_told_150 : decode cL_told 150 = .ok (.iload_n 3, 1) := by decide +kernel
theorem dL_told_151 : decode cL_told 151 = .ok (.iload 10, 2) := by decide +kernel
theorem dL_told_153 : decode cL_told 153 = .ok (.iload 12, 2) := by decide +kernel
theorem dL_told_155 : decode cL_told 155 = .ok (.invokestatic 19, 3) := by decide +kernel
theorem dL_told_158 : decode cL_told 158 = .ok (.ifCond .eq 22, 3) := by decide +kernel
theorem dL_told_161 : decode cL_told 161 = .ok (.iconst 4, 1) := by decide +kernel
theorem dL_told_162 : decode cL_told 162 = .ok (.iload 9, 2) := by decide +kernel
theorem dL_told_164 : decode cL_told 164 = .ok (.imul, 1) := by decide +kernel
theorem dL_told_165 : decode cL_told 165 = .ok (.iload 14, 2) := by decide +kernel
theorem dL_told_167 : decode cL_told 167 = .ok (.iadd, 1) := by decide +kernel
theorem dL_told_168 : decode cL_told 168 = .ok (.istore 8, 2) := by decide +kernel
theorem dL_told_170 : decode cL_told 170 = .ok (.bipush 9, 2) := by decide +kernel
theorem dL_told_172 : decode cL_told 172 = .ok (.iload 10, 2) := by decide +kernel
theorem dL_told_174 : decode cL_told 174 = .ok (.imul, 1) := by decide +kernel
theorem dL_told_175 : decode cL_told 175 = .ok (.iload 12, 2) := by decide +kernel
theorem dL_told_177 : decode cL_told 177 = .ok (.iadd, 1) := by decide +kernel
theorem dL_told_178 : decode cL_told 178 = .ok (.istore 7, 2) := by decide +kernel
theorem dL_told_180 : decode cL_told 180 = .ok (.iinc 12 1, 3) := by decide +kernel
theorem dL_told_183 : decode cL_told 183 = .ok (.goto (-149), 3) := by decide +kernel
theorem dL_told_186 : decode cL_told 186 = .ok (.iload 10, 2) := by decide +kernel
theorem dL_told_188 : decode cL_told 188 = .ok (.ifCond .ne 7, 3) := by decide +kernel
theorem dL_told_191 : decode cL_told 191 = .ok (.iconst 3, 1) := by decide +kernel
theorem dL_told_192 : decode cL_told 192 = .ok (.goto 7, 3) := by decide +kernel
theorem dL_told_195 : decode cL_told 195 = .ok (.iload 9, 2) := by decide +kernel
theorem dL_told_197 : decode cL_told 197 = .ok (.iconst 1, 1) := by decide +kernel
theorem dL_told_198 : decode cL_told 198 = .ok (.iadd, 1) := by decide +kernel
theorem dL_told_199 : decode cL_told 199 = .ok (.istore 9, 2) := by decide +kernel
theorem dL_told_201 : decode cL_told 201 = .ok (.aload_n 2, 1) := by decide +kernel
theorem dL_told_202 : decode cL_told 202 = .ok (.iload 10, 2) := by decide +kernel
theorem dL_told_204 : decode cL_told 204 = .ok (.iaload, 1) := by decide +kernel
theorem dL_told_205 : decode cL_told 205 = .ok (.istore 10, 2) := by decide +kernel
theorem dL_told_207 : decode cL_told 207 = .ok (.goto (-192), 3) := by decide +kernel
theorem dL_told_210 : decode cL_told 210 = .ok (.iload 7, 2) := by decide +kernel
theorem dL_told_212 : decode cL_told 212 = .ok (.ireturn, 1) := by decide +kernel
set_option maxRecDepth 20000 in
theorem ggL_signAt_L_size : GoodIn wsL_signAt wsL_size := goodIn_r _ [4] (by decide +kernel) (by decide +kernel)
set_option maxRecDepth 20000 in
theorem gL_signAt_L_size : GoodIn wsL_signAt (va_wsS RL 23 yL_size wsL_size) := goodIn_app (goodIn_of _ (by decide +kernel)) ggL_signAt_L_size
theorem dL_signAt_0 : decode cL_signAt 0 = .ok (.iload_n 0, 1) := by decide +kernel
theorem dL_signAt_1 : decode cL_signAt 1 = .ok (.istore_n 2, 1) := by decide +kernel
theorem dL_signAt_2 : decode cL_signAt 2 = .ok (.iload_n 0, 1) := by decide +kernel
theorem dL_signAt_3 : decode cL_signAt 3 = .ok (.invokestatic 23, 3) := by decide +kernel
theorem dL_signAt_6 : decode cL_signAt 6 = .ok (.iconst 1, 1) := by decide +kernel
theorem dL_signAt_7 : decode cL_signAt 7 = .ok (.isub, 1) := by decide +kernel
theorem dL_signAt_8 : decode cL_signAt 8 = .ok (.istore_n 3, 1) := by decide +kernel
theorem dL_signAt_9 : decode cL_signAt 9 = .ok (.iload_n 3, 1) := by decide +kernel
theorem dL_signAt_10 : decode cL_signAt 10 = .ok (.iload_n 1, 1) := by decide +kernel
theorem dL_signAt_11 : decode cL_signAt 11 = .ok (.if_icmp .le 15, 3) := by decide +kernel
theorem dL_signAt_14 : decode cL_signAt 14 = .ok (.iload_n 2, 1) := by decide +kernel
theorem dL_signAt_15 : decode cL_signAt 15 = .ok (.sipush 128, 3) := by decide +kernel
theorem dL_signAt_18 : decode cL_signAt 18 = .ok (.idiv, 1) := by decide +kernel
theorem dL_signAt_19 : decode cL_signAt 19 = .ok (.istore_n 2, 1) := by decide +kernel
theorem dL_signAt_20 : decode cL_signAt 20 = .ok (.iinc 3 (-1), 3) := by decide +kernel
theorem dL_signAt_23 : decode cL_signAt 23 = .ok (.goto (-14), 3) := by decide +kernel
theorem dL_signAt_26 : decode cL_signAt 26 = .ok (.iload_n 2, 1) := by decide +kernel
theorem dL_signAt_27 : decode cL_signAt 27 = .ok (.sipush 128, 3) := by decide +kernel
theorem dL_signAt_30 : decode cL_signAt 30 = .ok (.irem, 1) := by decide +kernel
theorem dL_signAt_31 : decode cL_signAt 31 = .ok (.ireturn, 1) := by decide +kernel
set_option maxRecDepth 20000 in
theorem ggL_distance_L_size : GoodIn wsL_distance wsL_size := goodIn_r _ [5] (by decide +kernel) (by decide +kernel)
set_option maxRecDepth 20000 in
theorem gL_distance_L_size : GoodIn wsL_distance (va_wsS RL 23 yL_size wsL_size) := goodIn_app (goodIn_of _ (by decide +kernel)) ggL_distance_L_size
set_option maxRecDepth 20000 in
theorem ggL_distance_L_signAt : GoodIn wsL_distance wsL_signAt := goodIn_r _ [8, 2, 3, 4, 5] (by decide +kernel) (by decide +kernel)
set_option maxRecDepth 20000 in
theorem gL_distance_L_signAt : GoodIn wsL_distance (va_wsS RL 27 yL_signAt wsL_signAt) := goodIn_app (goodIn_of _ (by decide +kernel)) ggL_distance_L_signAt
theorem dL_distance_0 : decode cL_distance 0 = .ok (.bipush 25, 2) := by decide +kernel
theorem dL_distance_2 : decode cL_distance 2 = .ok (.newarray .int, 2) := by decide +kernel
theorem dL_distance_4 : decode cL_distance 4 = .ok (.astore_n 2, 1) := by decide +kernel
theorem dL_distance_5 : decode cL_distance 5 = .ok (.iconst 0, 1) := by decide +kernel
theorem dL_distance_6 : decode cL_distance 6 = .ok (.istore_n 3, 1) := by decide +kernel
theorem dL_distance_7 : decode cL_distance 7 = .ok (.iload_n 3, 1) := by decide +kernel
theorem dL_distance_8 : decode cL_distance 8 = .ok (.bipush 25, 2) := by decide +kernel
theorem dL_distance_10 : decode cL_distance 10 = .ok (.if_icmp .ge 161, 3) := by decide +kernel
theorem dL_distance_13 : decode cL_distance 13 = .ok (.iload_n 3, 1) := by decide +kernel
theorem dL_distance_14 : decode cL_distance 14 = .ok (.iconst 5, 1) := by decide +kernel
theorem dL_distance_15 : decode cL_distance 15 = .ok (.idiv, 1) := by decide +kernel
theorem dL_distance_16 : decode cL_distance 16 = .ok (.istore 4, 2) := by decide +kernel
theorem dL_distance_18 : decode cL_distance 18 = .ok (.iload_n 3, 1) := by decide +kernel
theorem dL_distance_19 : decode cL_distance 19 = .ok (.iconst 5, 1) := by decide +kernel
theorem dL_distance_20 : decode cL_distance 20 = .ok (.irem, 1) := by decide +kernel
theorem dL_distance_21 : decode cL_distance 21 = .ok (.istore 5, 2) := by decide +kernel
theorem dL_distance_23 : decode cL_distance 23 = .ok (.iload 4, 2) := by decide +kernel
theorem dL_distance_25 : decode cL_distance 25 = .ok (.ifCond .ne 8, 3) := by decide +kernel
theorem dL_distance_28 : decode cL_distance 28 = .ok (.iload 5, 2) := by decide +kernel
theorem dL_distance_30 : decode cL_distance 30 = .ok (.goto 15, 3) := by decide +kernel
theorem dL_distance_33 : decode cL_distance 33 = .ok (.iload 5, 2) := by decide +kernel
theorem dL_distance_35 : decode cL_distance 35 = .ok (.ifCond .ne 8, 3) := by decide +kernel
theorem dL_distance_38 : decode cL_distance 38 = .ok (.iload 4, 2) := by decide +kernel
theorem dL_distance_40 : decode cL_distance 40 = .ok (.goto 5, 3) := by decide +kernel
theorem dL_distance_43 : decode cL_distance 43 = .ok (.bipush 99, 2) := by decide +kernel
theorem dL_distance_45 : decode cL_distance 45 = .ok (.istore 6, 2) := by decide +kernel
theorem dL_distance_47 : decode cL_distance 47 = .ok (.iload 4, 2) := by decide +kernel
theorem dL_distance_49 : decode cL_distance 49 = .ok (.ifCond .le 111, 3) := by decide +kernel
theorem dL_distance_52 : decode cL_distance 52 = .ok (.iload 5, 2) := by decide +kernel
theorem dL_distance_54 : decode cL_distance 54 = .ok (.ifCond .le 106, 3) := by decide +kernel
theorem dL_distance_57 : decode cL_distance 57 = .ok (.iload 4, 2) := by decide +kernel
theorem dL_distance_59 : decode cL_distance 59 = .ok (.iload_n 0, 1) := by decide +kernel
theorem dL_distance_60 : decode cL_distance 60 = .ok (.invokestatic 23, 3) := by decide +kernel
theorem dL_distance_63 : decode cL_distance 63 = .ok (.if_icmp .gt 97, 3) := by decide +kernel
theorem dL_distance_66 : decode cL_distance 66 = .ok (.iload 5, 2) := by decide +kernel
theorem dL_distance_68 : decode cL_distance 68 = .ok (.iload_n 1, 1) := by decide +kernel
theorem dL_distance_69 : decode cL_distance 69 = .ok (.invokestatic 23, 3) := by decide +kernel
theorem dL_distance_72 : decode cL_distance 72 = .ok (.if_icmp .gt 88, 3) := by decide +kernel
theorem dL_distance_75 : decode cL_distance 75 = .ok (.aload_n 2, 1) := by decide +kernel
theorem dL_distance_76 : decode cL_distance 76 = .ok (.iload_n 3, 1) := by decide +kernel
theorem dL_distance_77 : decode cL_distance 77 = .ok (.bipush 6, 2) := by decide +kernel
theorem dL_distance_79 : decode cL_distance 79 = .ok (.isub, 1) := by decide +kernel
theorem dL_distance_80 : decode cL_distance 80 = .ok (.iaload, 1) := by decide +kernel
theorem dL_distance_81 : decode cL_distance 81 = .ok (.iload_n 0, 1) := by decide +kernel
theorem dL_distance_82 : decode cL_distance 82 = .ok (.iload 4, 2) := by decide +kernel
theorem dL_distance_84 : decode cL_distance 84 = .ok (.iconst 1, 1) := by decide +kernel
theorem dL_distance_85 : decode cL_distance 85 = .ok (.isub, 1) := by decide +kernel
theorem dL_distance_86 : decode cL_distance 86 = .ok (.invokestatic 27, 3) := by decide +kernel
theorem dL_distance_89 : decode cL_distance 89 = .ok (.iload_n 1, 1) := by decide +kernel
theorem dL_distance_90 : decode cL_distance 90 = .ok (.iload 5, 2) := by decide +kernel
theorem dL_distance_92 : decode cL_distance 92 = .ok (.iconst 1, 1) := by decide +kernel
theorem dL_distance_93 : decode cL_distance 93 = .ok (.isub, 1) := by decide +kernel
theorem dL_distance_94 : decode cL_distance 94 = .ok (.invokestatic 27, 3) := by decide +kernel
theorem dL_distance_97 : decode cL_distance 97 = .ok (.if_icmp .ne 7, 3) := by decide +kernel
theorem dL_distance_100 : decode cL_distance 100 = .ok (.iconst 0, 1) := by decide +kernel
theorem dL_distance_101 : decode cL_distance 101 = .ok (.goto 4, 3) := by decide +kernel
theorem dL_distance_104 : decode cL_distance 104 = .ok (.iconst 1, 1) := by decide +kernel
theorem dL_distance_105 : decode cL_distance 105 = .ok (.iadd, 1) := by decide +kernel
theorem dL_distance_106 : decode cL_distance 106 = .ok (.istore 6, 2) := by decide +kernel
theorem dL_distance_108 : decode cL_distance 108 = .ok (.aload_n 2, 1) := by decide +kernel
theorem dL_distance_109 : decode cL_distance 109 = .ok (.iload_n 3, 1) := by decide +kernel
theorem dL_distance_110 : decode cL_distance 110 = .ok (.iconst 5, 1) := by decide +kernel
theorem dL_distance_111 : decode cL_distance 111 = .ok (.isub, 1) := by decide +kernel
theorem dL_distance_112 : decode cL_distance 112 = .ok (.iaload, 1) := by decide +kernel
theorem dL_distance_113 : decode cL_distance 113 = .ok (.iconst 1, 1) := by decide +kernel
theorem dL_distance_114 : decode cL_distance 114 = .ok (.iadd, 1) := by decide +kernel
theorem dL_distance_115 : decode cL_distance 115 = .ok (.iload 6, 2) := by decide +kernel
theorem dL_distance_117 : decode cL_distance 117 = .ok (.if_icmp .ge 13, 3) := by decide +kernel
theorem dL_distance_120 : decode cL_distance 120 = .ok (.aload_n 2, 1) := by decide +kernel
theorem dL_distance_121 : decode cL_distance 121 = .ok (.iload_n 3, 1) := by decide +kernel
theorem dL_distance_122 : decode cL_distance 122 = .ok (.iconst 5, 1) := by decide +kernel
theorem dL_distance_123 : decode cL_distance 123 = .ok (.isub, 1) := by decide +kernel
theorem dL_distance_124 : decode cL_distance 124 = .ok (.iaload, 1) := by decide +kernel
theorem dL_distance_125 : decode cL_distance 125 = .ok (.iconst 1, 1) := by decide +kernel
theorem dL_distance_126 : decode cL_distance 126 = .ok (.iadd, 1) := by decide +kernel
theorem dL_distance_127 : decode cL_distance 127 = .ok (.goto 5, 3) := by decide +kernel
theorem dL_distance_130 : decode cL_distance 130 = .ok (.iload 6, 2) := by decide +kernel
theorem dL_distance_132 : decode cL_distance 132 = .ok (.istore 6, 2) := by decide +kernel
theorem dL_distance_134 : decode cL_distance 134 = .ok (.aload_n 2, 1) := by decide +kernel
theorem dL_distance_135 : decode cL_distance 135 = .ok (.iload_n 3, 1) := by decide +kernel
theorem dL_distance_136 : decode cL_distance 136 = .ok (.iconst 1, 1) := by decide +kernel
theorem dL_distance_137 : decode cL_distance 137 = .ok (.isub, 1) := by decide +kernel
theorem dL_distance_138 : decode cL_distance 138 = .ok (.iaload, 1) := by decide +kernel
theorem dL_distance_139 : decode cL_distance 139 = .ok (.iconst 1, 1) := by decide +kernel
theorem dL_distance_140 : decode cL_distance 140 = .ok (.iadd, 1) := by decide +kernel
theorem dL_distance_141 : decode cL_distance 141 = .ok (.iload 6, 2) := by decide +kernel
theorem dL_distance_143 : decode cL_distance 143 = .ok (.if_icmp .ge 13, 3) := by decide +kernel
theorem dL_distance_146 : decode cL_distance 146 = .ok (.aload_n 2, 1) := by decide +kernel
theorem dL_distance_147 : decode cL_distance 147 = .ok (.iload_n 3, 1) := by decide +kernel
theorem dL_distance_148 : decode cL_distance 148 = .ok (.iconst 1, 1) := by decide +kernel
theorem dL_distance_149 : decode cL_distance 149 = .ok (.isub, 1) := by decide +kernel
theorem dL_distance_150 : decode cL_distance 150 = .ok (.iaload, 1) := by decide +kernel
theorem dL_distance_151 : decode cL_distance 151 = .ok (.iconst 1, 1) := by decide +kernel
theorem dL_distance_152 : decode cL_distance 152 = .ok (.iadd, 1) := by decide +kernel
theorem dL_distance_153 : decode cL_distance 153 = .ok (.goto 5, 3) := by decide +kernel
theorem dL_distance_156 : decode cL_distance 156 = .ok (.iload 6, 2) := by decide +kernel
theorem dL_distance_158 : decode cL_distance 158 = .ok (.istore 6, 2) := by decide +kernel
theorem dL_distance_160 : decode cL_distance 160 = .ok (.aload_n 2, 1) := by decide +kernel
theorem dL_distance_161 : decode cL_distance 161 = .ok (.iload_n 3, 1) := by decide +kernel
theorem dL_distance_162 : decode cL_distance 162 = .ok (.iload 6, 2) := by decide +kernel
theorem dL_distance_164 : decode cL_distance 164 = .ok (.iastore, 1) := by decide +kernel
theorem dL_distance_165 : decode cL_distance 165 = .ok (.iinc 3 1, 3) := by decide +kernel
theorem dL_distance_168 : decode cL_distance 168 = .ok (.goto (-161), 3) := by decide +kernel
theorem dL_distance_171 : decode cL_distance 171 = .ok (.aload_n 2, 1) := by decide +kernel
theorem dL_distance_172 : decode cL_distance 172 = .ok (.iconst 5, 1) := by decide +kernel
theorem dL_distance_173 : decode cL_distance 173 = .ok (.iload_n 0, 1) := by decide +kernel
theorem dL_distance_174 : decode cL_distance 174 = .ok (.invokestatic 23, 3) := by decide +kernel
theorem dL_distance_177 : decode cL_distance 177 = .ok (.imul, 1) := by decide +kernel
theorem dL_distance_178 : decode cL_distance 178 = .ok (.iload_n 1, 1) := by decide +kernel
theorem dL_distance_179 : decode cL_distance 179 = .ok (.invokestatic 23, 3) := by decide +kernel
theorem dL_distance_182 : decode cL_distance 182 = .ok (.iadd, 1) := by decide +kernel
theorem dL_distance_183 : decode cL_distance 183 = .ok (.iaload, 1) := by decide +kernel
theorem dL_distance_184 : decode cL_distance 184 = .ok (.ireturn, 1) := by decide +kernel
set_option maxRecDepth 20000 in
theorem ggL_near_L_distance : GoodIn wsL_near wsL_distance := goodIn_r _ [4, 5, 6, 7, 3, 8, 9, 10, 11] (by decide +kernel) (by decide +kernel)
set_option maxRecDepth 20000 in
theorem gL_near_L_distance : GoodIn wsL_near (va_wsS RL 31 yL_distance wsL_distance) := goodIn_app (goodIn_of _ (by decide +kernel)) ggL_near_L_distance
set_option maxRecDepth 20000 in
theorem ggL_near_L_size : GoodIn wsL_near wsL_size := goodIn_r _ [8] (by decide +kernel) (by decide +kernel)
set_option maxRecDepth 20000 in
theorem gL_near_L_size : GoodIn wsL_near (va_wsS RL 23 yL_size wsL_size) := goodIn_app (goodIn_of _ (by decide +kernel)) ggL_near_L_size
theorem dL_near_0 : decode cL_near 0 = .ok (.aload_n 0, 1) := by decide +kernel
theorem dL_near_1 : decode cL_near 1 = .ok (.bipush 27, 2) := by decide +kernel
theorem dL_near_3 : decode cL_near 3 = .ok (.iload_n 3, 1) := by decide +kernel
theorem dL_near_4 : decode cL_near 4 = .ok (.imul, 1) := by decide +kernel
theorem dL_near_5 : decode cL_near 5 = .ok (.iload 5, 2) := by decide +kernel
theorem dL_near_7 : decode cL_near 7 = .ok (.iadd, 1) := by decide +kernel
theorem dL_near_8 : decode cL_near 8 = .ok (.iaload, 1) := by decide +kernel
theorem dL_near_9 : decode cL_near 9 = .ok (.istore 6, 2) := by decide +kernel
theorem dL_near_11 : decode cL_near 11 = .ok (.iconst (-1), 1) := by decide +kernel
theorem dL_near_12 : decode cL_near 12 = .ok (.istore 7, 2) := by decide +kernel
theorem dL_near_14 : decode cL_near 14 = .ok (.aload_n 2, 1) := by decide +kernel
theorem dL_near_15 : decode cL_near 15 = .ok (.iconst 0, 1) := by decide +kernel
theorem dL_near_16 : decode cL_near 16 = .ok (.iaload, 1) := by decide +kernel
theorem dL_near_17 : decode cL_near 17 = .ok (.iconst 1, 1) := by decide +kernel
theorem dL_near_18 : decode cL_near 18 = .ok (.isub, 1) := by decide +kernel
theorem dL_near_19 : decode cL_near 19 = .ok (.istore 8, 2) := by decide +kernel
theorem dL_near_21 : decode cL_near 21 = .ok (.iload 8, 2) := by decide +kernel
theorem dL_near_23 : decode cL_near 23 = .ok (.ifCond .lt 89, 3) := by decide +kernel
theorem dL_near_26 : decode cL_near 26 = .ok (.iload 6, 2) := by decide +kernel
theorem dL_near_28 : decode cL_near 28 = .ok (.ifCond .le 84, 3) := by decide +kernel
theorem dL_near_31 : decode cL_near 31 = .ok (.aload_n 1, 1) := by decide +kernel
theorem dL_near_32 : decode cL_near 32 = .ok (.iconst 3, 1) := by decide +kernel
theorem dL_near_33 : decode cL_near 33 = .ok (.iload 8, 2) := by decide +kernel
theorem dL_near_35 : decode cL_near 35 = .ok (.imul, 1) := by decide +kernel
theorem dL_near_36 : decode cL_near 36 = .ok (.iaload, 1) := by decide +kernel
theorem dL_near_37 : decode cL_near 37 = .ok (.iload 4, 2) := by decide +kernel
theorem dL_near_39 : decode cL_near 39 = .ok (.if_icmp .ne 19, 3) := by decide +kernel
theorem dL_near_42 : decode cL_near 42 = .ok (.aload_n 1, 1) := by decide +kernel
theorem dL_near_43 : decode cL_near 43 = .ok (.iconst 3, 1) := by decide +kernel
theorem dL_near_44 : decode cL_near 44 = .ok (.iload 8, 2) := by decide +kernel
theorem dL_near_46 : decode cL_near 46 = .ok (.imul, 1) := by decide +kernel
theorem dL_near_47 : decode cL_near 47 = .ok (.iconst 1, 1) := by decide +kernel
theorem dL_near_48 : decode cL_near 48 = .ok (.iadd, 1) := by decide +kernel
theorem dL_near_49 : decode cL_near 49 = .ok (.iaload, 1) := by decide +kernel
theorem dL_near_50 : decode cL_near 50 = .ok (.iload 6, 2) := by decide +kernel
theorem dL_near_52 : decode cL_near 52 = .ok (.invokestatic 31, 3) := by decide +kernel
theorem dL_near_55 : decode cL_near 55 = .ok (.goto 5, 3) := by decide +kernel
theorem dL_near_58 : decode cL_near 58 = .ok (.bipush 99, 2) := by decide +kernel
theorem dL_near_60 : decode cL_near 60 = .ok (.istore 9, 2) := by decide +kernel
theorem dL_near_62 : decode cL_near 62 = .ok (.iload 9, 2) := by decide +kernel
theorem dL_near_64 : decode cL_near 64 = .ok (.iload 6, 2) := by decide +kernel
theorem dL_near_66 : decode cL_near 66 = .ok (.invokestatic 23, 3) := by decide +kernel
theorem dL_near_69 : decode cL_near 69 = .ok (.iconst 2, 1) := by decide +kernel
theorem dL_near_70 : decode cL_near 70 = .ok (.idiv, 1) := by decide +kernel
theorem dL_near_71 : decode cL_near 71 = .ok (.if_icmp .gt 31, 3) := by decide +kernel
theorem dL_near_74 : decode cL_near 74 = .ok (.iload 7, 2) := by decide +kernel
theorem dL_near_76 : decode cL_near 76 = .ok (.ifCond .lt 21, 3) := by decide +kernel
theorem dL_near_79 : decode cL_near 79 = .ok (.iload 9, 2) := by decide +kernel
theorem dL_near_81 : decode cL_near 81 = .ok (.aload_n 1, 1) := by decide +kernel
theorem dL_near_82 : decode cL_near 82 = .ok (.iconst 3, 1) := by decide +kernel
theorem dL_near_83 : decode cL_near 83 = .ok (.iload 7, 2) := by decide +kernel
theorem dL_near_85 : decode cL_near 85 = .ok (.imul, 1) := by decide +kernel
theorem dL_near_86 : decode cL_near 86 = .ok (.iconst 1, 1) := by decide +kernel
theorem dL_near_87 : decode cL_near 87 = .ok (.iadd, 1) := by decide +kernel
theorem dL_near_88 : decode cL_near 88 = .ok (.iaload, 1) := by decide +kernel
theorem dL_near_89 : decode cL_near 89 = .ok (.iload 6, 2) := by decide +kernel
theorem dL_near_91 : decode cL_near 91 = .ok (.invokestatic 31, 3) := by decide +kernel
theorem dL_near_94 : decode cL_near 94 = .ok (.if_icmp .ge 8, 3) := by decide +kernel
theorem dL_near_97 : decode cL_near 97 = .ok (.iload 8, 2) := by decide +kernel
theorem dL_near_99 : decode cL_near 99 = .ok (.goto 5, 3) := by decide +kernel
theorem dL_near_102 : decode cL_near 102 = .ok (.iload 7, 2) := by decide +kernel
theorem dL_near_104 : decode cL_near 104 = .ok (.istore 7, 2) := by decide +kernel
theorem dL_near_106 : decode cL_near 106 = .ok (.iinc 8 (-1), 3) := by decide +kernel
theorem dL_near_109 : decode cL_near 109 = .ok (.goto (-88), 3) := by decide +kernel
theorem dL_near_112 : decode cL_near 112 = .ok (.iload 7, 2) := by decide +kernel
theorem dL_near_114 : decode cL_near 114 = .ok (.ireturn, 1) := by decide +kernel
set_option maxRecDepth 20000 in
theorem ggL_signTold_X2_toldSign : GoodIn wsL_signTold wsX2_toldSign := goodIn_ca (goodIn_ca (goodIn_r _ [6, 7, 8, 9, 10, 11, 12, 5, 13, 14, 15, 16, 17, 18, 19, 20, 21, 22, 23, 24, 25, 26, 27, 28, 29, 30, 31, 32, 33, 34, 35, 36, 37, 38, 39, 40, 41, 42, 43, 44, 45, 46, 47, 48, 49, 50, 51, 52, 53, 54, 55, 56, 57, 58, 59, 60, 61, 62, 63, 64, 65, 66, 67, 68, 69, 70, 71, 72, 73, 74, 75] (by decide +kernel) (by decide +kernel)) (goodIn_sub (fun _ h => List.mem_cons_of_mem _ (List.mem_append_left _ (List.mem_append_right _ h))) (by decide +kernel))) (goodIn_sub (fun _ h => List.mem_cons_of_mem _ (List.mem_append_right _ h)) (by decide +kernel))
set_option maxRecDepth 20000 in
theorem gL_signTold_X2_toldSign : GoodIn wsL_signTold (wsV RL 34 RX2 yX2_toldSign wsX2_toldSign) := goodIn_app (goodIn_of _ (by decide +kernel)) ggL_signTold_X2_toldSign
theorem dL_signTold_0 : decode cL_signTold 0 = .ok (.aload_n 0, 1) := by decide +kernel
theorem dL_signTold_1 : decode cL_signTold 1 = .ok (.iload_n 1, 1) := by decide +kernel
theorem dL_signTold_2 : decode cL_signTold 2 = .ok (.iload_n 2, 1) := by decide +kernel
theorem dL_signTold_3 : decode cL_signTold 3 = .ok (.iload_n 3, 1) := by decide +kernel
theorem dL_signTold_4 : decode cL_signTold 4 = .ok (.iload 4, 2) := by decide +kernel
theorem dL_signTold_6 : decode cL_signTold 6 = .ok (.iload 5, 2) := by decide +kernel
theorem dL_signTold_8 : decode cL_signTold 8 = .ok (.invokevirtual 34, 3) := by decide +kernel
theorem dL_signTold_11 : decode cL_signTold 11 = .ok (.ireturn, 1) := by decide +kernel
theorem dL_signTold_12 : decode cL_signTold 12 = .ok (.astore 6, 2) := by decide +kernel
theorem dL_signTold_14 : decode cL_signTold 14 = .ok (.bipush (-5), 2) := by decide +kernel
theorem dL_signTold_16 : decode cL_signTold 16 = .ok (.ireturn, 1) := by decide +kernel
set_option maxRecDepth 20000 in
theorem ggL_removed_X2_remove : GoodIn wsL_removed wsX2_remove := goodIn_ca (goodIn_ca (goodIn_r _ [6, 7, 8, 9, 10, 11, 12, 5, 13, 14, 15, 16, 17, 18, 19, 20, 21, 22, 23, 24, 25, 26, 27, 28, 29, 30, 31, 32, 33, 34, 35, 36, 37, 38, 39, 40, 41, 42, 43, 44, 45, 46, 47, 48, 49, 50, 51, 52, 53, 54, 55, 56, 57, 58, 59, 60, 61, 62, 63, 64, 65, 66, 67, 68, 69, 70, 71, 72, 73, 74, 75, 76, 77, 78, 79, 80, 81, 82, 83, 84, 85, 86, 87, 88, 89, 90, 91, 92, 93, 94, 95, 96, 97, 98, 99, 100, 101, 102, 103, 104, 105, 106, 107, 108, 109, 110, 111, 112, 113, 114, 115, 116, 117, 118, 119, 120, 121, 122, 123, 124, 125, 126, 127, 128, 129, 130, 131, 132, 133, 134, 135, 136, 137, 138, 139, 140, 141, 142, 143, 144, 145, 146, 147, 148, 149, 150, 151, 152, 153] (by decide +kernel) (by decide +kernel)) (goodIn_sub (fun _ h => List.mem_cons_of_mem _ (List.mem_append_left _ (List.mem_append_right _ h))) (by decide +kernel))) (goodIn_sub (fun _ h => List.mem_cons_of_mem _ (List.mem_append_right _ h)) (by decide +kernel))
set_option maxRecDepth 20000 in
theorem gL_removed_X2_remove : GoodIn wsL_removed (wsV RL 42 RX2 yX2_remove wsX2_remove) := goodIn_app (goodIn_of _ (by decide +kernel)) ggL_removed_X2_remove
theorem dL_removed_0 : decode cL_removed 0 = .ok (.aload_n 0, 1) := by decide +kernel
theorem dL_removed_1 : decode cL_removed 1 = .ok (.iload_n 1, 1) := by decide +kernel
theorem dL_removed_2 : decode cL_removed 2 = .ok (.iload_n 2, 1) := by decide +kernel
theorem dL_removed_3 : decode cL_removed 3 = .ok (.iload_n 3, 1) := by decide +kernel
theorem dL_removed_4 : decode cL_removed 4 = .ok (.iload 4, 2) := by decide +kernel
theorem dL_removed_6 : decode cL_removed 6 = .ok (.invokevirtual 42, 3) := by decide +kernel
theorem dL_removed_9 : decode cL_removed 9 = .ok (.ireturn, 1) := by decide +kernel
theorem dL_removed_10 : decode cL_removed 10 = .ok (.astore 5, 2) := by decide +kernel
theorem dL_removed_12 : decode cL_removed 12 = .ok (.bipush (-5), 2) := by decide +kernel
theorem dL_removed_14 : decode cL_removed 14 = .ok (.ireturn, 1) := by decide +kernel
set_option maxRecDepth 20000 in
theorem ggL_fallen_X2_setFallback : GoodIn wsL_fallen wsX2_setFallback := goodIn_ca (goodIn_ca (goodIn_r _ [6, 7, 8, 9, 10, 11, 12, 13, 5, 14, 15, 16, 17, 18, 19, 20, 21, 22, 23, 24, 25, 26, 27, 28] (by decide +kernel) (by decide +kernel)) (goodIn_sub (fun _ h => List.mem_cons_of_mem _ (List.mem_append_left _ (List.mem_append_right _ h))) (by decide +kernel))) (goodIn_sub (fun _ h => List.mem_cons_of_mem _ (List.mem_append_right _ h)) (by decide +kernel))
set_option maxRecDepth 20000 in
theorem gL_fallen_X2_setFallback : GoodIn wsL_fallen (wsV RL 48 RX2 yX2_setFallback wsX2_setFallback) := goodIn_app (goodIn_of _ (by decide +kernel)) ggL_fallen_X2_setFallback
theorem dL_fallen_0 : decode cL_fallen 0 = .ok (.aload_n 0, 1) := by decide +kernel
theorem dL_fallen_1 : decode cL_fallen 1 = .ok (.iload_n 1, 1) := by decide +kernel
theorem dL_fallen_2 : decode cL_fallen 2 = .ok (.iload_n 2, 1) := by decide +kernel
theorem dL_fallen_3 : decode cL_fallen 3 = .ok (.invokevirtual 48, 3) := by decide +kernel
theorem dL_fallen_6 : decode cL_fallen 6 = .ok (.ireturn, 1) := by decide +kernel
theorem dL_fallen_7 : decode cL_fallen 7 = .ok (.astore_n 3, 1) := by decide +kernel
theorem dL_fallen_8 : decode cL_fallen 8 = .ok (.bipush (-5), 2) := by decide +kernel
theorem dL_fallen_10 : decode cL_fallen 10 = .ok (.ireturn, 1) := by decide +kernel
set_option maxRecDepth 20000 in
theorem ggL_set_X2_set : GoodIn wsL_set wsX2_set := goodIn_ca (goodIn_ca (goodIn_r _ [6, 7, 8, 9, 10, 11, 12, 13, 14, 15, 16, 5, 17, 18, 19, 20, 21, 22, 23, 24, 25, 26, 27, 28, 29, 30, 31, 32, 33, 34, 35, 36, 37, 38, 39, 40, 41, 42, 43, 44, 45, 46, 47, 48, 49, 50, 51, 52, 53, 54, 55, 56, 57, 58, 59, 60, 61, 62, 63, 64, 65, 66, 67, 68, 69, 70, 71, 72, 73, 74, 75, 76, 77, 78, 79, 80, 81, 82, 83, 84, 85, 86, 87, 88, 89, 90, 91, 92, 93, 94, 95, 96, 97, 98, 99, 100, 101, 102, 103, 104, 105, 106, 107, 108, 109, 110, 111, 112, 113, 114, 115, 116, 117, 118, 119, 120, 121, 122, 123, 124, 125, 126, 127, 128, 129, 130, 131, 132, 133, 134, 135, 136, 137, 138, 139, 140, 141, 142, 143, 144, 145, 146, 147, 148, 149, 150, 151, 152, 153, 154, 155, 156, 157, 158, 159, 160, 161, 162, 163, 164, 165, 166, 167, 168, 169, 170, 171, 172, 173, 174, 175, 176, 177, 178, 179, 180] (by decide +kernel) (by decide +kernel)) (goodIn_sub (fun _ h => List.mem_cons_of_mem _ (List.mem_append_left _ (List.mem_append_right _ h))) (by decide +kernel))) (goodIn_sub (fun _ h => List.mem_cons_of_mem _ (List.mem_append_right _ h)) (by decide +kernel))
set_option maxRecDepth 20000 in
theorem gL_set_X2_set : GoodIn wsL_set (wsV RL 53 RX2 yX2_set wsX2_set) := goodIn_app (goodIn_of _ (by decide +kernel)) ggL_set_X2_set
theorem dL_set_0 : decode cL_set 0 = .ok (.aload_n 0, 1) := by decide +kernel
theorem dL_set_1 : decode cL_set 1 = .ok (.iload_n 1, 1) := by decide +kernel
theorem dL_set_2 : decode cL_set 2 = .ok (.iload_n 2, 1) := by decide +kernel
theorem dL_set_3 : decode cL_set 3 = .ok (.iload_n 3, 1) := by decide +kernel
theorem dL_set_4 : decode cL_set 4 = .ok (.iload 4, 2) := by decide +kernel
theorem dL_set_6 : decode cL_set 6 = .ok (.iload 5, 2) := by decide +kernel
theorem dL_set_8 : decode cL_set 8 = .ok (.invokevirtual 53, 3) := by decide +kernel
theorem dL_set_11 : decode cL_set 11 = .ok (.ireturn, 1) := by decide +kernel
theorem dL_set_12 : decode cL_set 12 = .ok (.astore 6, 2) := by decide +kernel
theorem dL_set_14 : decode cL_set 14 = .ok (.bipush (-5), 2) := by decide +kernel
theorem dL_set_16 : decode cL_set 16 = .ok (.ireturn, 1) := by decide +kernel
set_option maxRecDepth 20000 in
theorem ggL_signed_X2_sign : GoodIn wsL_signed wsX2_sign := goodIn_ca (goodIn_ca (goodIn_r _ [6, 7, 8, 9, 10, 11, 12, 13, 14, 5, 15, 16, 17, 18, 19, 20, 21, 22, 23, 24, 25, 26, 27, 28] (by decide +kernel) (by decide +kernel)) (goodIn_sub (fun _ h => List.mem_cons_of_mem _ (List.mem_append_left _ (List.mem_append_right _ h))) (by decide +kernel))) (goodIn_sub (fun _ h => List.mem_cons_of_mem _ (List.mem_append_right _ h)) (by decide +kernel))
set_option maxRecDepth 20000 in
theorem gL_signed_X2_sign : GoodIn wsL_signed (wsV RL 57 RX2 yX2_sign wsX2_sign) := goodIn_app (goodIn_of _ (by decide +kernel)) ggL_signed_X2_sign
theorem dL_signed_0 : decode cL_signed 0 = .ok (.aload_n 0, 1) := by decide +kernel
theorem dL_signed_1 : decode cL_signed 1 = .ok (.iload_n 1, 1) := by decide +kernel
theorem dL_signed_2 : decode cL_signed 2 = .ok (.invokevirtual 57, 3) := by decide +kernel
theorem dL_signed_5 : decode cL_signed 5 = .ok (.ireturn, 1) := by decide +kernel
theorem dL_signed_6 : decode cL_signed 6 = .ok (.astore_n 2, 1) := by decide +kernel
theorem dL_signed_7 : decode cL_signed 7 = .ok (.bipush (-5), 2) := by decide +kernel
theorem dL_signed_9 : decode cL_signed 9 = .ok (.ireturn, 1) := by decide +kernel
theorem dL_change_0 : decode cL_change 0 = .ok (.iload 5, 2) := by decide +kernel
theorem dL_change_2 : decode cL_change 2 = .ok (.ifCond .ne 171, 3) := by decide +kernel
theorem dL_change_5 : decode cL_change 5 = .ok (.iconst 1, 1) := by decide +kernel
theorem dL_change_6 : decode cL_change 6 = .ok (.istore 7, 2) := by decide +kernel
theorem dL_change_8 : decode cL_change 8 = .ok (.iload 7, 2) := by decide +kernel
theorem dL_change_10 : decode cL_change 10 = .ok (.iconst 3, 1) := by decide +kernel
theorem dL_change_11 : decode cL_change 11 = .ok (.if_icmp .ge 154, 3) := by decide +kernel
theorem dL_change_14 : decode cL_change 14 = .ok (.aload_n 0, 1) := by decide +kernel
theorem dL_change_15 : decode cL_change 15 = .ok (.bipush 27, 2) := by decide +kernel
theorem dL_change_17 : decode cL_change 17 = .ok (.iload 4, 2) := by decide +kernel
theorem dL_change_19 : decode cL_change 19 = .ok (.imul, 1) := by decide +kernel
theorem dL_change_20 : decode cL_change 20 = .ok (.iload 6, 2) := by decide +kernel
theorem dL_change_22 : decode cL_change 22 = .ok (.iadd, 1) := by decide +kernel
theorem dL_change_23 : decode cL_change 23 = .ok (.iaload, 1) := by decide +kernel
theorem dL_change_24 : decode cL_change 24 = .ok (.ifCond .le 141, 3) := by decide +kernel
theorem dL_change_27 : decode cL_change 27 = .ok (.aload_n 0, 1) := by decide +kernel
theorem dL_change_28 : decode cL_change 28 = .ok (.bipush 27, 2) := by decide +kernel
theorem dL_change_30 : decode cL_change 30 = .ok (.iload 4, 2) := by decide +kernel
theorem dL_change_32 : decode cL_change 32 = .ok (.imul, 1) := by decide +kernel
theorem dL_change_33 : decode cL_change 33 = .ok (.bipush 9, 2) := by decide +kernel
theorem dL_change_35 : decode cL_change 35 = .ok (.iload 7, 2) := by decide +kernel
theorem dL_change_37 : decode cL_change 37 = .ok (.imul, 1) := by decide +kernel
theorem dL_change_38 : decode cL_change 38 = .ok (.iadd, 1) := by decide +kernel
theorem dL_change_39 : decode cL_change 39 = .ok (.iload 6, 2) := by decide +kernel
theorem dL_change_41 : decode cL_change 41 = .ok (.iadd, 1) := by decide +kernel
theorem dL_change_42 : decode cL_change 42 = .ok (.iaload, 1) := by decide +kernel
theorem dL_change_43 : decode cL_change 43 = .ok (.ifCond .le 116, 3) := by decide +kernel
theorem dL_change_46 : decode cL_change 46 = .ok (.iconst 0, 1) := by decide +kernel
theorem dL_change_47 : decode cL_change 47 = .ok (.istore 8, 2) := by decide +kernel
theorem dL_change_49 : decode cL_change 49 = .ok (.iload 8, 2) := by decide +kernel
theorem dL_change_51 : decode cL_change 51 = .ok (.bipush 57, 2) := by decide +kernel
theorem dL_change_53 : decode cL_change 53 = .ok (.if_icmp .ge 27, 3) := by decide +kernel
theorem dL_change_56 : decode cL_change 56 = .ok (.aload_n 3, 1) := by decide +kernel
theorem dL_change_57 : decode cL_change 57 = .ok (.iconst 0, 1) := by decide +kernel
theorem dL_change_58 : decode cL_change 58 = .ok (.iaload, 1) := by decide +kernel
theorem dL_change_59 : decode cL_change 59 = .ok (.bipush 20, 2) := by decide +kernel
theorem dL_change_61 : decode cL_change 61 = .ok (.if_icmp .ne 19, 3) := by decide +kernel
theorem dL_change_64 : decode cL_change 64 = .ok (.aload_n 2, 1) := by decide +kernel
theorem dL_change_65 : decode cL_change 65 = .ok (.iload 8, 2) := by decide +kernel
theorem dL_change_67 : decode cL_change 67 = .ok (.aload_n 2, 1) := by decide +kernel
theorem dL_change_68 : decode cL_change 68 = .ok (.iload 8, 2) := by decide +kernel
theorem dL_change_70 : decode cL_change 70 = .ok (.iconst 3, 1) := by decide +kernel
theorem dL_change_71 : decode cL_change 71 = .ok (.iadd, 1) := by decide +kernel
theorem dL_change_72 : decode cL_change 72 = .ok (.iaload, 1) := by decide +kernel
theorem dL_change_73 : decode cL_change 73 = .ok (.iastore, 1) := by decide +kernel
theorem dL_change_74 : decode cL_change 74 = .ok (.iinc 8 1, 3) := by decide +kernel
theorem dL_change_77 : decode cL_change 77 = .ok (.goto (-28), 3) := by decide +kernel
theorem dL_change_80 : decode cL_change 80 = .ok (.aload_n 3, 1) := by decide +kernel
theorem dL_change_81 : decode cL_change 81 = .ok (.iconst 0, 1) := by decide +kernel
theorem dL_change_82 : decode cL_change 82 = .ok (.aload_n 3, 1) := by decide +kernel
theorem dL_change_83 : decode cL_change 83 = .ok (.iconst 0, 1) := by decide +kernel
