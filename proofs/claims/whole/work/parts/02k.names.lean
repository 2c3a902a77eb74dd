set_option maxRecDepth 20000 in
theorem gX3_keeps_X3_forgets : GoodIn wsX3_keeps (wsV RX3 91 RX3 yX3_forgets wsX3_forgets) := goodIn_app (goodIn_of _ (by decide +kernel)) ggX3_keeps_X3_forgets
theorem dX3_keeps_0 : decode cX3_keeps 0 = .ok (.bipush 54, 2) := by decide +kernel
theorem dX3_keeps_2 : decode cX3_keeps 2 = .ok (.iload_n 1, 1) := by decide +kernel
theorem dX3_keeps_3 : decode cX3_keeps 3 = .ok (.imul, 1) := by decide +kernel
theorem dX3_keeps_4 : decode cX3_keeps 4 = .ok (.iload_n 2, 1) := by decide +kernel
theorem dX3_keeps_5 : decode cX3_keeps 5 = .ok (.iadd, 1) := by decide +kernel
theorem dX3_keeps_6 : decode cX3_keeps 6 = .ok (.istore_n 3, 1) := by decide +kernel
theorem dX3_keeps_7 : decode cX3_keeps 7 = .ok (.iconst 1, 1) := by decide +kernel
theorem dX3_keeps_8 : decode cX3_keeps 8 = .ok (.istore 4, 2) := by decide +kernel
theorem dX3_keeps_10 : decode cX3_keeps 10 = .ok (.iload 4, 2) := by decide +kernel
theorem dX3_keeps_12 : decode cX3_keeps 12 = .ok (.bipush 6, 2) := by decide +kernel
theorem dX3_keeps_14 : decode cX3_keeps 14 = .ok (.if_icmp .ge 173, 3) := by decide +kernel
theorem dX3_keeps_17 : decode cX3_keeps 17 = .ok (.iload_n 3, 1) := by decide +kernel
theorem dX3_keeps_18 : decode cX3_keeps 18 = .ok (.bipush 9, 2) := by decide +kernel
theorem dX3_keeps_20 : decode cX3_keeps 20 = .ok (.iload 4, 2) := by decide +kernel
theorem dX3_keeps_22 : decode cX3_keeps 22 = .ok (.imul, 1) := by decide +kernel
theorem dX3_keeps_23 : decode cX3_keeps 23 = .ok (.iadd, 1) := by decide +kernel
theorem dX3_keeps_24 : decode cX3_keeps 24 = .ok (.istore 5, 2) := by decide +kernel
theorem dX3_keeps_26 : decode cX3_keeps 26 = .ok (.aload_n 0, 1) := by decide +kernel
theorem dX3_keeps_27 : decode cX3_keeps 27 = .ok (.getfield 22, 3) := by decide +kernel
theorem dX3_keeps_30 : decode cX3_keeps 30 = .ok (.iload_n 3, 1) := by decide +kernel
theorem dX3_keeps_31 : decode cX3_keeps 31 = .ok (.iaload, 1) := by decide +kernel
theorem dX3_keeps_32 : decode cX3_keeps 32 = .ok (.ifCond .le 149, 3) := by decide +kernel
theorem dX3_keeps_35 : decode cX3_keeps 35 = .ok (.aload_n 0, 1) := by decide +kernel
theorem dX3_keeps_36 : decode cX3_keeps 36 = .ok (.getfield 22, 3) := by decide +kernel
theorem dX3_keeps_39 : decode cX3_keeps 39 = .ok (.iload 5, 2) := by decide +kernel
theorem dX3_keeps_41 : decode cX3_keeps 41 = .ok (.iaload, 1) := by decide +kernel
theorem dX3_keeps_42 : decode cX3_keeps 42 = .ok (.ifCond .le 139, 3) := by decide +kernel
theorem dX3_keeps_45 : decode cX3_keeps 45 = .ok (.aload_n 0, 1) := by decide +kernel
theorem dX3_keeps_46 : decode cX3_keeps 46 = .ok (.getfield 88, 3) := by decide +kernel
theorem dX3_keeps_49 : decode cX3_keeps 49 = .ok (.bipush 20, 2) := by decide +kernel
theorem dX3_keeps_51 : decode cX3_keeps 51 = .ok (.if_icmp .ne 7, 3) := by decide +kernel
theorem dX3_keeps_54 : decode cX3_keeps 54 = .ok (.aload_n 0, 1) := by decide +kernel
theorem dX3_keeps_55 : decode cX3_keeps 55 = .ok (.invokevirtual 91, 3) := by decide +kernel
theorem dX3_keeps_58 : decode cX3_keeps 58 = .ok (.aload_n 0, 1) := by decide +kernel
theorem dX3_keeps_59 : decode cX3_keeps 59 = .ok (.getfield 38, 3) := by decide +kernel
theorem dX3_keeps_62 : decode cX3_keeps 62 = .ok (.aload_n 0, 1) := by decide +kernel
theorem dX3_keeps_63 : decode cX3_keeps 63 = .ok (.getfield 88, 3) := by decide +kernel
theorem dX3_keeps_66 : decode cX3_keeps 66 = .ok (.iload 4, 2) := by decide +kernel
theorem dX3_keeps_68 : decode cX3_keeps 68 = .ok (.iastore, 1) := by decide +kernel
theorem dX3_keeps_69 : decode cX3_keeps 69 = .ok (.aload_n 0, 1) := by decide +kernel
theorem dX3_keeps_70 : decode cX3_keeps 70 = .ok (.getfield 41, 3) := by decide +kernel
theorem dX3_keeps_73 : decode cX3_keeps 73 = .ok (.aload_n 0, 1) := by decide +kernel
theorem dX3_keeps_74 : decode cX3_keeps 74 = .ok (.getfield 88, 3) := by decide +kernel
theorem dX3_keeps_77 : decode cX3_keeps 77 = .ok (.aload_n 0, 1) := by decide +kernel
theorem dX3_keeps_78 : decode cX3_keeps 78 = .ok (.getfield 22, 3) := by decide +kernel
theorem dX3_keeps_81 : decode cX3_keeps 81 = .ok (.iload_n 3, 1) := by decide +kernel
theorem dX3_keeps_82 : decode cX3_keeps 82 = .ok (.iaload, 1) := by decide +kernel
theorem dX3_keeps_83 : decode cX3_keeps 83 = .ok (.iastore, 1) := by decide +kernel
theorem dX3_keeps_84 : decode cX3_keeps 84 = .ok (.aload_n 0, 1) := by decide +kernel
theorem dX3_keeps_85 : decode cX3_keeps 85 = .ok (.getfield 44, 3) := by decide +kernel
theorem dX3_keeps_88 : decode cX3_keeps 88 = .ok (.aload_n 0, 1) := by decide +kernel
theorem dX3_keeps_89 : decode cX3_keeps 89 = .ok (.getfield 88, 3) := by decide +kernel
theorem dX3_keeps_92 : decode cX3_keeps 92 = .ok (.aload_n 0, 1) := by decide +kernel
theorem dX3_keeps_93 : decode cX3_keeps 93 = .ok (.getfield 22, 3) := by decide +kernel
theorem dX3_keeps_96 : decode cX3_keeps 96 = .ok (.iload 5, 2) := by decide +kernel
theorem dX3_keeps_98 : decode cX3_keeps 98 = .ok (.iaload, 1) := by decide +kernel
theorem dX3_keeps_99 : decode cX3_keeps 99 = .ok (.iastore, 1) := by decide +kernel
theorem dX3_keeps_100 : decode cX3_keeps 100 = .ok (.iconst 0, 1) := by decide +kernel
theorem dX3_keeps_101 : decode cX3_keeps 101 = .ok (.istore 6, 2) := by decide +kernel
theorem dX3_keeps_103 : decode cX3_keeps 103 = .ok (.iload 6, 2) := by decide +kernel
theorem dX3_keeps_105 : decode cX3_keeps 105 = .ok (.bipush 8, 2) := by decide +kernel
theorem dX3_keeps_107 : decode cX3_keeps 107 = .ok (.if_icmp .ge 64, 3) := by decide +kernel
theorem dX3_keeps_110 : decode cX3_keeps 110 = .ok (.aload_n 0, 1) := by decide +kernel
theorem dX3_keeps_111 : decode cX3_keeps 111 = .ok (.getfield 47, 3) := by decide +kernel
theorem dX3_keeps_114 : decode cX3_keeps 114 = .ok (.bipush 8, 2) := by decide +kernel
theorem dX3_keeps_116 : decode cX3_keeps 116 = .ok (.aload_n 0, 1) := by decide +kernel
theorem dX3_keeps_117 : decode cX3_keeps 117 = .ok (.getfield 88, 3) := by decide +kernel
theorem dX3_keeps_120 : decode cX3_keeps 120 = .ok (.imul, 1) := by decide +kernel
theorem dX3_keeps_121 : decode cX3_keeps 121 = .ok (.iload 6, 2) := by decide +kernel
theorem dX3_keeps_123 : decode cX3_keeps 123 = .ok (.iadd, 1) := by decide +kernel
theorem dX3_keeps_124 : decode cX3_keeps 124 = .ok (.aload_n 0, 1) := by decide +kernel
theorem dX3_keeps_125 : decode cX3_keeps 125 = .ok (.getfield 29, 3) := by decide +kernel
theorem dX3_keeps_128 : decode cX3_keeps 128 = .ok (.bipush 8, 2) := by decide +kernel
theorem dX3_keeps_130 : decode cX3_keeps 130 = .ok (.iload_n 3, 1) := by decide +kernel
theorem dX3_keeps_131 : decode cX3_keeps 131 = .ok (.imul, 1) := by decide +kernel
theorem dX3_keeps_132 : decode cX3_keeps 132 = .ok (.iload 6, 2) := by decide +kernel
theorem dX3_keeps_134 : decode cX3_keeps 134 = .ok (.iadd, 1) := by decide +kernel
theorem dX3_keeps_135 : decode cX3_keeps 135 = .ok (.iaload, 1) := by decide +kernel
theorem dX3_keeps_136 : decode cX3_keeps 136 = .ok (.iastore, 1) := by decide +kernel
theorem dX3_keeps_137 : decode cX3_keeps 137 = .ok (.aload_n 0, 1) := by decide +kernel
theorem dX3_keeps_138 : decode cX3_keeps 138 = .ok (.getfield 50, 3) := by decide +kernel
theorem dX3_keeps_141 : decode cX3_keeps 141 = .ok (.bipush 8, 2) := by decide +kernel
theorem dX3_keeps_143 : decode cX3_keeps 143 = .ok (.aload_n 0, 1) := by decide +kernel
theorem dX3_keeps_144 : decode cX3_keeps 144 = .ok (.getfield 88, 3) := by decide +kernel
theorem dX3_keeps_147 : decode cX3_keeps 147 = .ok (.imul, 1) := by decide +kernel
theorem dX3_keeps_148 : decode cX3_keeps 148 = .ok (.iload 6, 2) := by decide +kernel
theorem dX3_keeps_150 : decode cX3_keeps 150 = .ok (.iadd, 1) := by decide +kernel
theorem dX3_keeps_151 : decode cX3_keeps 151 = .ok (.aload_n 0, 1) := by decide +kernel
theorem dX3_keeps_152 : decode cX3_keeps 152 = .ok (.getfield 29, 3) := by decide +kernel
theorem dX3_keeps_155 : decode cX3_keeps 155 = .ok (.bipush 8, 2) := by decide +kernel
theorem dX3_keeps_157 : decode cX3_keeps 157 = .ok (.iload 5, 2) := by decide +kernel
theorem dX3_keeps_159 : decode cX3_keeps 159 = .ok (.imul, 1) := by decide +kernel
theorem dX3_keeps_160 : decode cX3_keeps 160 = .ok (.iload 6, 2) := by decide +kernel
theorem dX3_keeps_162 : decode cX3_keeps 162 = .ok (.iadd, 1) := by decide +kernel
theorem dX3_keeps_163 : decode cX3_keeps 163 = .ok (.iaload, 1) := by decide +kernel
theorem dX3_keeps_164 : decode cX3_keeps 164 = .ok (.iastore, 1) := by decide +kernel
theorem dX3_keeps_165 : decode cX3_keeps 165 = .ok (.iinc 6 1, 3) := by decide +kernel
theorem dX3_keeps_168 : decode cX3_keeps 168 = .ok (.goto (-65), 3) := by decide +kernel
theorem dX3_keeps_171 : decode cX3_keeps 171 = .ok (.aload_n 0, 1) := by decide +kernel
theorem dX3_keeps_172 : decode cX3_keeps 172 = .ok (.dup, 1) := by decide +kernel
theorem dX3_keeps_173 : decode cX3_keeps 173 = .ok (.getfield 88, 3) := by decide +kernel
theorem dX3_keeps_176 : decode cX3_keeps 176 = .ok (.iconst 1, 1) := by decide +kernel
theorem dX3_keeps_177 : decode cX3_keeps 177 = .ok (.iadd, 1) := by decide +kernel
theorem dX3_keeps_178 : decode cX3_keeps 178 = .ok (.putfield 88, 3) := by decide +kernel
theorem dX3_keeps_181 : decode cX3_keeps 181 = .ok (.iinc 4 1, 3) := by decide +kernel
theorem dX3_keeps_184 : decode cX3_keeps 184 = .ok (.goto (-174), 3) := by decide +kernel
theorem dX3_keeps_187 : decode cX3_keeps 187 = .ok (.return_, 1) := by decide +kernel
theorem dX3_forgets_0 : decode cX3_forgets 0 = .ok (.iconst 0, 1) := by decide +kernel
theorem dX3_forgets_1 : decode cX3_forgets 1 = .ok (.istore_n 1, 1) := by decide +kernel
theorem dX3_forgets_2 : decode cX3_forgets 2 = .ok (.iload_n 1, 1) := by decide +kernel
theorem dX3_forgets_3 : decode cX3_forgets 3 = .ok (.iconst 1, 1) := by decide +kernel
theorem dX3_forgets_4 : decode cX3_forgets 4 = .ok (.iadd, 1) := by decide +kernel
theorem dX3_forgets_5 : decode cX3_forgets 5 = .ok (.aload_n 0, 1) := by decide +kernel
theorem dX3_forgets_6 : decode cX3_forgets 6 = .ok (.getfield 88, 3) := by decide +kernel
theorem dX3_forgets_9 : decode cX3_forgets 9 = .ok (.if_icmp .ge 51, 3) := by decide +kernel
theorem dX3_forgets_12 : decode cX3_forgets 12 = .ok (.aload_n 0, 1) := by decide +kernel
theorem dX3_forgets_13 : decode cX3_forgets 13 = .ok (.getfield 38, 3) := by decide +kernel
theorem dX3_forgets_16 : decode cX3_forgets 16 = .ok (.iload_n 1, 1) := by decide +kernel
theorem dX3_forgets_17 : decode cX3_forgets 17 = .ok (.aload_n 0, 1) := by decide +kernel
theorem dX3_forgets_18 : decode cX3_forgets 18 = .ok (.getfield 38, 3) := by decide +kernel
theorem dX3_forgets_21 : decode cX3_forgets 21 = .ok (.iload_n 1, 1) := by decide +kernel
theorem dX3_forgets_22 : decode cX3_forgets 22 = .ok (.iconst 1, 1) := by decide +kernel
theorem dX3_forgets_23 : decode cX3_forgets 23 = .ok (.iadd, 1) := by decide +kernel
theorem dX3_forgets_24 : decode cX3_forgets 24 = .ok (.iaload, 1) := by decide +kernel
theorem dX3_forgets_25 : decode cX3_forgets 25 = .ok (.iastore, 1) := by decide +kernel
theorem dX3_forgets_26 : decode cX3_forgets 26 = .ok (.aload_n 0, 1) := by decide +kernel
theorem dX3_forgets_27 : decode cX3_forgets 27 = .ok (.getfield 41, 3) := by decide +kernel
theorem dX3_forgets_30 : decode cX3_forgets 30 = .ok (.iload_n 1, 1) := by decide +kernel
theorem dX3_forgets_31 : decode cX3_forgets 31 = .ok (.aload_n 0, 1) := by decide +kernel
theorem dX3_forgets_32 : decode cX3_forgets 32 = .ok (.getfield 41, 3) := by decide +kernel
theorem dX3_forgets_35 : decode cX3_forgets 35 = .ok (.iload_n 1, 1) := by decide +kernel
theorem dX3_forgets_36 : decode cX3_forgets 36 = .ok (.iconst 1, 1) := by decide +kernel
theorem dX3_forgets_37 : decode cX3_forgets 37 = .ok (.iadd, 1) := by decide +kernel
theorem dX3_forgets_38 : decode cX3_forgets 38 = .ok (.iaload, 1) := by decide +kernel
theorem dX3_forgets_39 : decode cX3_forgets 39 = .ok (.iastore, 1) := by decide +kernel
theorem dX3_forgets_40 : decode cX3_forgets 40 = .ok (.aload_n 0, 1) := by decide +kernel
theorem dX3_forgets_41 : decode cX3_forgets 41 = .ok (.getfield 44, 3) := by decide +kernel
theorem dX3_forgets_44 : decode cX3_forgets 44 = .ok (.iload_n 1, 1) := by decide +kernel
theorem dX3_forgets_45 : decode cX3_forgets 45 = .ok (.aload_n 0, 1) := by decide +kernel
theorem dX3_forgets_46 : decode cX3_forgets 46 = .ok (.getfield 44, 3) := by decide +kernel
theorem dX3_forgets_49 : decode cX3_forgets 49 = .ok (.iload_n 1, 1) := by decide +kernel
theorem dX3_forgets_50 : decode cX3_forgets 50 = .ok (.iconst 1, 1) := by decide +kernel
theorem dX3_forgets_51 : decode cX3_forgets 51 = .ok (.iadd, 1) := by decide +kernel
theorem dX3_forgets_52 : decode cX3_forgets 52 = .ok (.iaload, 1) := by decide +kernel
theorem dX3_forgets_53 : decode cX3_forgets 53 = .ok (.iastore, 1) := by decide +kernel
theorem dX3_forgets_54 : decode cX3_forgets 54 = .ok (.iinc 1 1, 3) := by decide +kernel
theorem dX3_forgets_57 : decode cX3_forgets 57 = .ok (.goto (-55), 3) := by decide +kernel
theorem dX3_forgets_60 : decode cX3_forgets 60 = .ok (.iconst 0, 1) := by decide +kernel
theorem dX3_forgets_61 : decode cX3_forgets 61 = .ok (.istore_n 1, 1) := by decide +kernel
theorem dX3_forgets_62 : decode cX3_forgets 62 = .ok (.iload_n 1, 1) := by decide +kernel
theorem dX3_forgets_63 : decode cX3_forgets 63 = .ok (.bipush 8, 2) := by decide +kernel
theorem dX3_forgets_65 : decode cX3_forgets 65 = .ok (.iadd, 1) := by decide +kernel
theorem dX3_forgets_66 : decode cX3_forgets 66 = .ok (.bipush 8, 2) := by decide +kernel
theorem dX3_forgets_68 : decode cX3_forgets 68 = .ok (.aload_n 0, 1) := by decide +kernel
theorem dX3_forgets_69 : decode cX3_forgets 69 = .ok (.getfield 88, 3) := by decide +kernel
theorem dX3_forgets_72 : decode cX3_forgets 72 = .ok (.imul, 1) := by decide +kernel
theorem dX3_forgets_73 : decode cX3_forgets 73 = .ok (.if_icmp .ge 39, 3) := by decide +kernel
theorem dX3_forgets_76 : decode cX3_forgets 76 = .ok (.aload_n 0, 1) := by decide +kernel
theorem dX3_forgets_77 : decode cX3_forgets 77 = .ok (.getfield 47, 3) := by decide +kernel
theorem dX3_forgets_80 : decode cX3_forgets 80 = .ok (.iload_n 1, 1) := by decide +kernel
theorem dX3_forgets_81 : decode cX3_forgets 81 = .ok (.aload_n 0, 1) := by decide +kernel
theorem dX3_forgets_82 : decode cX3_forgets 82 = .ok (.getfield 47, 3) := by decide +kernel
theorem dX3_forgets_85 : decode cX3_forgets 85 = .ok (.iload_n 1, 1) := by decide +kernel
theorem dX3_forgets_86 : decode cX3_forgets 86 = .ok (.bipush 8, 2) := by decide +kernel
theorem dX3_forgets_88 : decode cX3_forgets 88 = .ok (.iadd, 1) := by decide +kernel
theorem dX3_forgets_89 : decode cX3_forgets 89 = .ok (.iaload, 1) := by decide +kernel
theorem dX3_forgets_90 : decode cX3_forgets 90 = .ok (.iastore, 1) := by decide +kernel
theorem dX3_forgets_91 : decode cX3_forgets 91 = .ok (.aload_n 0, 1) := by decide +kernel
theorem dX3_forgets_92 : decode cX3_forgets 92 = .ok (.getfield 50, 3) := by decide +kernel
theorem dX3_forgets_95 : decode cX3_forgets 95 = .ok (.iload_n 1, 1) := by decide +kernel
theorem dX3_forgets_96 : decode cX3_forgets 96 = .ok (.aload_n 0, 1) := by decide +kernel
theorem dX3_forgets_97 : decode cX3_forgets 97 = .ok (.getfield 50, 3) := by decide +kernel
theorem dX3_forgets_100 : decode cX3_forgets 100 = .ok (.iload_n 1, 1) := by decide +kernel
theorem dX3_forgets_101 : decode cX3_forgets 101 = .ok (.bipush 8, 2) := by decide +kernel
theorem dX3_forgets_103 : decode cX3_forgets 103 = .ok (.iadd, 1) := by decide +kernel
theorem dX3_forgets_104 : decode cX3_forgets 104 = .ok (.iaload, 1) := by decide +kernel
theorem dX3_forgets_105 : decode cX3_forgets 105 = .ok (.iastore, 1) := by decide +kernel
theorem dX3_forgets_106 : decode cX3_forgets 106 = .ok (.iinc 1 1, 3) := by decide +kernel
theorem dX3_forgets_109 : decode cX3_forgets 109 = .ok (.goto (-47), 3) := by decide +kernel
theorem dX3_forgets_112 : decode cX3_forgets 112 = .ok (.aload_n 0, 1) := by decide +kernel
theorem dX3_forgets_113 : decode cX3_forgets 113 = .ok (.dup, 1) := by decide +kernel
theorem dX3_forgets_114 : decode cX3_forgets 114 = .ok (.getfield 88, 3) := by decide +kernel
theorem dX3_forgets_117 : decode cX3_forgets 117 = .ok (.iconst 1, 1) := by decide +kernel
theorem dX3_forgets_118 : decode cX3_forgets 118 = .ok (.isub, 1) := by decide +kernel
theorem dX3_forgets_119 : decode cX3_forgets 119 = .ok (.putfield 88, 3) := by decide +kernel
theorem dX3_forgets_122 : decode cX3_forgets 122 = .ok (.return_, 1) := by decide +kernel
set_option maxRecDepth 20000 in
theorem ggX3_changes_X3_keeps : GoodIn wsX3_changes wsX3_keeps := goodIn_r _ [7, 8, 9, 10, 11, 12, 13, 14, 15, 16, 17, 18, 6, 19, 20, 21, 22, 23, 24, 25, 26, 27, 28, 29, 30, 31, 32, 33, 34, 35, 36, 37, 38, 39, 40] (by decide +kernel) (by decide +kernel)
set_option maxRecDepth 20000 in
theorem gX3_changes_X3_keeps : GoodIn wsX3_changes (wsV RX3 94 RX3 yX3_keeps wsX3_keeps) := goodIn_app (goodIn_of _ (by decide +kernel)) ggX3_changes_X3_keeps
theorem dX3_changes_0 : decode cX3_changes 0 = .ok (.iload_n 2, 1) := by decide +kernel
theorem dX3_changes_1 : decode cX3_changes 1 = .ok (.ifCond .ne 19, 3) := by decide +kernel
theorem dX3_changes_4 : decode cX3_changes 4 = .ok (.aload_n 0, 1) := by decide +kernel
theorem dX3_changes_5 : decode cX3_changes 5 = .ok (.iload_n 1, 1) := by decide +kernel
theorem dX3_changes_6 : decode cX3_changes 6 = .ok (.iload_n 3, 1) := by decide +kernel
theorem dX3_changes_7 : decode cX3_changes 7 = .ok (.invokevirtual 94, 3) := by decide +kernel
theorem dX3_changes_10 : decode cX3_changes 10 = .ok (.aload_n 0, 1) := by decide +kernel
theorem dX3_changes_11 : decode cX3_changes 11 = .ok (.getfield 32, 3) := by decide +kernel
theorem dX3_changes_14 : decode cX3_changes 14 = .ok (.iload_n 1, 1) := by decide +kernel
theorem dX3_changes_15 : decode cX3_changes 15 = .ok (.dup2, 1) := by decide +kernel
theorem dX3_changes_16 : decode cX3_changes 16 = .ok (.iaload, 1) := by decide +kernel
theorem dX3_changes_17 : decode cX3_changes 17 = .ok (.iconst 1, 1) := by decide +kernel
theorem dX3_changes_18 : decode cX3_changes 18 = .ok (.iadd, 1) := by decide +kernel
theorem dX3_changes_19 : decode cX3_changes 19 = .ok (.iastore, 1) := by decide +kernel
theorem dX3_changes_20 : decode cX3_changes 20 = .ok (.aload_n 0, 1) := by decide +kernel
theorem dX3_changes_21 : decode cX3_changes 21 = .ok (.getfield 35, 3) := by decide +kernel
theorem dX3_changes_24 : decode cX3_changes 24 = .ok (.bipush 6, 2) := by decide +kernel
theorem dX3_changes_26 : decode cX3_changes 26 = .ok (.iload_n 1, 1) := by decide +kernel
theorem dX3_changes_27 : decode cX3_changes 27 = .ok (.imul, 1) := by decide +kernel
theorem dX3_changes_28 : decode cX3_changes 28 = .ok (.iload_n 2, 1) := by decide +kernel
theorem dX3_changes_29 : decode cX3_changes 29 = .ok (.iadd, 1) := by decide +kernel
theorem dX3_changes_30 : decode cX3_changes 30 = .ok (.aload_n 0, 1) := by decide +kernel
theorem dX3_changes_31 : decode cX3_changes 31 = .ok (.getfield 32, 3) := by decide +kernel
theorem dX3_changes_34 : decode cX3_changes 34 = .ok (.iload_n 1, 1) := by decide +kernel
theorem dX3_changes_35 : decode cX3_changes 35 = .ok (.iaload, 1) := by decide +kernel
theorem dX3_changes_36 : decode cX3_changes 36 = .ok (.iastore, 1) := by decide +kernel
theorem dX3_changes_37 : decode cX3_changes 37 = .ok (.return_, 1) := by decide +kernel
set_option maxRecDepth 20000 in
theorem ggX3_set_X3_isForm : GoodIn wsX3_set wsX3_isForm := goodIn_r _ [10, 11, 12, 9, 13, 14, 15, 16, 17, 18, 19, 20, 21, 22] (by decide +kernel) (by decide +kernel)
set_option maxRecDepth 20000 in
theorem gX3_set_X3_isForm : GoodIn wsX3_set (va_wsS RX3 98 yX3_isForm wsX3_isForm) := goodIn_app (goodIn_of _ (by decide +kernel)) ggX3_set_X3_isForm
set_option maxRecDepth 20000 in
theorem ggX3_set_X3_goes : GoodIn wsX3_set wsX3_goes := goodIn_r _ [26, 27, 50, 51, 52, 53, 54, 55, 56, 57, 58, 59, 60, 61, 62, 63, 64, 65, 66, 67, 68, 69, 70] (by decide +kernel) (by decide +kernel)
set_option maxRecDepth 20000 in
theorem gX3_set_X3_goes : GoodIn wsX3_set (wsV RX3 81 RX3 yX3_goes wsX3_goes) := goodIn_app (goodIn_of _ (by decide +kernel)) ggX3_set_X3_goes
set_option maxRecDepth 20000 in
theorem ggX3_set_X3_at : GoodIn wsX3_set wsX3_at := goodIn_r _ [30] (by decide +kernel) (by decide +kernel)
set_option maxRecDepth 20000 in
theorem gX3_set_X3_at : GoodIn wsX3_set (va_wsS RX3 102 yX3_at wsX3_at) := goodIn_app (goodIn_of _ (by decide +kernel)) ggX3_set_X3_at
set_option maxRecDepth 20000 in
theorem ggX3_set_X3_changes : GoodIn wsX3_set wsX3_changes := goodIn_r _ [34, 6, 35, 36, 37, 38, 9, 39, 4, 40, 41, 42, 43, 44, 2, 45, 46, 47, 48, 49, 50, 51, 52, 53, 54, 55, 56, 57, 58, 59, 60, 61, 62, 63, 64, 65, 66, 67, 68, 69, 70] (by decide +kernel) (by decide +kernel)
set_option maxRecDepth 20000 in
theorem gX3_set_X3_changes : GoodIn wsX3_set (wsV RX3 106 RX3 yX3_changes wsX3_changes) := goodIn_app (goodIn_of _ (by decide +kernel)) ggX3_set_X3_changes
theorem dX3_set_0 : decode cX3_set 0 = .ok (.aload_n 0, 1) := by decide +kernel
theorem dX3_set_1 : decode cX3_set 1 = .ok (.iload_n 1, 1) := by decide +kernel
theorem dX3_set_2 : decode cX3_set 2 = .ok (.iload_n 2, 1) := by decide +kernel
theorem dX3_set_3 : decode cX3_set 3 = .ok (.iload_n 3, 1) := by decide +kernel
theorem dX3_set_4 : decode cX3_set 4 = .ok (.iload 4, 2) := by decide +kernel
theorem dX3_set_6 : decode cX3_set 6 = .ok (.invokestatic 98, 3) := by decide +kernel
theorem dX3_set_9 : decode cX3_set 9 = .ok (.aload_n 0, 1) := by decide +kernel
theorem dX3_set_10 : decode cX3_set 10 = .ok (.getfield 85, 3) := by decide +kernel
theorem dX3_set_13 : decode cX3_set 13 = .ok (.ifCond .le 7, 3) := by decide +kernel
theorem dX3_set_16 : decode cX3_set 16 = .ok (.iconst 1, 1) := by decide +kernel
theorem dX3_set_17 : decode cX3_set 17 = .ok (.goto 4, 3) := by decide +kernel
theorem dX3_set_20 : decode cX3_set 20 = .ok (.iconst 0, 1) := by decide +kernel
theorem dX3_set_21 : decode cX3_set 21 = .ok (.iconst 1, 1) := by decide +kernel
theorem dX3_set_22 : decode cX3_set 22 = .ok (.invokevirtual 81, 3) := by decide +kernel
theorem dX3_set_25 : decode cX3_set 25 = .ok (.ifCond .ne 5, 3) := by decide +kernel
theorem dX3_set_28 : decode cX3_set 28 = .ok (.iconst 0, 1) := by decide +kernel
theorem dX3_set_29 : decode cX3_set 29 = .ok (.ireturn, 1) := by decide +kernel
theorem dX3_set_30 : decode cX3_set 30 = .ok (.iload_n 1, 1) := by decide +kernel
theorem dX3_set_31 : decode cX3_set 31 = .ok (.iload_n 2, 1) := by decide +kernel
theorem dX3_set_32 : decode cX3_set 32 = .ok (.iload_n 3, 1) := by decide +kernel
theorem dX3_set_33 : decode cX3_set 33 = .ok (.iload 4, 2) := by decide +kernel
theorem dX3_set_35 : decode cX3_set 35 = .ok (.invokestatic 102, 3) := by decide +kernel
theorem dX3_set_38 : decode cX3_set 38 = .ok (.istore 6, 2) := by decide +kernel
theorem dX3_set_40 : decode cX3_set 40 = .ok (.aload_n 0, 1) := by decide +kernel
theorem dX3_set_41 : decode cX3_set 41 = .ok (.iload_n 1, 1) := by decide +kernel
theorem dX3_set_42 : decode cX3_set 42 = .ok (.iload_n 2, 1) := by decide +kernel
theorem dX3_set_43 : decode cX3_set 43 = .ok (.iconst 3, 1) := by decide +kernel
theorem dX3_set_44 : decode cX3_set 44 = .ok (.iload_n 3, 1) := by decide +kernel
theorem dX3_set_45 : decode cX3_set 45 = .ok (.imul, 1) := by decide +kernel
theorem dX3_set_46 : decode cX3_set 46 = .ok (.iload 4, 2) := by decide +kernel
theorem dX3_set_48 : decode cX3_set 48 = .ok (.iadd, 1) := by decide +kernel
theorem dX3_set_49 : decode cX3_set 49 = .ok (.invokevirtual 106, 3) := by decide +kernel
theorem dX3_set_52 : decode cX3_set 52 = .ok (.iconst 0, 1) := by decide +kernel
theorem dX3_set_53 : decode cX3_set 53 = .ok (.istore 7, 2) := by decide +kernel
theorem dX3_set_55 : decode cX3_set 55 = .ok (.iload 7, 2) := by decide +kernel
theorem dX3_set_57 : decode cX3_set 57 = .ok (.bipush 8, 2) := by decide +kernel
theorem dX3_set_59 : decode cX3_set 59 = .ok (.if_icmp .ge 42, 3) := by decide +kernel
theorem dX3_set_62 : decode cX3_set 62 = .ok (.aload_n 0, 1) := by decide +kernel
theorem dX3_set_63 : decode cX3_set 63 = .ok (.getfield 29, 3) := by decide +kernel
theorem dX3_set_66 : decode cX3_set 66 = .ok (.bipush 8, 2) := by decide +kernel
theorem dX3_set_68 : decode cX3_set 68 = .ok (.iload 6, 2) := by decide +kernel
theorem dX3_set_70 : decode cX3_set 70 = .ok (.imul, 1) := by decide +kernel
theorem dX3_set_71 : decode cX3_set 71 = .ok (.iload 7, 2) := by decide +kernel
theorem dX3_set_73 : decode cX3_set 73 = .ok (.iadd, 1) := by decide +kernel
theorem dX3_set_74 : decode cX3_set 74 = .ok (.iload 7, 2) := by decide +kernel
theorem dX3_set_76 : decode cX3_set 76 = .ok (.aload_n 0, 1) := by decide +kernel
theorem dX3_set_77 : decode cX3_set 77 = .ok (.getfield 85, 3) := by decide +kernel
theorem dX3_set_80 : decode cX3_set 80 = .ok (.if_icmp .ge 13, 3) := by decide +kernel
theorem dX3_set_83 : decode cX3_set 83 = .ok (.aload_n 0, 1) := by decide +kernel
theorem dX3_set_84 : decode cX3_set 84 = .ok (.getfield 19, 3) := by decide +kernel
theorem dX3_set_87 : decode cX3_set 87 = .ok (.iload 7, 2) := by decide +kernel
theorem dX3_set_89 : decode cX3_set 89 = .ok (.iaload, 1) := by decide +kernel
theorem dX3_set_90 : decode cX3_set 90 = .ok (.goto 4, 3) := by decide +kernel
theorem dX3_set_93 : decode cX3_set 93 = .ok (.iconst 0, 1) := by decide +kernel
theorem dX3_set_94 : decode cX3_set 94 = .ok (.iastore, 1) := by decide +kernel
theorem dX3_set_95 : decode cX3_set 95 = .ok (.iinc 7 1, 3) := by decide +kernel
theorem dX3_set_98 : decode cX3_set 98 = .ok (.goto (-43), 3) := by decide +kernel
theorem dX3_set_101 : decode cX3_set 101 = .ok (.aload_n 0, 1) := by decide +kernel
theorem dX3_set_102 : decode cX3_set 102 = .ok (.getfield 22, 3) := by decide +kernel
theorem dX3_set_105 : decode cX3_set 105 = .ok (.iload 6, 2) := by decide +kernel
theorem dX3_set_107 : decode cX3_set 107 = .ok (.aload_n 0, 1) := by decide +kernel
theorem dX3_set_108 : decode cX3_set 108 = .ok (.getfield 85, 3) := by decide +kernel
theorem dX3_set_111 : decode cX3_set 111 = .ok (.iastore, 1) := by decide +kernel
theorem dX3_set_112 : decode cX3_set 112 = .ok (.aload_n 0, 1) := by decide +kernel
theorem dX3_set_113 : decode cX3_set 113 = .ok (.getfield 25, 3) := by decide +kernel
theorem dX3_set_116 : decode cX3_set 116 = .ok (.iload 6, 2) := by decide +kernel
theorem dX3_set_118 : decode cX3_set 118 = .ok (.iload 5, 2) := by decide +kernel
theorem dX3_set_120 : decode cX3_set 120 = .ok (.bastore, 1) := by decide +kernel
theorem dX3_set_121 : decode cX3_set 121 = .ok (.aload_n 0, 1) := by decide +kernel
theorem dX3_set_122 : decode cX3_set 122 = .ok (.iconst 0, 1) := by decide +kernel
theorem dX3_set_123 : decode cX3_set 123 = .ok (.putfield 85, 3) := by decide +kernel
theorem dX3_set_126 : decode cX3_set 126 = .ok (.aload_n 0, 1) := by decide +kernel
theorem dX3_set_127 : decode cX3_set 127 = .ok (.getfield 32, 3) := by decide +kernel
theorem dX3_set_130 : decode cX3_set 130 = .ok (.iload_n 1, 1) := by decide +kernel
theorem dX3_set_131 : decode cX3_set 131 = .ok (.iaload, 1) := by decide +kernel
theorem dX3_set_132 : decode cX3_set 132 = .ok (.ireturn, 1) := by decide +kernel
set_option maxRecDepth 20000 in
theorem ggX3_remove_X3_isForm : GoodIn wsX3_remove wsX3_isForm := goodIn_r _ [5, 6, 7, 4, 8, 9, 10, 11, 12, 13, 14, 15, 16, 17] (by decide +kernel) (by decide +kernel)
set_option maxRecDepth 20000 in
theorem gX3_remove_X3_isForm : GoodIn wsX3_remove (va_wsS RX3 98 yX3_isForm wsX3_isForm) := goodIn_app (goodIn_of _ (by decide +kernel)) ggX3_remove_X3_isForm
set_option maxRecDepth 20000 in
theorem ggX3_remove_X3_at : GoodIn wsX3_remove wsX3_at := goodIn_r _ [20] (by decide +kernel) (by decide +kernel)
set_option maxRecDepth 20000 in
theorem gX3_remove_X3_at : GoodIn wsX3_remove (va_wsS RX3 102 yX3_at wsX3_at) := goodIn_app (goodIn_of _ (by decide +kernel)) ggX3_remove_X3_at
set_option maxRecDepth 20000 in
theorem ggX3_remove_X3_goes : GoodIn wsX3_remove wsX3_goes := goodIn_r _ [24, 25, 47, 48, 49, 50, 51, 52, 53, 54, 55, 56, 57, 58, 59, 60, 61, 62, 63, 64, 65, 66, 67] (by decide +kernel) (by decide +kernel)
set_option maxRecDepth 20000 in
theorem gX3_remove_X3_goes : GoodIn wsX3_remove (wsV RX3 81 RX3 yX3_goes wsX3_goes) := goodIn_app (goodIn_of _ (by decide +kernel)) ggX3_remove_X3_goes
set_option maxRecDepth 20000 in
theorem ggX3_remove_X3_changes : GoodIn wsX3_remove wsX3_changes := goodIn_r _ [29, 30, 31, 32, 33, 34, 4, 35, 1, 36, 37, 38, 39, 40, 41, 42, 43, 44, 45, 46, 47, 48, 49, 50, 51, 52, 53, 54, 55, 56, 57, 58, 59, 60, 61, 62, 63, 64, 65, 66, 67] (by decide +kernel) (by decide +kernel)
set_option maxRecDepth 20000 in
theorem gX3_remove_X3_changes : GoodIn wsX3_remove (wsV RX3 106 RX3 yX3_changes wsX3_changes) := goodIn_app (goodIn_of _ (by decide +kernel)) ggX3_remove_X3_changes
theorem dX3_remove_0 : decode cX3_remove 0 = .ok (.iload_n 1, 1) := by decide +kernel
theorem dX3_remove_1 : decode cX3_remove 1 = .ok (.iload_n 2, 1) := by decide +kernel
theorem dX3_remove_2 : decode cX3_remove 2 = .ok (.iload_n 3, 1) := by decide +kernel
theorem dX3_remove_3 : decode cX3_remove 3 = .ok (.iload 4, 2) := by decide +kernel
theorem dX3_remove_5 : decode cX3_remove 5 = .ok (.invokestatic 98, 3) := by decide +kernel
theorem dX3_remove_8 : decode cX3_remove 8 = .ok (.istore 5, 2) := by decide +kernel
theorem dX3_remove_10 : decode cX3_remove 10 = .ok (.aload_n 0, 1) := by decide +kernel
theorem dX3_remove_11 : decode cX3_remove 11 = .ok (.iload 5, 2) := by decide +kernel
theorem dX3_remove_13 : decode cX3_remove 13 = .ok (.iload 5, 2) := by decide +kernel
theorem dX3_remove_15 : decode cX3_remove 15 = .ok (.ifCond .eq 23, 3) := by decide +kernel
theorem dX3_remove_18 : decode cX3_remove 18 = .ok (.aload_n 0, 1) := by decide +kernel
theorem dX3_remove_19 : decode cX3_remove 19 = .ok (.getfield 22, 3) := by decide +kernel
theorem dX3_remove_22 : decode cX3_remove 22 = .ok (.iload_n 1, 1) := by decide +kernel
theorem dX3_remove_23 : decode cX3_remove 23 = .ok (.iload_n 2, 1) := by decide +kernel
theorem dX3_remove_24 : decode cX3_remove 24 = .ok (.iload_n 3, 1) := by decide +kernel
theorem dX3_remove_25 : decode cX3_remove 25 = .ok (.iload 4, 2) := by decide +kernel
theorem dX3_remove_27 : decode cX3_remove 27 = .ok (.invokestatic 102, 3) := by decide +kernel
theorem dX3_remove_30 : decode cX3_remove 30 = .ok (.iaload, 1) := by decide +kernel
theorem dX3_remove_31 : decode cX3_remove 31 = .ok (.ifCond .le 7, 3) := by decide +kernel
theorem dX3_remove_34 : decode cX3_remove 34 = .ok (.iconst 1, 1) := by decide +kernel
theorem dX3_remove_35 : decode cX3_remove 35 = .ok (.goto 4, 3) := by decide +kernel
theorem dX3_remove_38 : decode cX3_remove 38 = .ok (.iconst 0, 1) := by decide +kernel
theorem dX3_remove_39 : decode cX3_remove 39 = .ok (.iconst 1, 1) := by decide +kernel
theorem dX3_remove_40 : decode cX3_remove 40 = .ok (.invokevirtual 81, 3) := by decide +kernel
theorem dX3_remove_43 : decode cX3_remove 43 = .ok (.ifCond .ne 5, 3) := by decide +kernel
theorem dX3_remove_46 : decode cX3_remove 46 = .ok (.iconst 0, 1) := by decide +kernel
theorem dX3_remove_47 : decode cX3_remove 47 = .ok (.ireturn, 1) := by decide +kernel
theorem dX3_remove_48 : decode cX3_remove 48 = .ok (.iload_n 1, 1) := by decide +kernel
theorem dX3_remove_49 : decode cX3_remove 49 = .ok (.iload_n 2, 1) := by decide +kernel
theorem dX3_remove_50 : decode cX3_remove 50 = .ok (.iload_n 3, 1) := by decide +kernel
theorem dX3_remove_51 : decode cX3_remove 51 = .ok (.iload 4, 2) := by decide +kernel
theorem dX3_remove_53 : decode cX3_remove 53 = .ok (.invokestatic 102, 3) := by decide +kernel
theorem dX3_remove_56 : decode cX3_remove 56 = .ok (.istore 6, 2) := by decide +kernel
theorem dX3_remove_58 : decode cX3_remove 58 = .ok (.aload_n 0, 1) := by decide +kernel
theorem dX3_remove_59 : decode cX3_remove 59 = .ok (.getfield 22, 3) := by decide +kernel
theorem dX3_remove_62 : decode cX3_remove 62 = .ok (.iload 6, 2) := by decide +kernel
theorem dX3_remove_64 : decode cX3_remove 64 = .ok (.iaload, 1) := by decide +kernel
theorem dX3_remove_65 : decode cX3_remove 65 = .ok (.istore 7, 2) := by decide +kernel
theorem dX3_remove_67 : decode cX3_remove 67 = .ok (.aload_n 0, 1) := by decide +kernel
theorem dX3_remove_68 : decode cX3_remove 68 = .ok (.iload_n 1, 1) := by decide +kernel
theorem dX3_remove_69 : decode cX3_remove 69 = .ok (.iload_n 2, 1) := by decide +kernel
theorem dX3_remove_70 : decode cX3_remove 70 = .ok (.iconst 3, 1) := by decide +kernel
theorem dX3_remove_71 : decode cX3_remove 71 = .ok (.iload_n 3, 1) := by decide +kernel
theorem dX3_remove_72 : decode cX3_remove 72 = .ok (.imul, 1) := by decide +kernel
theorem dX3_remove_73 : decode cX3_remove 73 = .ok (.iload 4, 2) := by decide +kernel
theorem dX3_remove_75 : decode cX3_remove 75 = .ok (.iadd, 1) := by decide +kernel
theorem dX3_remove_76 : decode cX3_remove 76 = .ok (.invokevirtual 106, 3) := by decide +kernel
theorem dX3_remove_79 : decode cX3_remove 79 = .ok (.aload_n 0, 1) := by decide +kernel
theorem dX3_remove_80 : decode cX3_remove 80 = .ok (.getfield 22, 3) := by decide +kernel
theorem dX3_remove_83 : decode cX3_remove 83 = .ok (.iload 6, 2) := by decide +kernel
theorem dX3_remove_85 : decode cX3_remove 85 = .ok (.iconst 0, 1) := by decide +kernel
theorem dX3_remove_86 : decode cX3_remove 86 = .ok (.iastore, 1) := by decide +kernel
theorem dX3_remove_87 : decode cX3_remove 87 = .ok (.iload 7, 2) := by decide +kernel
theorem dX3_remove_89 : decode cX3_remove 89 = .ok (.ireturn, 1) := by decide +kernel
theorem dX3_draft_0 : decode cX3_draft 0 = .ok (.aload_n 0, 1) := by decide +kernel
theorem dX3_draft_1 : decode cX3_draft 1 = .ok (.iconst 0, 1) := by decide +kernel
theorem dX3_draft_2 : decode cX3_draft 2 = .ok (.putfield 59, 3) := by decide +kernel
theorem dX3_draft_5 : decode cX3_draft 5 = .ok (.aload_n 0, 1) := by decide +kernel
theorem dX3_draft_6 : decode cX3_draft 6 = .ok (.getfield 85, 3) := by decide +kernel
theorem dX3_draft_9 : decode cX3_draft 9 = .ok (.ireturn, 1) := by decide +kernel
theorem dX3_kind_0 : decode cX3_kind 0 = .ok (.iload_n 2, 1) := by decide +kernel
theorem dX3_kind_1 : decode cX3_kind 1 = .ok (.ifCond .ne 7, 3) := by decide +kernel
theorem dX3_kind_4 : decode cX3_kind 4 = .ok (.iconst 2, 1) := by decide +kernel
theorem dX3_kind_5 : decode cX3_kind 5 = .ok (.goto 32, 3) := by decide +kernel
theorem dX3_kind_8 : decode cX3_kind 8 = .ok (.iload_n 2, 1) := by decide +kernel
theorem dX3_kind_9 : decode cX3_kind 9 = .ok (.aload_n 0, 1) := by decide +kernel
theorem dX3_kind_10 : decode cX3_kind 10 = .ok (.getfield 13, 3) := by decide +kernel
theorem dX3_kind_13 : decode cX3_kind 13 = .ok (.iload_n 1, 1) := by decide +kernel
theorem dX3_kind_14 : decode cX3_kind 14 = .ok (.iaload, 1) := by decide +kernel
theorem dX3_kind_15 : decode cX3_kind 15 = .ok (.if_icmp .gt 7, 3) := by decide +kernel
theorem dX3_kind_18 : decode cX3_kind 18 = .ok (.iconst 0, 1) := by decide +kernel
theorem dX3_kind_19 : decode cX3_kind 19 = .ok (.goto 18, 3) := by decide +kernel
theorem dX3_kind_22 : decode cX3_kind 22 = .ok (.iload_n 2, 1) := by decide +kernel
theorem dX3_kind_23 : decode cX3_kind 23 = .ok (.aload_n 0, 1) := by decide +kernel
theorem dX3_kind_24 : decode cX3_kind 24 = .ok (.getfield 16, 3) := by decide +kernel
theorem dX3_kind_27 : decode cX3_kind 27 = .ok (.iload_n 1, 1) := by decide +kernel
theorem dX3_kind_28 : decode cX3_kind 28 = .ok (.iaload, 1) := by decide +kernel
theorem dX3_kind_29 : decode cX3_kind 29 = .ok (.if_icmp .gt 7, 3) := by decide +kernel
theorem dX3_kind_32 : decode cX3_kind 32 = .ok (.iconst 1, 1) := by decide +kernel
theorem dX3_kind_33 : decode cX3_kind 33 = .ok (.goto 4, 3) := by decide +kernel
theorem dX3_kind_36 : decode cX3_kind 36 = .ok (.iconst 2, 1) := by decide +kernel
theorem dX3_kind_37 : decode cX3_kind 37 = .ok (.ireturn, 1) := by decide +kernel
set_option maxRecDepth 20000 in
theorem ggX3_kindOf_X3_isLanguage : GoodIn wsX3_kindOf wsX3_isLanguage := goodIn_r _ [4, 5, 6, 3, 7] (by decide +kernel) (by decide +kernel)
set_option maxRecDepth 20000 in
theorem gX3_kindOf_X3_isLanguage : GoodIn wsX3_kindOf (va_wsS RX3 71 yX3_isLanguage wsX3_isLanguage) := goodIn_app (goodIn_of _ (by decide +kernel)) ggX3_kindOf_X3_isLanguage
set_option maxRecDepth 20000 in
theorem ggX3_kindOf_X3_goes : GoodIn wsX3_kindOf wsX3_goes := goodIn_r _ [11, 12, 19, 20, 21, 22, 23, 24, 25, 26, 27, 28, 29, 30, 31, 32, 33, 34, 35, 36, 37, 38, 39] (by decide +kernel) (by decide +kernel)
set_option maxRecDepth 20000 in
theorem gX3_kindOf_X3_goes : GoodIn wsX3_kindOf (wsV RX3 81 RX3 yX3_goes wsX3_goes) := goodIn_app (goodIn_of _ (by decide +kernel)) ggX3_kindOf_X3_goes
set_option maxRecDepth 20000 in
theorem ggX3_kindOf_X3_kind : GoodIn wsX3_kindOf wsX3_kind := goodIn_r _ [16, 17, 18, 19, 20, 21, 22, 23, 24, 25, 26, 27, 28, 29, 30, 31, 32, 33, 34, 35, 36, 37, 38, 39] (by decide +kernel) (by decide +kernel)
set_option maxRecDepth 20000 in
theorem gX3_kindOf_X3_kind : GoodIn wsX3_kindOf (wsV RX3 110 RX3 yX3_kind wsX3_kind) := goodIn_app (goodIn_of _ (by decide +kernel)) ggX3_kindOf_X3_kind
theorem dX3_kindOf_0 : decode cX3_kindOf 0 = .ok (.aload_n 0, 1) := by decide +kernel
theorem dX3_kindOf_1 : decode cX3_kindOf 1 = .ok (.iload_n 1, 1) := by decide +kernel
theorem dX3_kindOf_2 : decode cX3_kindOf 2 = .ok (.invokestatic 71, 3) := by decide +kernel
theorem dX3_kindOf_5 : decode cX3_kindOf 5 = .ok (.iload_n 2, 1) := by decide +kernel
theorem dX3_kindOf_6 : decode cX3_kindOf 6 = .ok (.ifCond .lt 7, 3) := by decide +kernel
theorem dX3_kindOf_9 : decode cX3_kindOf 9 = .ok (.iconst 1, 1) := by decide +kernel
theorem dX3_kindOf_10 : decode cX3_kindOf 10 = .ok (.goto 4, 3) := by decide +kernel
theorem dX3_kindOf_13 : decode cX3_kindOf 13 = .ok (.iconst 0, 1) := by decide +kernel
theorem dX3_kindOf_14 : decode cX3_kindOf 14 = .ok (.iconst 1, 1) := by decide +kernel
theorem dX3_kindOf_15 : decode cX3_kindOf 15 = .ok (.invokevirtual 81, 3) := by decide +kernel
theorem dX3_kindOf_18 : decode cX3_kindOf 18 = .ok (.ifCond .eq 12, 3) := by decide +kernel
theorem dX3_kindOf_21 : decode cX3_kindOf 21 = .ok (.aload_n 0, 1) := by decide +kernel
theorem dX3_kindOf_22 : decode cX3_kindOf 22 = .ok (.iload_n 1, 1) := by decide +kernel
theorem dX3_kindOf_23 : decode cX3_kindOf 23 = .ok (.iload_n 2, 1) := by decide +kernel
theorem dX3_kindOf_24 : decode cX3_kindOf 24 = .ok (.invokevirtual 110, 3) := by decide +kernel
theorem dX3_kindOf_27 : decode cX3_kindOf 27 = .ok (.goto 4, 3) := by decide +kernel
theorem dX3_kindOf_30 : decode cX3_kindOf 30 = .ok (.iconst 0, 1) := by decide +kernel
theorem dX3_kindOf_31 : decode cX3_kindOf 31 = .ok (.ireturn, 1) := by decide +kernel
theorem dX3_count_0 : decode cX3_count 0 = .ok (.iconst 0, 1) := by decide +kernel
theorem dX3_count_1 : decode cX3_count 1 = .ok (.istore_n 3, 1) := by decide +kernel
theorem dX3_count_2 : decode cX3_count 2 = .ok (.iconst 0, 1) := by decide +kernel
theorem dX3_count_3 : decode cX3_count 3 = .ok (.istore 4, 2) := by decide +kernel
theorem dX3_count_5 : decode cX3_count 5 = .ok (.iload 4, 2) := by decide +kernel
theorem dX3_count_7 : decode cX3_count 7 = .ok (.bipush 9, 2) := by decide +kernel
theorem dX3_count_9 : decode cX3_count 9 = .ok (.if_icmp .ge 37, 3) := by decide +kernel
theorem dX3_count_12 : decode cX3_count 12 = .ok (.iload_n 3, 1) := by decide +kernel
theorem dX3_count_13 : decode cX3_count 13 = .ok (.aload_n 0, 1) := by decide +kernel
theorem dX3_count_14 : decode cX3_count 14 = .ok (.getfield 22, 3) := by decide +kernel
theorem dX3_count_17 : decode cX3_count 17 = .ok (.bipush 9, 2) := by decide +kernel
theorem dX3_count_19 : decode cX3_count 19 = .ok (.bipush 6, 2) := by decide +kernel
theorem dX3_count_21 : decode cX3_count 21 = .ok (.iload_n 1, 1) := by decide +kernel
theorem dX3_count_22 : decode cX3_count 22 = .ok (.imul, 1) := by decide +kernel
theorem dX3_count_23 : decode cX3_count 23 = .ok (.iload_n 2, 1) := by decide +kernel
theorem dX3_count_24 : decode cX3_count 24 = .ok (.iadd, 1) := by decide +kernel
theorem dX3_count_25 : decode cX3_count 25 = .ok (.imul, 1) := by decide +kernel
theorem dX3_count_26 : decode cX3_count 26 = .ok (.iload 4, 2) := by decide +kernel
theorem dX3_count_28 : decode cX3_count 28 = .ok (.iadd, 1) := by decide +kernel
theorem dX3_count_29 : decode cX3_count 29 = .ok (.iaload, 1) := by decide +kernel
theorem dX3_count_30 : decode cX3_count 30 = .ok (.ifCond .le 7, 3) := by decide +kernel
theorem dX3_count_33 : decode cX3_count 33 = .ok (.iconst 1, 1) := by decide +kernel
theorem dX3_count_34 : decode cX3_count 34 = .ok (.goto 4, 3) := by decide +kernel
theorem dX3_count_37 : decode cX3_count 37 = .ok (.iconst 0, 1) := by decide +kernel
theorem dX3_count_38 : decode cX3_count 38 = .ok (.iadd, 1) := by decide +kernel
theorem dX3_count_39 : decode cX3_count 39 = .ok (.istore_n 3, 1) := by decide +kernel
theorem dX3_count_40 : decode cX3_count 40 = .ok (.iinc 4 1, 3) := by decide +kernel
theorem dX3_count_43 : decode cX3_count 43 = .ok (.goto (-38), 3) := by decide +kernel
theorem dX3_count_46 : decode cX3_count 46 = .ok (.iload_n 3, 1) := by decide +kernel
theorem dX3_count_47 : decode cX3_count 47 = .ok (.ireturn, 1) := by decide +kernel
set_option maxRecDepth 20000 in
theorem ggX3_forms_X3_isKey : GoodIn wsX3_forms wsX3_isKey := goodIn_r _ [4, 5, 6, 3, 7] (by decide +kernel) (by decide +kernel)
set_option maxRecDepth 20000 in
theorem gX3_forms_X3_isKey : GoodIn wsX3_forms (va_wsS RX3 67 yX3_isKey wsX3_isKey) := goodIn_app (goodIn_of _ (by decide +kernel)) ggX3_forms_X3_isKey
set_option maxRecDepth 20000 in
theorem ggX3_forms_X3_isLanguage : GoodIn wsX3_forms wsX3_isLanguage := goodIn_r _ [10, 5, 6, 3, 7] (by decide +kernel) (by decide +kernel)
set_option maxRecDepth 20000 in
theorem gX3_forms_X3_isLanguage : GoodIn wsX3_forms (va_wsS RX3 71 yX3_isLanguage wsX3_isLanguage) := goodIn_app (goodIn_of _ (by decide +kernel)) ggX3_forms_X3_isLanguage
set_option maxRecDepth 20000 in
theorem ggX3_forms_X3_goes : GoodIn wsX3_forms wsX3_goes := goodIn_r _ [14, 15, 21, 22, 23, 24, 25, 26, 27, 28, 29, 30, 31, 32, 33, 34, 35, 36, 37, 38, 39, 40, 41] (by decide +kernel) (by decide +kernel)
set_option maxRecDepth 20000 in
theorem gX3_forms_X3_goes : GoodIn wsX3_forms (wsV RX3 81 RX3 yX3_goes wsX3_goes) := goodIn_app (goodIn_of _ (by decide +kernel)) ggX3_forms_X3_goes
set_option maxRecDepth 20000 in
theorem ggX3_forms_X3_count : GoodIn wsX3_forms wsX3_count := goodIn_r _ [19, 20, 21, 22, 23, 24, 25, 26, 27, 28, 29, 30, 31, 32, 33, 34, 35, 36, 37, 38, 39, 40, 41] (by decide +kernel) (by decide +kernel)
set_option maxRecDepth 20000 in
theorem gX3_forms_X3_count : GoodIn wsX3_forms (wsV RX3 114 RX3 yX3_count wsX3_count) := goodIn_app (goodIn_of _ (by decide +kernel)) ggX3_forms_X3_count
theorem dX3_forms_0 : decode cX3_forms 0 = .ok (.aload_n 0, 1) := by decide +kernel
theorem dX3_forms_1 : decode cX3_forms 1 = .ok (.iload_n 1, 1) := by decide +kernel
theorem dX3_forms_2 : decode cX3_forms 2 = .ok (.invokestatic 67, 3) := by decide +kernel
theorem dX3_forms_5 : decode cX3_forms 5 = .ok (.ifCond .eq 14, 3) := by decide +kernel
theorem dX3_forms_8 : decode cX3_forms 8 = .ok (.iload_n 2, 1) := by decide +kernel
theorem dX3_forms_9 : decode cX3_forms 9 = .ok (.invokestatic 71, 3) := by decide +kernel
theorem dX3_forms_12 : decode cX3_forms 12 = .ok (.ifCond .eq 7, 3) := by decide +kernel
theorem dX3_forms_15 : decode cX3_forms 15 = .ok (.iconst 1, 1) := by decide +kernel
theorem dX3_forms_16 : decode cX3_forms 16 = .ok (.goto 4, 3) := by decide +kernel
theorem dX3_forms_19 : decode cX3_forms 19 = .ok (.iconst 0, 1) := by decide +kernel
theorem dX3_forms_20 : decode cX3_forms 20 = .ok (.iconst 1, 1) := by decide +kernel
theorem dX3_forms_21 : decode cX3_forms 21 = .ok (.iconst 1, 1) := by decide +kernel
theorem dX3_forms_22 : decode cX3_forms 22 = .ok (.invokevirtual 81, 3) := by decide +kernel
theorem dX3_forms_25 : decode cX3_forms 25 = .ok (.ifCond .eq 12, 3) := by decide +kernel
theorem dX3_forms_28 : decode cX3_forms 28 = .ok (.aload_n 0, 1) := by decide +kernel
theorem dX3_forms_29 : decode cX3_forms 29 = .ok (.iload_n 1, 1) := by decide +kernel
theorem dX3_forms_30 : decode cX3_forms 30 = .ok (.iload_n 2, 1) := by decide +kernel
theorem dX3_forms_31 : decode cX3_forms 31 = .ok (.invokevirtual 114, 3) := by decide +kernel
theorem dX3_forms_34 : decode cX3_forms 34 = .ok (.goto 4, 3) := by decide +kernel
theorem dX3_forms_37 : decode cX3_forms 37 = .ok (.iconst 0, 1) := by decide +kernel
theorem dX3_forms_38 : decode cX3_forms 38 = .ok (.ireturn, 1) := by decide +kernel
set_option maxRecDepth 20000 in
theorem ggX3_version_X3_isKey : GoodIn wsX3_version wsX3_isKey := goodIn_r _ [5, 6, 7, 4, 8] (by decide +kernel) (by decide +kernel)
set_option maxRecDepth 20000 in
theorem gX3_version_X3_isKey : GoodIn wsX3_version (va_wsS RX3 67 yX3_isKey wsX3_isKey) := goodIn_app (goodIn_of _ (by decide +kernel)) ggX3_version_X3_isKey
set_option maxRecDepth 20000 in
theorem ggX3_version_X3_goes : GoodIn wsX3_version wsX3_goes := goodIn_r _ [12, 13, 14, 15, 16, 17, 18, 19, 20, 21, 22, 23, 24, 25, 26, 27, 28, 29, 30, 31, 32, 33, 34] (by decide +kernel) (by decide +kernel)
set_option maxRecDepth 20000 in
theorem gX3_version_X3_goes : GoodIn wsX3_version (wsV RX3 81 RX3 yX3_goes wsX3_goes) := goodIn_app (goodIn_of _ (by decide +kernel)) ggX3_version_X3_goes
theorem dX3_version_0 : decode cX3_version 0 = .ok (.aload_n 0, 1) := by decide +kernel
theorem dX3_version_1 : decode cX3_version 1 = .ok (.iload_n 1, 1) := by decide +kernel
theorem dX3_version_2 : decode cX3_version 2 = .ok (.invokestatic 67, 3) := by decide +kernel
theorem dX3_version_5 : decode cX3_version 5 = .ok (.iconst 1, 1) := by decide +kernel
theorem dX3_version_6 : decode cX3_version 6 = .ok (.iconst 1, 1) := by decide +kernel
theorem dX3_version_7 : decode cX3_version 7 = .ok (.invokevirtual 81, 3) := by decide +kernel
theorem dX3_version_10 : decode cX3_version 10 = .ok (.ifCond .eq 12, 3) := by decide +kernel
theorem dX3_version_13 : decode cX3_version 13 = .ok (.aload_n 0, 1) := by decide +kernel
theorem dX3_version_14 : decode cX3_version 14 = .ok (.getfield 32, 3) := by decide +kernel
theorem dX3_version_17 : decode cX3_version 17 = .ok (.iload_n 1, 1) := by decide +kernel
theorem dX3_version_18 : decode cX3_version 18 = .ok (.iaload, 1) := by decide +kernel
theorem dX3_version_19 : decode cX3_version 19 = .ok (.goto 4, 3) := by decide +kernel
theorem dX3_version_22 : decode cX3_version 22 = .ok (.iconst 0, 1) := by decide +kernel
theorem dX3_version_23 : decode cX3_version 23 = .ok (.ireturn, 1) := by decide +kernel
set_option maxRecDepth 20000 in
theorem ggX3_staleBy_X3_isKey : GoodIn wsX3_staleBy wsX3_isKey := goodIn_r _ [6, 7, 8, 5, 9] (by decide +kernel) (by decide +kernel)
set_option maxRecDepth 20000 in
theorem gX3_staleBy_X3_isKey : GoodIn wsX3_staleBy (va_wsS RX3 67 yX3_isKey wsX3_isKey) := goodIn_app (goodIn_of _ (by decide +kernel)) ggX3_staleBy_X3_isKey
set_option maxRecDepth 20000 in
theorem ggX3_staleBy_X3_isLanguage : GoodIn wsX3_staleBy wsX3_isLanguage := goodIn_r _ [12, 7, 8, 5, 9] (by decide +kernel) (by decide +kernel)
set_option maxRecDepth 20000 in
theorem gX3_staleBy_X3_isLanguage : GoodIn wsX3_staleBy (va_wsS RX3 71 yX3_isLanguage wsX3_isLanguage) := goodIn_app (goodIn_of _ (by decide +kernel)) ggX3_staleBy_X3_isLanguage
set_option maxRecDepth 20000 in
theorem ggX3_staleBy_X3_goes : GoodIn wsX3_staleBy wsX3_goes := goodIn_r _ [16, 17, 23, 24, 25, 26, 27, 28, 29, 30, 31, 32, 33, 34, 35, 36, 37, 38, 39, 40, 41, 42, 43] (by decide +kernel) (by decide +kernel)
set_option maxRecDepth 20000 in
theorem gX3_staleBy_X3_goes : GoodIn wsX3_staleBy (wsV RX3 81 RX3 yX3_goes wsX3_goes) := goodIn_app (goodIn_of _ (by decide +kernel)) ggX3_staleBy_X3_goes
set_option maxRecDepth 20000 in
theorem ggX3_staleBy_X3_count : GoodIn wsX3_staleBy wsX3_count := goodIn_r _ [21, 22, 23, 24, 25, 26, 27, 28, 29, 30, 31, 32, 33, 34, 35, 36, 37, 38, 39, 40, 41, 42, 43] (by decide +kernel) (by decide +kernel)
set_option maxRecDepth 20000 in
theorem gX3_staleBy_X3_count : GoodIn wsX3_staleBy (wsV RX3 114 RX3 yX3_count wsX3_count) := goodIn_app (goodIn_of _ (by decide +kernel)) ggX3_staleBy_X3_count
theorem dX3_staleBy_0 : decode cX3_staleBy 0 = .ok (.aload_n 0, 1) := by decide +kernel
theorem dX3_staleBy_1 : decode cX3_staleBy 1 = .ok (.iload_n 1, 1) := by decide +kernel
theorem dX3_staleBy_2 : decode cX3_staleBy 2 = .ok (.invokestatic 67, 3) := by decide +kernel
theorem dX3_staleBy_5 : decode cX3_staleBy 5 = .ok (.ifCond .eq 14, 3) := by decide +kernel
theorem dX3_staleBy_8 : decode cX3_staleBy 8 = .ok (.iload_n 2, 1) := by decide +kernel
theorem dX3_staleBy_9 : decode cX3_staleBy 9 = .ok (.invokestatic 71, 3) := by decide +kernel
theorem dX3_staleBy_12 : decode cX3_staleBy 12 = .ok (.ifCond .eq 7, 3) := by decide +kernel
theorem dX3_staleBy_15 : decode cX3_staleBy 15 = .ok (.iconst 1, 1) := by decide +kernel
theorem dX3_staleBy_16 : decode cX3_staleBy 16 = .ok (.goto 4, 3) := by decide +kernel
theorem dX3_staleBy_19 : decode cX3_staleBy 19 = .ok (.iconst 0, 1) := by decide +kernel
theorem dX3_staleBy_20 : decode cX3_staleBy 20 = .ok (.iconst 1, 1) := by decide +kernel
theorem dX3_staleBy_21 : decode cX3_staleBy 21 = .ok (.iconst 1, 1) := by decide +kernel
theorem dX3_staleBy_22 : decode cX3_staleBy 22 = .ok (.invokevirtual 81, 3) := by decide +kernel
theorem dX3_staleBy_25 : decode cX3_staleBy 25 = .ok (.ifCond .ne 5, 3) := by decide +kernel
theorem dX3_staleBy_28 : decode cX3_staleBy 28 = .ok (.iconst 0, 1) := by decide +kernel
theorem dX3_staleBy_29 : decode cX3_staleBy 29 = .ok (.ireturn, 1) := by decide +kernel
theorem dX3_staleBy_30 : decode cX3_staleBy 30 = .ok (.aload_n 0, 1) := by decide +kernel
theorem dX3_staleBy_31 : decode cX3_staleBy 31 = .ok (.iload_n 1, 1) := by decide +kernel
theorem dX3_staleBy_32 : decode cX3_staleBy 32 = .ok (.iload_n 2, 1) := by decide +kernel
theorem dX3_staleBy_33 : decode cX3_staleBy 33 = .ok (.invokevirtual 114, 3) := by decide +kernel
theorem dX3_staleBy_36 : decode cX3_staleBy 36 = .ok (.ifCond .ne 7, 3) := by decide +kernel
theorem dX3_staleBy_39 : decode cX3_staleBy 39 = .ok (.iconst (-1), 1) := by decide +kernel
theorem dX3_staleBy_40 : decode cX3_staleBy 40 = .ok (.goto 21, 3) := by decide +kernel
theorem dX3_staleBy_43 : decode cX3_staleBy 43 = .ok (.aload_n 0, 1) := by decide +kernel
theorem dX3_staleBy_44 : decode cX3_staleBy 44 = .ok (.getfield 32, 3) := by decide +kernel
theorem dX3_staleBy_47 : decode cX3_staleBy 47 = .ok (.iload_n 1, 1) := by decide +kernel
theorem dX3_staleBy_48 : decode cX3_staleBy 48 = .ok (.iaload, 1) := by decide +kernel
theorem dX3_staleBy_49 : decode cX3_staleBy 49 = .ok (.aload_n 0, 1) := by decide +kernel
theorem dX3_staleBy_50 : decode cX3_staleBy 50 = .ok (.getfield 35, 3) := by decide +kernel
theorem dX3_staleBy_53 : decode cX3_staleBy 53 = .ok (.bipush 6, 2) := by decide +kernel
theorem dX3_staleBy_55 : decode cX3_staleBy 55 = .ok (.iload_n 1, 1) := by decide +kernel
theorem dX3_staleBy_56 : decode cX3_staleBy 56 = .ok (.imul, 1) := by decide +kernel
theorem dX3_staleBy_57 : decode cX3_staleBy 57 = .ok (.iload_n 2, 1) := by decide +kernel
theorem dX3_staleBy_58 : decode cX3_staleBy 58 = .ok (.iadd, 1) := by decide +kernel
theorem dX3_staleBy_59 : decode cX3_staleBy 59 = .ok (.iaload, 1) := by decide +kernel
theorem dX3_staleBy_60 : decode cX3_staleBy 60 = .ok (.isub, 1) := by decide +kernel
theorem dX3_staleBy_61 : decode cX3_staleBy 61 = .ok (.ireturn, 1) := by decide +kernel
set_option maxRecDepth 20000 in
theorem ggX3_missing_X3_isLanguage : GoodIn wsX3_missing wsX3_isLanguage := goodIn_r _ [4, 5, 6, 3, 7] (by decide +kernel) (by decide +kernel)
set_option maxRecDepth 20000 in
theorem gX3_missing_X3_isLanguage : GoodIn wsX3_missing (va_wsS RX3 71 yX3_isLanguage wsX3_isLanguage) := goodIn_app (goodIn_of _ (by decide +kernel)) ggX3_missing_X3_isLanguage
set_option maxRecDepth 20000 in
theorem ggX3_missing_X3_goes : GoodIn wsX3_missing wsX3_goes := goodIn_r _ [11, 12, 18, 19, 20, 21, 22, 23, 24, 25, 26, 27, 28, 29, 30, 31, 32, 33, 34, 35, 36, 37, 38] (by decide +kernel) (by decide +kernel)
set_option maxRecDepth 20000 in
theorem gX3_missing_X3_goes : GoodIn wsX3_missing (wsV RX3 81 RX3 yX3_goes wsX3_goes) := goodIn_app (goodIn_of _ (by decide +kernel)) ggX3_missing_X3_goes
set_option maxRecDepth 20000 in
theorem ggX3_missing_X3_count : GoodIn wsX3_missing wsX3_count := goodIn_r _ [16, 17, 18, 19, 20, 21, 22, 23, 24, 25, 26, 27, 28, 29, 30, 31, 32, 33, 34, 35, 36, 37, 38] (by decide +kernel) (by decide +kernel)
set_option maxRecDepth 20000 in
theorem gX3_missing_X3_count : GoodIn wsX3_missing (wsV RX3 114 RX3 yX3_count wsX3_count) := goodIn_app (goodIn_of _ (by decide +kernel)) ggX3_missing_X3_count
theorem dX3_missing_0 : decode cX3_missing 0 = .ok (.iconst 0, 1) := by decide +kernel
theorem dX3_missing_1 : decode cX3_missing 1 = .ok (.istore_n 2, 1) := by decide +kernel
theorem dX3_missing_2 : decode cX3_missing 2 = .ok (.aload_n 0, 1) := by decide +kernel
theorem dX3_missing_3 : decode cX3_missing 3 = .ok (.iload_n 1, 1) := by decide +kernel
theorem dX3_missing_4 : decode cX3_missing 4 = .ok (.invokestatic 71, 3) := by decide +kernel
theorem dX3_missing_7 : decode cX3_missing 7 = .ok (.iconst 1, 1) := by decide +kernel
theorem dX3_missing_8 : decode cX3_missing 8 = .ok (.iconst 1, 1) := by decide +kernel
theorem dX3_missing_9 : decode cX3_missing 9 = .ok (.invokevirtual 81, 3) := by decide +kernel
theorem dX3_missing_12 : decode cX3_missing 12 = .ok (.istore_n 3, 1) := by decide +kernel
theorem dX3_missing_13 : decode cX3_missing 13 = .ok (.iconst 0, 1) := by decide +kernel
theorem dX3_missing_14 : decode cX3_missing 14 = .ok (.istore 4, 2) := by decide +kernel
theorem dX3_missing_16 : decode cX3_missing 16 = .ok (.iload 4, 2) := by decide +kernel
theorem dX3_missing_18 : decode cX3_missing 18 = .ok (.bipush 10, 2) := by decide +kernel
theorem dX3_missing_20 : decode cX3_missing 20 = .ok (.if_icmp .ge 41, 3) := by decide +kernel
theorem dX3_missing_23 : decode cX3_missing 23 = .ok (.iload_n 3, 1) := by decide +kernel
theorem dX3_missing_24 : decode cX3_missing 24 = .ok (.ifCond .eq 37, 3) := by decide +kernel
theorem dX3_missing_27 : decode cX3_missing 27 = .ok (.iload_n 2, 1) := by decide +kernel
theorem dX3_missing_28 : decode cX3_missing 28 = .ok (.aload_n 0, 1) := by decide +kernel
theorem dX3_missing_29 : decode cX3_missing 29 = .ok (.iload 4, 2) := by decide +kernel
theorem dX3_missing_31 : decode cX3_missing 31 = .ok (.iconst 0, 1) := by decide +kernel
theorem dX3_missing_32 : decode cX3_missing 32 = .ok (.invokevirtual 114, 3) := by decide +kernel
theorem dX3_missing_35 : decode cX3_missing 35 = .ok (.ifCond .le 17, 3) := by decide +kernel
theorem dX3_missing_38 : decode cX3_missing 38 = .ok (.aload_n 0, 1) := by decide +kernel
theorem dX3_missing_39 : decode cX3_missing 39 = .ok (.iload 4, 2) := by decide +kernel
theorem dX3_missing_41 : decode cX3_missing 41 = .ok (.iload_n 1, 1) := by decide +kernel
theorem dX3_missing_42 : decode cX3_missing 42 = .ok (.invokevirtual 114, 3) := by decide +kernel
theorem dX3_missing_45 : decode cX3_missing 45 = .ok (.ifCond .ne 7, 3) := by decide +kernel
theorem dX3_missing_48 : decode cX3_missing 48 = .ok (.iconst 1, 1) := by decide +kernel
theorem dX3_missing_49 : decode cX3_missing 49 = .ok (.goto 4, 3) := by decide +kernel
theorem dX3_missing_52 : decode cX3_missing 52 = .ok (.iconst 0, 1) := by decide +kernel
theorem dX3_missing_53 : decode cX3_missing 53 = .ok (.iadd, 1) := by decide +kernel
theorem dX3_missing_54 : decode cX3_missing 54 = .ok (.istore_n 2, 1) := by decide +kernel
theorem dX3_missing_55 : decode cX3_missing 55 = .ok (.iinc 4 1, 3) := by decide +kernel
theorem dX3_missing_58 : decode cX3_missing 58 = .ok (.goto (-42), 3) := by decide +kernel
theorem dX3_missing_61 : decode cX3_missing 61 = .ok (.iload_n 2, 1) := by decide +kernel
theorem dX3_missing_62 : decode cX3_missing 62 = .ok (.ireturn, 1) := by decide +kernel
theorem dX3_has_0 : decode cX3_has 0 = .ok (.iconst 0, 1) := by decide +kernel
theorem dX3_has_1 : decode cX3_has 1 = .ok (.istore_n 3, 1) := by decide +kernel
theorem dX3_has_2 : decode cX3_has 2 = .ok (.iconst 0, 1) := by decide +kernel
theorem dX3_has_3 : decode cX3_has 3 = .ok (.istore 4, 2) := by decide +kernel
theorem dX3_has_5 : decode cX3_has 5 = .ok (.iload 4, 2) := by decide +kernel
theorem dX3_has_7 : decode cX3_has 7 = .ok (.aload_n 0, 1) := by decide +kernel
theorem dX3_has_8 : decode cX3_has 8 = .ok (.getfield 22, 3) := by decide +kernel
theorem dX3_has_11 : decode cX3_has 11 = .ok (.iload_n 1, 1) := by decide +kernel
theorem dX3_has_12 : decode cX3_has 12 = .ok (.iaload, 1) := by decide +kernel
theorem dX3_has_13 : decode cX3_has 13 = .ok (.if_icmp .ge 35, 3) := by decide +kernel
theorem dX3_has_16 : decode cX3_has 16 = .ok (.iload_n 3, 1) := by decide +kernel
theorem dX3_has_17 : decode cX3_has 17 = .ok (.ifCond .ne 19, 3) := by decide +kernel
theorem dX3_has_20 : decode cX3_has 20 = .ok (.aload_n 0, 1) := by decide +kernel
theorem dX3_has_21 : decode cX3_has 21 = .ok (.getfield 29, 3) := by decide +kernel
theorem dX3_has_24 : decode cX3_has 24 = .ok (.bipush 8, 2) := by decide +kernel
theorem dX3_has_26 : decode cX3_has 26 = .ok (.iload_n 1, 1) := by decide +kernel
theorem dX3_has_27 : decode cX3_has 27 = .ok (.imul, 1) := by decide +kernel
theorem dX3_has_28 : decode cX3_has 28 = .ok (.iload 4, 2) := by decide +kernel
theorem dX3_has_30 : decode cX3_has 30 = .ok (.iadd, 1) := by decide +kernel
theorem dX3_has_31 : decode cX3_has 31 = .ok (.iaload, 1) := by decide +kernel
theorem dX3_has_32 : decode cX3_has 32 = .ok (.iload_n 2, 1) := by decide +kernel
