theorem dX3_has_33 : decode cX3_has 33 = .ok (.if_icmp .ne 7, 3) := by decide +kernel
theorem dX3_has_36 : decode cX3_has 36 = .ok (.iconst 1, 1) := by decide +kernel
theorem dX3_has_37 : decode cX3_has 37 = .ok (.goto 4, 3) := by decide +kernel
theorem dX3_has_40 : decode cX3_has 40 = .ok (.iconst 0, 1) := by decide +kernel
theorem dX3_has_41 : decode cX3_has 41 = .ok (.istore_n 3, 1) := by decide +kernel
theorem dX3_has_42 : decode cX3_has 42 = .ok (.iinc 4 1, 3) := by decide +kernel
theorem dX3_has_45 : decode cX3_has 45 = .ok (.goto (-40), 3) := by decide +kernel
theorem dX3_has_48 : decode cX3_has 48 = .ok (.iload_n 3, 1) := by decide +kernel
theorem dX3_has_49 : decode cX3_has 49 = .ok (.ireturn, 1) := by decide +kernel
set_option maxRecDepth 20000 in
theorem ggX3_isFit_X3_has : GoodIn wsX3_isFit wsX3_has := goodIn_r _ [7, 1, 8, 9, 10, 11, 12, 13, 14, 15, 16, 17, 18, 19, 20, 21, 22, 23, 24, 25, 26, 27, 28, 29] (by decide +kernel) (by decide +kernel)
set_option maxRecDepth 20000 in
theorem gX3_isFit_X3_has : GoodIn wsX3_isFit (wsV RX3 117 RX3 yX3_has wsX3_has) := goodIn_app (goodIn_of _ (by decide +kernel)) ggX3_isFit_X3_has
theorem dX3_isFit_0 : decode cX3_isFit 0 = .ok (.aload_n 0, 1) := by decide +kernel
theorem dX3_isFit_1 : decode cX3_isFit 1 = .ok (.getfield 22, 3) := by decide +kernel
theorem dX3_isFit_4 : decode cX3_isFit 4 = .ok (.iload_n 2, 1) := by decide +kernel
theorem dX3_isFit_5 : decode cX3_isFit 5 = .ok (.iaload, 1) := by decide +kernel
theorem dX3_isFit_6 : decode cX3_isFit 6 = .ok (.ifCond .le 7, 3) := by decide +kernel
theorem dX3_isFit_9 : decode cX3_isFit 9 = .ok (.iconst 1, 1) := by decide +kernel
theorem dX3_isFit_10 : decode cX3_isFit 10 = .ok (.goto 4, 3) := by decide +kernel
theorem dX3_isFit_13 : decode cX3_isFit 13 = .ok (.iconst 0, 1) := by decide +kernel
theorem dX3_isFit_14 : decode cX3_isFit 14 = .ok (.istore_n 3, 1) := by decide +kernel
theorem dX3_isFit_15 : decode cX3_isFit 15 = .ok (.bipush 101, 2) := by decide +kernel
theorem dX3_isFit_17 : decode cX3_isFit 17 = .ok (.istore 4, 2) := by decide +kernel
theorem dX3_isFit_19 : decode cX3_isFit 19 = .ok (.iload 4, 2) := by decide +kernel
theorem dX3_isFit_21 : decode cX3_isFit 21 = .ok (.bipush 104, 2) := by decide +kernel
theorem dX3_isFit_23 : decode cX3_isFit 23 = .ok (.if_icmp .gt 98, 3) := by decide +kernel
theorem dX3_isFit_26 : decode cX3_isFit 26 = .ok (.iconst 0, 1) := by decide +kernel
theorem dX3_isFit_27 : decode cX3_isFit 27 = .ok (.istore 5, 2) := by decide +kernel
theorem dX3_isFit_29 : decode cX3_isFit 29 = .ok (.iconst 0, 1) := by decide +kernel
theorem dX3_isFit_30 : decode cX3_isFit 30 = .ok (.istore 6, 2) := by decide +kernel
theorem dX3_isFit_32 : decode cX3_isFit 32 = .ok (.iload 6, 2) := by decide +kernel
theorem dX3_isFit_34 : decode cX3_isFit 34 = .ok (.bipush 9, 2) := by decide +kernel
theorem dX3_isFit_36 : decode cX3_isFit 36 = .ok (.if_icmp .ge 37, 3) := by decide +kernel
theorem dX3_isFit_39 : decode cX3_isFit 39 = .ok (.iload 5, 2) := by decide +kernel
theorem dX3_isFit_41 : decode cX3_isFit 41 = .ok (.ifCond .ne 19, 3) := by decide +kernel
theorem dX3_isFit_44 : decode cX3_isFit 44 = .ok (.aload_n 0, 1) := by decide +kernel
theorem dX3_isFit_45 : decode cX3_isFit 45 = .ok (.bipush 54, 2) := by decide +kernel
theorem dX3_isFit_47 : decode cX3_isFit 47 = .ok (.iload_n 1, 1) := by decide +kernel
theorem dX3_isFit_48 : decode cX3_isFit 48 = .ok (.imul, 1) := by decide +kernel
theorem dX3_isFit_49 : decode cX3_isFit 49 = .ok (.iload 6, 2) := by decide +kernel
theorem dX3_isFit_51 : decode cX3_isFit 51 = .ok (.iadd, 1) := by decide +kernel
theorem dX3_isFit_52 : decode cX3_isFit 52 = .ok (.iload 4, 2) := by decide +kernel
theorem dX3_isFit_54 : decode cX3_isFit 54 = .ok (.invokevirtual 117, 3) := by decide +kernel
theorem dX3_isFit_57 : decode cX3_isFit 57 = .ok (.ifCond .eq 7, 3) := by decide +kernel
theorem dX3_isFit_60 : decode cX3_isFit 60 = .ok (.iconst 1, 1) := by decide +kernel
theorem dX3_isFit_61 : decode cX3_isFit 61 = .ok (.goto 4, 3) := by decide +kernel
theorem dX3_isFit_64 : decode cX3_isFit 64 = .ok (.iconst 0, 1) := by decide +kernel
theorem dX3_isFit_65 : decode cX3_isFit 65 = .ok (.istore 5, 2) := by decide +kernel
theorem dX3_isFit_67 : decode cX3_isFit 67 = .ok (.iinc 6 1, 3) := by decide +kernel
theorem dX3_isFit_70 : decode cX3_isFit 70 = .ok (.goto (-38), 3) := by decide +kernel
theorem dX3_isFit_73 : decode cX3_isFit 73 = .ok (.iload_n 3, 1) := by decide +kernel
theorem dX3_isFit_74 : decode cX3_isFit 74 = .ok (.ifCond .eq 39, 3) := by decide +kernel
theorem dX3_isFit_77 : decode cX3_isFit 77 = .ok (.aload_n 0, 1) := by decide +kernel
theorem dX3_isFit_78 : decode cX3_isFit 78 = .ok (.iload_n 2, 1) := by decide +kernel
theorem dX3_isFit_79 : decode cX3_isFit 79 = .ok (.iload 4, 2) := by decide +kernel
theorem dX3_isFit_81 : decode cX3_isFit 81 = .ok (.invokevirtual 117, 3) := by decide +kernel
theorem dX3_isFit_84 : decode cX3_isFit 84 = .ok (.ifCond .eq 11, 3) := by decide +kernel
theorem dX3_isFit_87 : decode cX3_isFit 87 = .ok (.iload 5, 2) := by decide +kernel
theorem dX3_isFit_89 : decode cX3_isFit 89 = .ok (.ifCond .eq 24, 3) := by decide +kernel
theorem dX3_isFit_92 : decode cX3_isFit 92 = .ok (.goto 17, 3) := by decide +kernel
theorem dX3_isFit_95 : decode cX3_isFit 95 = .ok (.iload 5, 2) := by decide +kernel
theorem dX3_isFit_97 : decode cX3_isFit 97 = .ok (.ifCond .eq 12, 3) := by decide +kernel
theorem dX3_isFit_100 : decode cX3_isFit 100 = .ok (.aload_n 0, 1) := by decide +kernel
theorem dX3_isFit_101 : decode cX3_isFit 101 = .ok (.getfield 25, 3) := by decide +kernel
theorem dX3_isFit_104 : decode cX3_isFit 104 = .ok (.iload_n 2, 1) := by decide +kernel
theorem dX3_isFit_105 : decode cX3_isFit 105 = .ok (.baload, 1) := by decide +kernel
theorem dX3_isFit_106 : decode cX3_isFit 106 = .ok (.ifCond .eq 7, 3) := by decide +kernel
theorem dX3_isFit_109 : decode cX3_isFit 109 = .ok (.iconst 1, 1) := by decide +kernel
theorem dX3_isFit_110 : decode cX3_isFit 110 = .ok (.goto 4, 3) := by decide +kernel
theorem dX3_isFit_113 : decode cX3_isFit 113 = .ok (.iconst 0, 1) := by decide +kernel
theorem dX3_isFit_114 : decode cX3_isFit 114 = .ok (.istore_n 3, 1) := by decide +kernel
theorem dX3_isFit_115 : decode cX3_isFit 115 = .ok (.iinc 4 1, 3) := by decide +kernel
theorem dX3_isFit_118 : decode cX3_isFit 118 = .ok (.goto (-99), 3) := by decide +kernel
theorem dX3_isFit_121 : decode cX3_isFit 121 = .ok (.iload_n 3, 1) := by decide +kernel
theorem dX3_isFit_122 : decode cX3_isFit 122 = .ok (.ireturn, 1) := by decide +kernel
set_option maxRecDepth 20000 in
theorem ggX3_fits_X3_isForm : GoodIn wsX3_fits wsX3_isForm := goodIn_r _ [4, 5, 6, 3, 7, 8, 9, 10, 11, 12, 13, 14, 15, 16] (by decide +kernel) (by decide +kernel)
set_option maxRecDepth 20000 in
theorem gX3_fits_X3_isForm : GoodIn wsX3_fits (va_wsS RX3 98 yX3_isForm wsX3_isForm) := goodIn_app (goodIn_of _ (by decide +kernel)) ggX3_fits_X3_isForm
set_option maxRecDepth 20000 in
theorem ggX3_fits_X3_goes : GoodIn wsX3_fits wsX3_goes := goodIn_r _ [20, 21, 36, 37, 38, 39, 40, 41, 42, 43, 44, 45, 46, 47, 48, 49, 50, 51, 52, 53, 54, 55, 56] (by decide +kernel) (by decide +kernel)
set_option maxRecDepth 20000 in
theorem gX3_fits_X3_goes : GoodIn wsX3_fits (wsV RX3 81 RX3 yX3_goes wsX3_goes) := goodIn_app (goodIn_of _ (by decide +kernel)) ggX3_fits_X3_goes
set_option maxRecDepth 20000 in
theorem ggX3_fits_X3_at : GoodIn wsX3_fits wsX3_at := goodIn_r _ [24] (by decide +kernel) (by decide +kernel)
set_option maxRecDepth 20000 in
theorem gX3_fits_X3_at : GoodIn wsX3_fits (va_wsS RX3 102 yX3_at wsX3_at) := goodIn_app (goodIn_of _ (by decide +kernel)) ggX3_fits_X3_at
set_option maxRecDepth 20000 in
theorem ggX3_fits_X3_isFit : GoodIn wsX3_fits wsX3_isFit := goodIn_r _ [28, 29, 30, 31, 32, 33, 3, 34, 35, 36, 37, 38, 39, 40, 41, 42, 43, 44, 45, 46, 47, 48, 49, 50, 51, 52, 53, 54, 55, 56] (by decide +kernel) (by decide +kernel)
set_option maxRecDepth 20000 in
theorem gX3_fits_X3_isFit : GoodIn wsX3_fits (wsV RX3 120 RX3 yX3_isFit wsX3_isFit) := goodIn_app (goodIn_of _ (by decide +kernel)) ggX3_fits_X3_isFit
theorem dX3_fits_0 : decode cX3_fits 0 = .ok (.aload_n 0, 1) := by decide +kernel
theorem dX3_fits_1 : decode cX3_fits 1 = .ok (.iload_n 1, 1) := by decide +kernel
theorem dX3_fits_2 : decode cX3_fits 2 = .ok (.iload_n 2, 1) := by decide +kernel
theorem dX3_fits_3 : decode cX3_fits 3 = .ok (.iload_n 3, 1) := by decide +kernel
theorem dX3_fits_4 : decode cX3_fits 4 = .ok (.iload 4, 2) := by decide +kernel
theorem dX3_fits_6 : decode cX3_fits 6 = .ok (.invokestatic 98, 3) := by decide +kernel
theorem dX3_fits_9 : decode cX3_fits 9 = .ok (.iconst 1, 1) := by decide +kernel
theorem dX3_fits_10 : decode cX3_fits 10 = .ok (.iconst 1, 1) := by decide +kernel
theorem dX3_fits_11 : decode cX3_fits 11 = .ok (.invokevirtual 81, 3) := by decide +kernel
theorem dX3_fits_14 : decode cX3_fits 14 = .ok (.istore 5, 2) := by decide +kernel
theorem dX3_fits_16 : decode cX3_fits 16 = .ok (.iload 5, 2) := by decide +kernel
theorem dX3_fits_18 : decode cX3_fits 18 = .ok (.ifCond .eq 23, 3) := by decide +kernel
theorem dX3_fits_21 : decode cX3_fits 21 = .ok (.aload_n 0, 1) := by decide +kernel
theorem dX3_fits_22 : decode cX3_fits 22 = .ok (.iload_n 1, 1) := by decide +kernel
theorem dX3_fits_23 : decode cX3_fits 23 = .ok (.iload_n 1, 1) := by decide +kernel
theorem dX3_fits_24 : decode cX3_fits 24 = .ok (.iload_n 2, 1) := by decide +kernel
theorem dX3_fits_25 : decode cX3_fits 25 = .ok (.iload_n 3, 1) := by decide +kernel
theorem dX3_fits_26 : decode cX3_fits 26 = .ok (.iload 4, 2) := by decide +kernel
theorem dX3_fits_28 : decode cX3_fits 28 = .ok (.invokestatic 102, 3) := by decide +kernel
theorem dX3_fits_31 : decode cX3_fits 31 = .ok (.invokevirtual 120, 3) := by decide +kernel
theorem dX3_fits_34 : decode cX3_fits 34 = .ok (.ifCond .eq 7, 3) := by decide +kernel
theorem dX3_fits_37 : decode cX3_fits 37 = .ok (.iconst 1, 1) := by decide +kernel
theorem dX3_fits_38 : decode cX3_fits 38 = .ok (.goto 4, 3) := by decide +kernel
theorem dX3_fits_41 : decode cX3_fits 41 = .ok (.iconst 0, 1) := by decide +kernel
theorem dX3_fits_42 : decode cX3_fits 42 = .ok (.ireturn, 1) := by decide +kernel
set_option maxRecDepth 20000 in
theorem ggX3_tells_X3_kind : GoodIn wsX3_tells wsX3_kind := goodIn_r _ [8, 9, 10, 25, 26, 27, 28, 29, 30, 31, 32, 33, 34, 35, 36, 37, 38, 39, 40, 41, 42, 43, 44, 45] (by decide +kernel) (by decide +kernel)
set_option maxRecDepth 20000 in
theorem gX3_tells_X3_kind : GoodIn wsX3_tells (wsV RX3 110 RX3 yX3_kind wsX3_kind) := goodIn_app (goodIn_of _ (by decide +kernel)) ggX3_tells_X3_kind
set_option maxRecDepth 20000 in
theorem ggX3_tells_X3_at : GoodIn wsX3_tells wsX3_at := goodIn_r _ [13] (by decide +kernel) (by decide +kernel)
set_option maxRecDepth 20000 in
theorem gX3_tells_X3_at : GoodIn wsX3_tells (va_wsS RX3 102 yX3_at wsX3_at) := goodIn_app (goodIn_of _ (by decide +kernel)) ggX3_tells_X3_at
set_option maxRecDepth 20000 in
theorem ggX3_tells_X3_isFit : GoodIn wsX3_tells wsX3_isFit := goodIn_r _ [17, 18, 19, 20, 21, 22, 7, 23, 24, 25, 26, 27, 28, 29, 30, 31, 32, 33, 34, 35, 36, 37, 38, 39, 40, 41, 42, 43, 44, 45] (by decide +kernel) (by decide +kernel)
set_option maxRecDepth 20000 in
theorem gX3_tells_X3_isFit : GoodIn wsX3_tells (wsV RX3 120 RX3 yX3_isFit wsX3_isFit) := goodIn_app (goodIn_of _ (by decide +kernel)) ggX3_tells_X3_isFit
theorem dX3_tells_0 : decode cX3_tells 0 = .ok (.aload_n 0, 1) := by decide +kernel
theorem dX3_tells_1 : decode cX3_tells 1 = .ok (.iconst (-1), 1) := by decide +kernel
theorem dX3_tells_2 : decode cX3_tells 2 = .ok (.putfield 123, 3) := by decide +kernel
theorem dX3_tells_5 : decode cX3_tells 5 = .ok (.aload_n 0, 1) := by decide +kernel
theorem dX3_tells_6 : decode cX3_tells 6 = .ok (.iload_n 2, 1) := by decide +kernel
theorem dX3_tells_7 : decode cX3_tells 7 = .ok (.putfield 126, 3) := by decide +kernel
theorem dX3_tells_10 : decode cX3_tells 10 = .ok (.iconst 1, 1) := by decide +kernel
theorem dX3_tells_11 : decode cX3_tells 11 = .ok (.istore 5, 2) := by decide +kernel
theorem dX3_tells_13 : decode cX3_tells 13 = .ok (.iload 5, 2) := by decide +kernel
theorem dX3_tells_15 : decode cX3_tells 15 = .ok (.ifCond .eq 142, 3) := by decide +kernel
theorem dX3_tells_18 : decode cX3_tells 18 = .ok (.aload_n 0, 1) := by decide +kernel
theorem dX3_tells_19 : decode cX3_tells 19 = .ok (.aload_n 0, 1) := by decide +kernel
theorem dX3_tells_20 : decode cX3_tells 20 = .ok (.getfield 126, 3) := by decide +kernel
theorem dX3_tells_23 : decode cX3_tells 23 = .ok (.iload_n 3, 1) := by decide +kernel
theorem dX3_tells_24 : decode cX3_tells 24 = .ok (.invokevirtual 110, 3) := by decide +kernel
theorem dX3_tells_27 : decode cX3_tells 27 = .ok (.istore 6, 2) := by decide +kernel
theorem dX3_tells_29 : decode cX3_tells 29 = .ok (.iconst 0, 1) := by decide +kernel
theorem dX3_tells_30 : decode cX3_tells 30 = .ok (.istore 7, 2) := by decide +kernel
theorem dX3_tells_32 : decode cX3_tells 32 = .ok (.iload 7, 2) := by decide +kernel
theorem dX3_tells_34 : decode cX3_tells 34 = .ok (.iconst 4, 1) := by decide +kernel
theorem dX3_tells_35 : decode cX3_tells 35 = .ok (.if_icmp .ge 72, 3) := by decide +kernel
theorem dX3_tells_38 : decode cX3_tells 38 = .ok (.aload_n 0, 1) := by decide +kernel
theorem dX3_tells_39 : decode cX3_tells 39 = .ok (.getfield 123, 3) := by decide +kernel
theorem dX3_tells_42 : decode cX3_tells 42 = .ok (.iconst (-1), 1) := by decide +kernel
theorem dX3_tells_43 : decode cX3_tells 43 = .ok (.if_icmp .ne 64, 3) := by decide +kernel
theorem dX3_tells_46 : decode cX3_tells 46 = .ok (.iload_n 1, 1) := by decide +kernel
theorem dX3_tells_47 : decode cX3_tells 47 = .ok (.aload_n 0, 1) := by decide +kernel
theorem dX3_tells_48 : decode cX3_tells 48 = .ok (.getfield 126, 3) := by decide +kernel
theorem dX3_tells_51 : decode cX3_tells 51 = .ok (.iload 7, 2) := by decide +kernel
theorem dX3_tells_53 : decode cX3_tells 53 = .ok (.iconst 2, 1) := by decide +kernel
theorem dX3_tells_54 : decode cX3_tells 54 = .ok (.if_icmp .ge 8, 3) := by decide +kernel
theorem dX3_tells_57 : decode cX3_tells 57 = .ok (.iload 6, 2) := by decide +kernel
theorem dX3_tells_59 : decode cX3_tells 59 = .ok (.goto 4, 3) := by decide +kernel
theorem dX3_tells_62 : decode cX3_tells 62 = .ok (.iconst 2, 1) := by decide +kernel
theorem dX3_tells_63 : decode cX3_tells 63 = .ok (.iload 7, 2) := by decide +kernel
theorem dX3_tells_65 : decode cX3_tells 65 = .ok (.iconst 2, 1) := by decide +kernel
theorem dX3_tells_66 : decode cX3_tells 66 = .ok (.irem, 1) := by decide +kernel
theorem dX3_tells_67 : decode cX3_tells 67 = .ok (.ifCond .ne 8, 3) := by decide +kernel
theorem dX3_tells_70 : decode cX3_tells 70 = .ok (.iload 4, 2) := by decide +kernel
theorem dX3_tells_72 : decode cX3_tells 72 = .ok (.goto 4, 3) := by decide +kernel
theorem dX3_tells_75 : decode cX3_tells 75 = .ok (.iconst 0, 1) := by decide +kernel
theorem dX3_tells_76 : decode cX3_tells 76 = .ok (.invokestatic 102, 3) := by decide +kernel
theorem dX3_tells_79 : decode cX3_tells 79 = .ok (.istore 8, 2) := by decide +kernel
theorem dX3_tells_81 : decode cX3_tells 81 = .ok (.aload_n 0, 1) := by decide +kernel
theorem dX3_tells_82 : decode cX3_tells 82 = .ok (.aload_n 0, 1) := by decide +kernel
theorem dX3_tells_83 : decode cX3_tells 83 = .ok (.iload_n 1, 1) := by decide +kernel
theorem dX3_tells_84 : decode cX3_tells 84 = .ok (.iload 8, 2) := by decide +kernel
theorem dX3_tells_86 : decode cX3_tells 86 = .ok (.invokevirtual 120, 3) := by decide +kernel
theorem dX3_tells_89 : decode cX3_tells 89 = .ok (.ifCond .eq 8, 3) := by decide +kernel
theorem dX3_tells_92 : decode cX3_tells 92 = .ok (.iload 8, 2) := by decide +kernel
theorem dX3_tells_94 : decode cX3_tells 94 = .ok (.goto 4, 3) := by decide +kernel
theorem dX3_tells_97 : decode cX3_tells 97 = .ok (.iconst (-1), 1) := by decide +kernel
theorem dX3_tells_98 : decode cX3_tells 98 = .ok (.putfield 123, 3) := by decide +kernel
theorem dX3_tells_101 : decode cX3_tells 101 = .ok (.iinc 7 1, 3) := by decide +kernel
theorem dX3_tells_104 : decode cX3_tells 104 = .ok (.goto (-72), 3) := by decide +kernel
theorem dX3_tells_107 : decode cX3_tells 107 = .ok (.aload_n 0, 1) := by decide +kernel
theorem dX3_tells_108 : decode cX3_tells 108 = .ok (.getfield 123, 3) := by decide +kernel
theorem dX3_tells_111 : decode cX3_tells 111 = .ok (.iconst (-1), 1) := by decide +kernel
theorem dX3_tells_112 : decode cX3_tells 112 = .ok (.if_icmp .ne 14, 3) := by decide +kernel
theorem dX3_tells_115 : decode cX3_tells 115 = .ok (.aload_n 0, 1) := by decide +kernel
theorem dX3_tells_116 : decode cX3_tells 116 = .ok (.getfield 126, 3) := by decide +kernel
theorem dX3_tells_119 : decode cX3_tells 119 = .ok (.ifCond .eq 7, 3) := by decide +kernel
theorem dX3_tells_122 : decode cX3_tells 122 = .ok (.iconst 1, 1) := by decide +kernel
theorem dX3_tells_123 : decode cX3_tells 123 = .ok (.goto 4, 3) := by decide +kernel
theorem dX3_tells_126 : decode cX3_tells 126 = .ok (.iconst 0, 1) := by decide +kernel
theorem dX3_tells_127 : decode cX3_tells 127 = .ok (.istore 5, 2) := by decide +kernel
theorem dX3_tells_129 : decode cX3_tells 129 = .ok (.aload_n 0, 1) := by decide +kernel
theorem dX3_tells_130 : decode cX3_tells 130 = .ok (.iload 5, 2) := by decide +kernel
theorem dX3_tells_132 : decode cX3_tells 132 = .ok (.ifCond .eq 15, 3) := by decide +kernel
theorem dX3_tells_135 : decode cX3_tells 135 = .ok (.aload_n 0, 1) := by decide +kernel
theorem dX3_tells_136 : decode cX3_tells 136 = .ok (.getfield 7, 3) := by decide +kernel
theorem dX3_tells_139 : decode cX3_tells 139 = .ok (.aload_n 0, 1) := by decide +kernel
theorem dX3_tells_140 : decode cX3_tells 140 = .ok (.getfield 126, 3) := by decide +kernel
theorem dX3_tells_143 : decode cX3_tells 143 = .ok (.iaload, 1) := by decide +kernel
theorem dX3_tells_144 : decode cX3_tells 144 = .ok (.goto 7, 3) := by decide +kernel
theorem dX3_tells_147 : decode cX3_tells 147 = .ok (.aload_n 0, 1) := by decide +kernel
theorem dX3_tells_148 : decode cX3_tells 148 = .ok (.getfield 126, 3) := by decide +kernel
theorem dX3_tells_151 : decode cX3_tells 151 = .ok (.putfield 126, 3) := by decide +kernel
theorem dX3_tells_154 : decode cX3_tells 154 = .ok (.goto (-141), 3) := by decide +kernel
theorem dX3_tells_157 : decode cX3_tells 157 = .ok (.return_, 1) := by decide +kernel
set_option maxRecDepth 20000 in
theorem ggX3_isAsked_X3_isKey : GoodIn wsX3_isAsked wsX3_isKey := goodIn_r _ [4, 5, 6, 3, 7] (by decide +kernel) (by decide +kernel)
set_option maxRecDepth 20000 in
theorem gX3_isAsked_X3_isKey : GoodIn wsX3_isAsked (va_wsS RX3 67 yX3_isKey wsX3_isKey) := goodIn_app (goodIn_of _ (by decide +kernel)) ggX3_isAsked_X3_isKey
set_option maxRecDepth 20000 in
theorem ggX3_isAsked_X3_isLanguage : GoodIn wsX3_isAsked wsX3_isLanguage := goodIn_r _ [10, 5, 6, 3, 7] (by decide +kernel) (by decide +kernel)
set_option maxRecDepth 20000 in
theorem gX3_isAsked_X3_isLanguage : GoodIn wsX3_isAsked (va_wsS RX3 71 yX3_isLanguage wsX3_isLanguage) := goodIn_app (goodIn_of _ (by decide +kernel)) ggX3_isAsked_X3_isLanguage
set_option maxRecDepth 20000 in
theorem ggX3_isAsked_X3_isThird : GoodIn wsX3_isAsked wsX3_isThird := goodIn_r _ [13, 5, 6, 3, 7] (by decide +kernel) (by decide +kernel)
set_option maxRecDepth 20000 in
theorem gX3_isAsked_X3_isThird : GoodIn wsX3_isAsked (va_wsS RX3 74 yX3_isThird wsX3_isThird) := goodIn_app (goodIn_of _ (by decide +kernel)) ggX3_isAsked_X3_isThird
set_option maxRecDepth 20000 in
theorem ggX3_isAsked_X3_goes : GoodIn wsX3_isAsked wsX3_goes := goodIn_r _ [17, 18, 46, 47, 48, 49, 50, 51, 52, 53, 54, 55, 56, 57, 58, 59, 60, 61, 62, 63, 64, 65, 66] (by decide +kernel) (by decide +kernel)
set_option maxRecDepth 20000 in
theorem gX3_isAsked_X3_goes : GoodIn wsX3_isAsked (wsV RX3 81 RX3 yX3_goes wsX3_goes) := goodIn_app (goodIn_of _ (by decide +kernel)) ggX3_isAsked_X3_goes
set_option maxRecDepth 20000 in
theorem ggX3_isAsked_X3_tells : GoodIn wsX3_isAsked wsX3_tells := goodIn_r _ [22, 23, 24, 25, 26, 27, 28, 3, 29, 30, 31, 32, 33, 34, 35, 36, 37, 38, 39, 40, 41, 42, 43, 44, 45, 46, 47, 48, 49, 50, 51, 52, 53, 54, 55, 56, 57, 58, 59, 60, 61, 62, 63, 64, 65, 66] (by decide +kernel) (by decide +kernel)
set_option maxRecDepth 20000 in
theorem gX3_isAsked_X3_tells : GoodIn wsX3_isAsked (wsV RX3 129 RX3 yX3_tells wsX3_tells) := goodIn_app (goodIn_of _ (by decide +kernel)) ggX3_isAsked_X3_tells
theorem dX3_isAsked_0 : decode cX3_isAsked 0 = .ok (.aload_n 0, 1) := by decide +kernel
theorem dX3_isAsked_1 : decode cX3_isAsked 1 = .ok (.iload_n 1, 1) := by decide +kernel
theorem dX3_isAsked_2 : decode cX3_isAsked 2 = .ok (.invokestatic 67, 3) := by decide +kernel
theorem dX3_isAsked_5 : decode cX3_isAsked 5 = .ok (.ifCond .eq 22, 3) := by decide +kernel
theorem dX3_isAsked_8 : decode cX3_isAsked 8 = .ok (.iload_n 2, 1) := by decide +kernel
theorem dX3_isAsked_9 : decode cX3_isAsked 9 = .ok (.invokestatic 71, 3) := by decide +kernel
theorem dX3_isAsked_12 : decode cX3_isAsked 12 = .ok (.ifCond .eq 15, 3) := by decide +kernel
theorem dX3_isAsked_15 : decode cX3_isAsked 15 = .ok (.iload 4, 2) := by decide +kernel
theorem dX3_isAsked_17 : decode cX3_isAsked 17 = .ok (.invokestatic 74, 3) := by decide +kernel
theorem dX3_isAsked_20 : decode cX3_isAsked 20 = .ok (.ifCond .eq 7, 3) := by decide +kernel
theorem dX3_isAsked_23 : decode cX3_isAsked 23 = .ok (.iconst 1, 1) := by decide +kernel
theorem dX3_isAsked_24 : decode cX3_isAsked 24 = .ok (.goto 4, 3) := by decide +kernel
theorem dX3_isAsked_27 : decode cX3_isAsked 27 = .ok (.iconst 0, 1) := by decide +kernel
theorem dX3_isAsked_28 : decode cX3_isAsked 28 = .ok (.iload_n 3, 1) := by decide +kernel
theorem dX3_isAsked_29 : decode cX3_isAsked 29 = .ok (.ifCond .lt 7, 3) := by decide +kernel
theorem dX3_isAsked_32 : decode cX3_isAsked 32 = .ok (.iconst 1, 1) := by decide +kernel
theorem dX3_isAsked_33 : decode cX3_isAsked 33 = .ok (.goto 4, 3) := by decide +kernel
theorem dX3_isAsked_36 : decode cX3_isAsked 36 = .ok (.iconst 0, 1) := by decide +kernel
theorem dX3_isAsked_37 : decode cX3_isAsked 37 = .ok (.iconst 1, 1) := by decide +kernel
theorem dX3_isAsked_38 : decode cX3_isAsked 38 = .ok (.invokevirtual 81, 3) := by decide +kernel
theorem dX3_isAsked_41 : decode cX3_isAsked 41 = .ok (.istore 5, 2) := by decide +kernel
theorem dX3_isAsked_43 : decode cX3_isAsked 43 = .ok (.iload 5, 2) := by decide +kernel
theorem dX3_isAsked_45 : decode cX3_isAsked 45 = .ok (.ifCond .eq 12, 3) := by decide +kernel
theorem dX3_isAsked_48 : decode cX3_isAsked 48 = .ok (.aload_n 0, 1) := by decide +kernel
theorem dX3_isAsked_49 : decode cX3_isAsked 49 = .ok (.iload_n 1, 1) := by decide +kernel
theorem dX3_isAsked_50 : decode cX3_isAsked 50 = .ok (.iload_n 2, 1) := by decide +kernel
theorem dX3_isAsked_51 : decode cX3_isAsked 51 = .ok (.iload_n 3, 1) := by decide +kernel
theorem dX3_isAsked_52 : decode cX3_isAsked 52 = .ok (.iload 4, 2) := by decide +kernel
theorem dX3_isAsked_54 : decode cX3_isAsked 54 = .ok (.invokevirtual 129, 3) := by decide +kernel
theorem dX3_isAsked_57 : decode cX3_isAsked 57 = .ok (.iload 5, 2) := by decide +kernel
theorem dX3_isAsked_59 : decode cX3_isAsked 59 = .ok (.ireturn, 1) := by decide +kernel
set_option maxRecDepth 20000 in
theorem ggX3_toldBy_X3_isAsked : GoodIn wsX3_toldBy wsX3_isAsked := goodIn_r _ [7, 8, 9, 6, 10, 11, 12, 13, 14, 15, 16, 17, 18, 19, 20, 21, 22, 23, 24, 25, 26, 27, 28, 1, 2, 29, 30, 31, 32, 33, 34, 35, 36, 37, 38, 39, 40, 41, 42, 43, 44, 45, 46, 47, 48, 49, 50, 51, 52, 53, 54, 55, 56, 57, 58, 59, 60, 61, 62, 63, 64, 65, 66, 67, 68, 69, 70] (by decide +kernel) (by decide +kernel)
set_option maxRecDepth 20000 in
theorem gX3_toldBy_X3_isAsked : GoodIn wsX3_toldBy (wsV RX3 133 RX3 yX3_isAsked wsX3_isAsked) := goodIn_app (goodIn_of _ (by decide +kernel)) ggX3_toldBy_X3_isAsked
theorem dX3_toldBy_0 : decode cX3_toldBy 0 = .ok (.aload_n 0, 1) := by decide +kernel
theorem dX3_toldBy_1 : decode cX3_toldBy 1 = .ok (.iload_n 1, 1) := by decide +kernel
theorem dX3_toldBy_2 : decode cX3_toldBy 2 = .ok (.iload_n 2, 1) := by decide +kernel
theorem dX3_toldBy_3 : decode cX3_toldBy 3 = .ok (.iload_n 3, 1) := by decide +kernel
theorem dX3_toldBy_4 : decode cX3_toldBy 4 = .ok (.iload 4, 2) := by decide +kernel
theorem dX3_toldBy_6 : decode cX3_toldBy 6 = .ok (.invokevirtual 133, 3) := by decide +kernel
theorem dX3_toldBy_9 : decode cX3_toldBy 9 = .ok (.ifCond .eq 22, 3) := by decide +kernel
theorem dX3_toldBy_12 : decode cX3_toldBy 12 = .ok (.aload_n 0, 1) := by decide +kernel
theorem dX3_toldBy_13 : decode cX3_toldBy 13 = .ok (.getfield 123, 3) := by decide +kernel
theorem dX3_toldBy_16 : decode cX3_toldBy 16 = .ok (.iconst (-1), 1) := by decide +kernel
theorem dX3_toldBy_17 : decode cX3_toldBy 17 = .ok (.if_icmp .ne 7, 3) := by decide +kernel
theorem dX3_toldBy_20 : decode cX3_toldBy 20 = .ok (.iconst (-1), 1) := by decide +kernel
theorem dX3_toldBy_21 : decode cX3_toldBy 21 = .ok (.goto 11, 3) := by decide +kernel
theorem dX3_toldBy_24 : decode cX3_toldBy 24 = .ok (.aload_n 0, 1) := by decide +kernel
theorem dX3_toldBy_25 : decode cX3_toldBy 25 = .ok (.getfield 126, 3) := by decide +kernel
theorem dX3_toldBy_28 : decode cX3_toldBy 28 = .ok (.goto 4, 3) := by decide +kernel
theorem dX3_toldBy_31 : decode cX3_toldBy 31 = .ok (.iconst 0, 1) := by decide +kernel
theorem dX3_toldBy_32 : decode cX3_toldBy 32 = .ok (.ireturn, 1) := by decide +kernel
set_option maxRecDepth 20000 in
theorem ggX3_toldByLooking_X3_toldBy : GoodIn wsX3_toldByLooking wsX3_toldBy := goodIn_r _ [5, 6, 7, 8, 9, 10, 4, 11, 12, 13, 14, 15, 16, 17, 18, 19, 20, 21, 22, 23, 24, 25, 26, 27, 28, 29, 30, 31, 32, 33, 34, 35, 36, 37, 38, 39, 40, 41, 42, 43, 44, 45, 46, 47, 48, 49, 50, 51, 52, 53, 54, 55, 56, 57, 58, 59, 60, 61, 62, 63, 64, 65, 66, 67, 68, 69, 70, 71, 72, 73, 74] (by decide +kernel) (by decide +kernel)
set_option maxRecDepth 20000 in
theorem gX3_toldByLooking_X3_toldBy : GoodIn wsX3_toldByLooking (wsV RX3 136 RX3 yX3_toldBy wsX3_toldBy) := goodIn_app (goodIn_of _ (by decide +kernel)) ggX3_toldByLooking_X3_toldBy
theorem dX3_toldByLooking_0 : decode cX3_toldByLooking 0 = .ok (.aload_n 0, 1) := by decide +kernel
theorem dX3_toldByLooking_1 : decode cX3_toldByLooking 1 = .ok (.iload_n 1, 1) := by decide +kernel
theorem dX3_toldByLooking_2 : decode cX3_toldByLooking 2 = .ok (.iload_n 2, 1) := by decide +kernel
theorem dX3_toldByLooking_3 : decode cX3_toldByLooking 3 = .ok (.iload_n 3, 1) := by decide +kernel
theorem dX3_toldByLooking_4 : decode cX3_toldByLooking 4 = .ok (.iload 4, 2) := by decide +kernel
theorem dX3_toldByLooking_6 : decode cX3_toldByLooking 6 = .ok (.invokevirtual 136, 3) := by decide +kernel
theorem dX3_toldByLooking_9 : decode cX3_toldByLooking 9 = .ok (.ireturn, 1) := by decide +kernel
set_option maxRecDepth 20000 in
theorem ggX3_toldForm_X3_isAsked : GoodIn wsX3_toldForm wsX3_isAsked := goodIn_r _ [6, 7, 8, 5, 9, 10, 11, 12, 13, 14, 15, 16, 17, 18, 19, 20, 21, 22, 23, 24, 25, 26, 27, 1, 28, 29, 30, 31, 32, 33, 34, 35, 36, 37, 38, 39, 40, 41, 42, 43, 44, 45, 46, 47, 48, 49, 50, 51, 52, 53, 54, 55, 56, 57, 58, 59, 60, 61, 62, 63, 64, 65, 66, 67, 68, 69, 70] (by decide +kernel) (by decide +kernel)
set_option maxRecDepth 20000 in
theorem gX3_toldForm_X3_isAsked : GoodIn wsX3_toldForm (wsV RX3 133 RX3 yX3_isAsked wsX3_isAsked) := goodIn_app (goodIn_of _ (by decide +kernel)) ggX3_toldForm_X3_isAsked
theorem dX3_toldForm_0 : decode cX3_toldForm 0 = .ok (.aload_n 0, 1) := by decide +kernel
theorem dX3_toldForm_1 : decode cX3_toldForm 1 = .ok (.iload_n 1, 1) := by decide +kernel
theorem dX3_toldForm_2 : decode cX3_toldForm 2 = .ok (.iload_n 2, 1) := by decide +kernel
theorem dX3_toldForm_3 : decode cX3_toldForm 3 = .ok (.iload_n 3, 1) := by decide +kernel
theorem dX3_toldForm_4 : decode cX3_toldForm 4 = .ok (.iload 4, 2) := by decide +kernel
theorem dX3_toldForm_6 : decode cX3_toldForm 6 = .ok (.invokevirtual 133, 3) := by decide +kernel
theorem dX3_toldForm_9 : decode cX3_toldForm 9 = .ok (.ifCond .eq 25, 3) := by decide +kernel
theorem dX3_toldForm_12 : decode cX3_toldForm 12 = .ok (.aload_n 0, 1) := by decide +kernel
theorem dX3_toldForm_13 : decode cX3_toldForm 13 = .ok (.getfield 123, 3) := by decide +kernel
theorem dX3_toldForm_16 : decode cX3_toldForm 16 = .ok (.iconst (-1), 1) := by decide +kernel
theorem dX3_toldForm_17 : decode cX3_toldForm 17 = .ok (.if_icmp .ne 7, 3) := by decide +kernel
theorem dX3_toldForm_20 : decode cX3_toldForm 20 = .ok (.iconst (-1), 1) := by decide +kernel
theorem dX3_toldForm_21 : decode cX3_toldForm 21 = .ok (.goto 14, 3) := by decide +kernel
theorem dX3_toldForm_24 : decode cX3_toldForm 24 = .ok (.aload_n 0, 1) := by decide +kernel
theorem dX3_toldForm_25 : decode cX3_toldForm 25 = .ok (.getfield 123, 3) := by decide +kernel
theorem dX3_toldForm_28 : decode cX3_toldForm 28 = .ok (.bipush 9, 2) := by decide +kernel
theorem dX3_toldForm_30 : decode cX3_toldForm 30 = .ok (.irem, 1) := by decide +kernel
theorem dX3_toldForm_31 : decode cX3_toldForm 31 = .ok (.goto 4, 3) := by decide +kernel
theorem dX3_toldForm_34 : decode cX3_toldForm 34 = .ok (.iconst 0, 1) := by decide +kernel
theorem dX3_toldForm_35 : decode cX3_toldForm 35 = .ok (.ireturn, 1) := by decide +kernel
set_option maxRecDepth 20000 in
theorem ggX3_toldSign_X3_isAsked : GoodIn wsX3_toldSign wsX3_isAsked := goodIn_r _ [8, 9, 10, 7, 11, 12, 13, 14, 15, 16, 17, 18, 19, 20, 21, 22, 23, 24, 25, 26, 27, 28, 29, 1, 30, 31, 32, 33, 34, 35, 36, 37, 38, 39, 40, 41, 42, 43, 44, 2, 45, 46, 47, 48, 49, 3, 50, 51, 52, 53, 54, 55, 56, 57, 58, 59, 60, 61, 62, 63, 64, 65, 66, 67, 68, 69, 70] (by decide +kernel) (by decide +kernel)
set_option maxRecDepth 20000 in
theorem gX3_toldSign_X3_isAsked : GoodIn wsX3_toldSign (wsV RX3 133 RX3 yX3_isAsked wsX3_isAsked) := goodIn_app (goodIn_of _ (by decide +kernel)) ggX3_toldSign_X3_isAsked
set_option maxRecDepth 20000 in
theorem ggX3_toldSign_X3_in : GoodIn wsX3_toldSign wsX3_in := goodIn_r _ [14] (by decide +kernel) (by decide +kernel)
set_option maxRecDepth 20000 in
theorem gX3_toldSign_X3_in : GoodIn wsX3_toldSign (va_wsS RX3 63 yX3_in wsX3_in) := goodIn_app (goodIn_of _ (by decide +kernel)) ggX3_toldSign_X3_in
set_option maxRecDepth 20000 in
theorem ggX3_toldSign_X3_goes : GoodIn wsX3_toldSign wsX3_goes := goodIn_r _ [24, 25, 50, 51, 52, 53, 54, 55, 56, 57, 58, 59, 60, 61, 62, 63, 64, 65, 66, 67, 68, 69, 70] (by decide +kernel) (by decide +kernel)
set_option maxRecDepth 20000 in
theorem gX3_toldSign_X3_goes : GoodIn wsX3_toldSign (wsV RX3 81 RX3 yX3_goes wsX3_goes) := goodIn_app (goodIn_of _ (by decide +kernel)) ggX3_toldSign_X3_goes
theorem dX3_toldSign_0 : decode cX3_toldSign 0 = .ok (.aload_n 0, 1) := by decide +kernel
theorem dX3_toldSign_1 : decode cX3_toldSign 1 = .ok (.iload_n 1, 1) := by decide +kernel
theorem dX3_toldSign_2 : decode cX3_toldSign 2 = .ok (.iload_n 2, 1) := by decide +kernel
theorem dX3_toldSign_3 : decode cX3_toldSign 3 = .ok (.iload_n 3, 1) := by decide +kernel
theorem dX3_toldSign_4 : decode cX3_toldSign 4 = .ok (.iload 4, 2) := by decide +kernel
theorem dX3_toldSign_6 : decode cX3_toldSign 6 = .ok (.invokevirtual 133, 3) := by decide +kernel
theorem dX3_toldSign_9 : decode cX3_toldSign 9 = .ok (.ifCond .ne 5, 3) := by decide +kernel
theorem dX3_toldSign_12 : decode cX3_toldSign 12 = .ok (.iconst 0, 1) := by decide +kernel
theorem dX3_toldSign_13 : decode cX3_toldSign 13 = .ok (.ireturn, 1) := by decide +kernel
theorem dX3_toldSign_14 : decode cX3_toldSign 14 = .ok (.aload_n 0, 1) := by decide +kernel
theorem dX3_toldSign_15 : decode cX3_toldSign 15 = .ok (.getfield 123, 3) := by decide +kernel
theorem dX3_toldSign_18 : decode cX3_toldSign 18 = .ok (.iconst (-1), 1) := by decide +kernel
theorem dX3_toldSign_19 : decode cX3_toldSign 19 = .ok (.if_icmp .eq 27, 3) := by decide +kernel
theorem dX3_toldSign_22 : decode cX3_toldSign 22 = .ok (.iload 5, 2) := by decide +kernel
theorem dX3_toldSign_24 : decode cX3_toldSign 24 = .ok (.iconst 0, 1) := by decide +kernel
theorem dX3_toldSign_25 : decode cX3_toldSign 25 = .ok (.aload_n 0, 1) := by decide +kernel
theorem dX3_toldSign_26 : decode cX3_toldSign 26 = .ok (.getfield 22, 3) := by decide +kernel
theorem dX3_toldSign_29 : decode cX3_toldSign 29 = .ok (.aload_n 0, 1) := by decide +kernel
theorem dX3_toldSign_30 : decode cX3_toldSign 30 = .ok (.getfield 123, 3) := by decide +kernel
theorem dX3_toldSign_33 : decode cX3_toldSign 33 = .ok (.iaload, 1) := by decide +kernel
theorem dX3_toldSign_34 : decode cX3_toldSign 34 = .ok (.iconst 1, 1) := by decide +kernel
theorem dX3_toldSign_35 : decode cX3_toldSign 35 = .ok (.isub, 1) := by decide +kernel
theorem dX3_toldSign_36 : decode cX3_toldSign 36 = .ok (.invokestatic 63, 3) := by decide +kernel
theorem dX3_toldSign_39 : decode cX3_toldSign 39 = .ok (.ifCond .eq 7, 3) := by decide +kernel
theorem dX3_toldSign_42 : decode cX3_toldSign 42 = .ok (.iconst 1, 1) := by decide +kernel
theorem dX3_toldSign_43 : decode cX3_toldSign 43 = .ok (.goto 4, 3) := by decide +kernel
theorem dX3_toldSign_46 : decode cX3_toldSign 46 = .ok (.iconst 0, 1) := by decide +kernel
theorem dX3_toldSign_47 : decode cX3_toldSign 47 = .ok (.istore 6, 2) := by decide +kernel
theorem dX3_toldSign_49 : decode cX3_toldSign 49 = .ok (.aload_n 0, 1) := by decide +kernel
theorem dX3_toldSign_50 : decode cX3_toldSign 50 = .ok (.iload 6, 2) := by decide +kernel
theorem dX3_toldSign_52 : decode cX3_toldSign 52 = .ok (.iconst 1, 1) := by decide +kernel
theorem dX3_toldSign_53 : decode cX3_toldSign 53 = .ok (.iconst 1, 1) := by decide +kernel
theorem dX3_toldSign_54 : decode cX3_toldSign 54 = .ok (.invokevirtual 81, 3) := by decide +kernel
theorem dX3_toldSign_57 : decode cX3_toldSign 57 = .ok (.ifCond .eq 21, 3) := by decide +kernel
theorem dX3_toldSign_60 : decode cX3_toldSign 60 = .ok (.aload_n 0, 1) := by decide +kernel
theorem dX3_toldSign_61 : decode cX3_toldSign 61 = .ok (.getfield 29, 3) := by decide +kernel
theorem dX3_toldSign_64 : decode cX3_toldSign 64 = .ok (.bipush 8, 2) := by decide +kernel
theorem dX3_toldSign_66 : decode cX3_toldSign 66 = .ok (.aload_n 0, 1) := by decide +kernel
theorem dX3_toldSign_67 : decode cX3_toldSign 67 = .ok (.getfield 123, 3) := by decide +kernel
theorem dX3_toldSign_70 : decode cX3_toldSign 70 = .ok (.imul, 1) := by decide +kernel
theorem dX3_toldSign_71 : decode cX3_toldSign 71 = .ok (.iload 5, 2) := by decide +kernel
theorem dX3_toldSign_73 : decode cX3_toldSign 73 = .ok (.iadd, 1) := by decide +kernel
theorem dX3_toldSign_74 : decode cX3_toldSign 74 = .ok (.iaload, 1) := by decide +kernel
theorem dX3_toldSign_75 : decode cX3_toldSign 75 = .ok (.goto 4, 3) := by decide +kernel
theorem dX3_toldSign_78 : decode cX3_toldSign 78 = .ok (.iconst 0, 1) := by decide +kernel
theorem dX3_toldSign_79 : decode cX3_toldSign 79 = .ok (.ireturn, 1) := by decide +kernel
theorem dX3_pairs_0 : decode cX3_pairs 0 = .ok (.aload_n 0, 1) := by decide +kernel
theorem dX3_pairs_1 : decode cX3_pairs 1 = .ok (.iconst 0, 1) := by decide +kernel
theorem dX3_pairs_2 : decode cX3_pairs 2 = .ok (.putfield 59, 3) := by decide +kernel
theorem dX3_pairs_5 : decode cX3_pairs 5 = .ok (.aload_n 0, 1) := by decide +kernel
theorem dX3_pairs_6 : decode cX3_pairs 6 = .ok (.getfield 88, 3) := by decide +kernel
theorem dX3_pairs_9 : decode cX3_pairs 9 = .ok (.ireturn, 1) := by decide +kernel
theorem dX3_distance_0 : decode cX3_distance 0 = .ok (.iconst 0, 1) := by decide +kernel
theorem dX3_distance_1 : decode cX3_distance 1 = .ok (.istore_n 3, 1) := by decide +kernel
theorem dX3_distance_2 : decode cX3_distance 2 = .ok (.iload_n 3, 1) := by decide +kernel
theorem dX3_distance_3 : decode cX3_distance 3 = .ok (.aload_n 0, 1) := by decide +kernel
theorem dX3_distance_4 : decode cX3_distance 4 = .ok (.getfield 22, 3) := by decide +kernel
theorem dX3_distance_7 : decode cX3_distance 7 = .ok (.iload_n 2, 1) := by decide +kernel
theorem dX3_distance_8 : decode cX3_distance 8 = .ok (.iaload, 1) := by decide +kernel
theorem dX3_distance_9 : decode cX3_distance 9 = .ok (.if_icmp .gt 16, 3) := by decide +kernel
theorem dX3_distance_12 : decode cX3_distance 12 = .ok (.aload_n 0, 1) := by decide +kernel
theorem dX3_distance_13 : decode cX3_distance 13 = .ok (.getfield 56, 3) := by decide +kernel
theorem dX3_distance_16 : decode cX3_distance 16 = .ok (.iload_n 3, 1) := by decide +kernel
theorem dX3_distance_17 : decode cX3_distance 17 = .ok (.iload_n 3, 1) := by decide +kernel
theorem dX3_distance_18 : decode cX3_distance 18 = .ok (.iastore, 1) := by decide +kernel
theorem dX3_distance_19 : decode cX3_distance 19 = .ok (.iinc 3 1, 3) := by decide +kernel
theorem dX3_distance_22 : decode cX3_distance 22 = .ok (.goto (-20), 3) := by decide +kernel
theorem dX3_distance_25 : decode cX3_distance 25 = .ok (.iconst 1, 1) := by decide +kernel
theorem dX3_distance_26 : decode cX3_distance 26 = .ok (.istore_n 3, 1) := by decide +kernel
theorem dX3_distance_27 : decode cX3_distance 27 = .ok (.iload_n 3, 1) := by decide +kernel
theorem dX3_distance_28 : decode cX3_distance 28 = .ok (.aload_n 0, 1) := by decide +kernel
theorem dX3_distance_29 : decode cX3_distance 29 = .ok (.getfield 41, 3) := by decide +kernel
theorem dX3_distance_32 : decode cX3_distance 32 = .ok (.iload_n 1, 1) := by decide +kernel
theorem dX3_distance_33 : decode cX3_distance 33 = .ok (.iaload, 1) := by decide +kernel
theorem dX3_distance_34 : decode cX3_distance 34 = .ok (.if_icmp .gt 186, 3) := by decide +kernel
theorem dX3_distance_37 : decode cX3_distance 37 = .ok (.iconst 0, 1) := by decide +kernel
theorem dX3_distance_38 : decode cX3_distance 38 = .ok (.istore 4, 2) := by decide +kernel
theorem dX3_distance_40 : decode cX3_distance 40 = .ok (.iload 4, 2) := by decide +kernel
theorem dX3_distance_42 : decode cX3_distance 42 = .ok (.aload_n 0, 1) := by decide +kernel
theorem dX3_distance_43 : decode cX3_distance 43 = .ok (.getfield 22, 3) := by decide +kernel
theorem dX3_distance_46 : decode cX3_distance 46 = .ok (.iload_n 2, 1) := by decide +kernel
theorem dX3_distance_47 : decode cX3_distance 47 = .ok (.iaload, 1) := by decide +kernel
theorem dX3_distance_48 : decode cX3_distance 48 = .ok (.if_icmp .gt 23, 3) := by decide +kernel
theorem dX3_distance_51 : decode cX3_distance 51 = .ok (.aload_n 0, 1) := by decide +kernel
theorem dX3_distance_52 : decode cX3_distance 52 = .ok (.getfield 53, 3) := by decide +kernel
theorem dX3_distance_55 : decode cX3_distance 55 = .ok (.iload 4, 2) := by decide +kernel
theorem dX3_distance_57 : decode cX3_distance 57 = .ok (.aload_n 0, 1) := by decide +kernel
theorem dX3_distance_58 : decode cX3_distance 58 = .ok (.getfield 56, 3) := by decide +kernel
theorem dX3_distance_61 : decode cX3_distance 61 = .ok (.iload 4, 2) := by decide +kernel
theorem dX3_distance_63 : decode cX3_distance 63 = .ok (.iaload, 1) := by decide +kernel
theorem dX3_distance_64 : decode cX3_distance 64 = .ok (.iastore, 1) := by decide +kernel
theorem dX3_distance_65 : decode cX3_distance 65 = .ok (.iinc 4 1, 3) := by decide +kernel
theorem dX3_distance_68 : decode cX3_distance 68 = .ok (.goto (-28), 3) := by decide +kernel
theorem dX3_distance_71 : decode cX3_distance 71 = .ok (.aload_n 0, 1) := by decide +kernel
theorem dX3_distance_72 : decode cX3_distance 72 = .ok (.getfield 56, 3) := by decide +kernel
theorem dX3_distance_75 : decode cX3_distance 75 = .ok (.iconst 0, 1) := by decide +kernel
theorem dX3_distance_76 : decode cX3_distance 76 = .ok (.iload_n 3, 1) := by decide +kernel
theorem dX3_distance_77 : decode cX3_distance 77 = .ok (.iastore, 1) := by decide +kernel
theorem dX3_distance_78 : decode cX3_distance 78 = .ok (.iconst 1, 1) := by decide +kernel
theorem dX3_distance_79 : decode cX3_distance 79 = .ok (.istore 4, 2) := by decide +kernel
theorem dX3_distance_81 : decode cX3_distance 81 = .ok (.iload 4, 2) := by decide +kernel
theorem dX3_distance_83 : decode cX3_distance 83 = .ok (.aload_n 0, 1) := by decide +kernel
theorem dX3_distance_84 : decode cX3_distance 84 = .ok (.getfield 22, 3) := by decide +kernel
theorem dX3_distance_87 : decode cX3_distance 87 = .ok (.iload_n 2, 1) := by decide +kernel
theorem dX3_distance_88 : decode cX3_distance 88 = .ok (.iaload, 1) := by decide +kernel
theorem dX3_distance_89 : decode cX3_distance 89 = .ok (.if_icmp .gt 125, 3) := by decide +kernel
theorem dX3_distance_92 : decode cX3_distance 92 = .ok (.aload_n 0, 1) := by decide +kernel
theorem dX3_distance_93 : decode cX3_distance 93 = .ok (.getfield 53, 3) := by decide +kernel
theorem dX3_distance_96 : decode cX3_distance 96 = .ok (.iload 4, 2) := by decide +kernel
theorem dX3_distance_98 : decode cX3_distance 98 = .ok (.iconst 1, 1) := by decide +kernel
theorem dX3_distance_99 : decode cX3_distance 99 = .ok (.isub, 1) := by decide +kernel
theorem dX3_distance_100 : decode cX3_distance 100 = .ok (.iaload, 1) := by decide +kernel
theorem dX3_distance_101 : decode cX3_distance 101 = .ok (.aload_n 0, 1) := by decide +kernel
theorem dX3_distance_102 : decode cX3_distance 102 = .ok (.getfield 29, 3) := by decide +kernel
theorem dX3_distance_105 : decode cX3_distance 105 = .ok (.bipush 8, 2) := by decide +kernel
theorem dX3_distance_107 : decode cX3_distance 107 = .ok (.iload_n 2, 1) := by decide +kernel
theorem dX3_distance_108 : decode cX3_distance 108 = .ok (.imul, 1) := by decide +kernel
theorem dX3_distance_109 : decode cX3_distance 109 = .ok (.iload 4, 2) := by decide +kernel
theorem dX3_distance_111 : decode cX3_distance 111 = .ok (.iadd, 1) := by decide +kernel
theorem dX3_distance_112 : decode cX3_distance 112 = .ok (.iconst 1, 1) := by decide +kernel
theorem dX3_distance_113 : decode cX3_distance 113 = .ok (.isub, 1) := by decide +kernel
theorem dX3_distance_114 : decode cX3_distance 114 = .ok (.iaload, 1) := by decide +kernel
theorem dX3_distance_115 : decode cX3_distance 115 = .ok (.aload_n 0, 1) := by decide +kernel
theorem dX3_distance_116 : decode cX3_distance 116 = .ok (.getfield 47, 3) := by decide +kernel
theorem dX3_distance_119 : decode cX3_distance 119 = .ok (.bipush 8, 2) := by decide +kernel
theorem dX3_distance_121 : decode cX3_distance 121 = .ok (.iload_n 1, 1) := by decide +kernel
theorem dX3_distance_122 : decode cX3_distance 122 = .ok (.imul, 1) := by decide +kernel
theorem dX3_distance_123 : decode cX3_distance 123 = .ok (.iload_n 3, 1) := by decide +kernel
theorem dX3_distance_124 : decode cX3_distance 124 = .ok (.iadd, 1) := by decide +kernel
theorem dX3_distance_125 : decode cX3_distance 125 = .ok (.iconst 1, 1) := by decide +kernel
theorem dX3_distance_126 : decode cX3_distance 126 = .ok (.isub, 1) := by decide +kernel
theorem dX3_distance_127 : decode cX3_distance 127 = .ok (.iaload, 1) := by decide +kernel
theorem dX3_distance_128 : decode cX3_distance 128 = .ok (.if_icmp .ne 7, 3) := by decide +kernel
theorem dX3_distance_131 : decode cX3_distance 131 = .ok (.iconst 0, 1) := by decide +kernel
theorem dX3_distance_132 : decode cX3_distance 132 = .ok (.goto 4, 3) := by decide +kernel
theorem dX3_distance_135 : decode cX3_distance 135 = .ok (.iconst 1, 1) := by decide +kernel
theorem dX3_distance_136 : decode cX3_distance 136 = .ok (.iadd, 1) := by decide +kernel
theorem dX3_distance_137 : decode cX3_distance 137 = .ok (.istore 5, 2) := by decide +kernel
theorem dX3_distance_139 : decode cX3_distance 139 = .ok (.aload_n 0, 1) := by decide +kernel
theorem dX3_distance_140 : decode cX3_distance 140 = .ok (.getfield 53, 3) := by decide +kernel
theorem dX3_distance_143 : decode cX3_distance 143 = .ok (.iload 4, 2) := by decide +kernel
theorem dX3_distance_145 : decode cX3_distance 145 = .ok (.iaload, 1) := by decide +kernel
theorem dX3_distance_146 : decode cX3_distance 146 = .ok (.iconst 1, 1) := by decide +kernel
theorem dX3_distance_147 : decode cX3_distance 147 = .ok (.iadd, 1) := by decide +kernel
theorem dX3_distance_148 : decode cX3_distance 148 = .ok (.iload 5, 2) := by decide +kernel
theorem dX3_distance_150 : decode cX3_distance 150 = .ok (.if_icmp .ge 15, 3) := by decide +kernel
theorem dX3_distance_153 : decode cX3_distance 153 = .ok (.aload_n 0, 1) := by decide +kernel
theorem dX3_distance_154 : decode cX3_distance 154 = .ok (.getfield 53, 3) := by decide +kernel
theorem dX3_distance_157 : decode cX3_distance 157 = .ok (.iload 4, 2) := by decide +kernel
theorem dX3_distance_159 : decode cX3_distance 159 = .ok (.iaload, 1) := by decide +kernel
theorem dX3_distance_160 : decode cX3_distance 160 = .ok (.iconst 1, 1) := by decide +kernel
theorem dX3_distance_161 : decode cX3_distance 161 = .ok (.iadd, 1) := by decide +kernel
theorem dX3_distance_162 : decode cX3_distance 162 = .ok (.goto 5, 3) := by decide +kernel
theorem dX3_distance_165 : decode cX3_distance 165 = .ok (.iload 5, 2) := by decide +kernel
theorem dX3_distance_167 : decode cX3_distance 167 = .ok (.istore 5, 2) := by decide +kernel
theorem dX3_distance_169 : decode cX3_distance 169 = .ok (.aload_n 0, 1) := by decide +kernel
theorem dX3_distance_170 : decode cX3_distance 170 = .ok (.getfield 56, 3) := by decide +kernel
theorem dX3_distance_173 : decode cX3_distance 173 = .ok (.iload 4, 2) := by decide +kernel
theorem dX3_distance_175 : decode cX3_distance 175 = .ok (.aload_n 0, 1) := by decide +kernel
theorem dX3_distance_176 : decode cX3_distance 176 = .ok (.getfield 56, 3) := by decide +kernel
theorem dX3_distance_179 : decode cX3_distance 179 = .ok (.iload 4, 2) := by decide +kernel
theorem dX3_distance_181 : decode cX3_distance 181 = .ok (.iconst 1, 1) := by decide +kernel
theorem dX3_distance_182 : decode cX3_distance 182 = .ok (.isub, 1) := by decide +kernel
theorem dX3_distance_183 : decode cX3_distance 183 = .ok (.iaload, 1) := by decide +kernel
theorem dX3_distance_184 : decode cX3_distance 184 = .ok (.iconst 1, 1) := by decide +kernel
theorem dX3_distance_185 : decode cX3_distance 185 = .ok (.iadd, 1) := by decide +kernel
theorem dX3_distance_186 : decode cX3_distance 186 = .ok (.iload 5, 2) := by decide +kernel
theorem dX3_distance_188 : decode cX3_distance 188 = .ok (.if_icmp .ge 17, 3) := by decide +kernel
theorem dX3_distance_191 : decode cX3_distance 191 = .ok (.aload_n 0, 1) := by decide +kernel
theorem dX3_distance_192 : decode cX3_distance 192 = .ok (.getfield 56, 3) := by decide +kernel
theorem dX3_distance_195 : decode cX3_distance 195 = .ok (.iload 4, 2) := by decide +kernel
theorem dX3_distance_197 : decode cX3_distance 197 = .ok (.iconst 1, 1) := by decide +kernel
theorem dX3_distance_198 : decode cX3_distance 198 = .ok (.isub, 1) := by decide +kernel
theorem dX3_distance_199 : decode cX3_distance 199 = .ok (.iaload, 1) := by decide +kernel
theorem dX3_distance_200 : decode cX3_distance 200 = .ok (.iconst 1, 1) := by decide +kernel
theorem dX3_distance_201 : decode cX3_distance 201 = .ok (.iadd, 1) := by decide +kernel
theorem dX3_distance_202 : decode cX3_distance 202 = .ok (.goto 5, 3) := by decide +kernel
theorem dX3_distance_205 : decode cX3_distance 205 = .ok (.iload 5, 2) := by decide +kernel
theorem dX3_distance_207 : decode cX3_distance 207 = .ok (.iastore, 1) := by decide +kernel
theorem dX3_distance_208 : decode cX3_distance 208 = .ok (.iinc 4 1, 3) := by decide +kernel
theorem dX3_distance_211 : decode cX3_distance 211 = .ok (.goto (-130), 3) := by decide +kernel
theorem dX3_distance_214 : decode cX3_distance 214 = .ok (.iinc 3 1, 3) := by decide +kernel
theorem dX3_distance_217 : decode cX3_distance 217 = .ok (.goto (-190), 3) := by decide +kernel
theorem dX3_distance_220 : decode cX3_distance 220 = .ok (.aload_n 0, 1) := by decide +kernel
theorem dX3_distance_221 : decode cX3_distance 221 = .ok (.getfield 56, 3) := by decide +kernel
theorem dX3_distance_224 : decode cX3_distance 224 = .ok (.aload_n 0, 1) := by decide +kernel
theorem dX3_distance_225 : decode cX3_distance 225 = .ok (.getfield 22, 3) := by decide +kernel
theorem dX3_distance_228 : decode cX3_distance 228 = .ok (.iload_n 2, 1) := by decide +kernel
theorem dX3_distance_229 : decode cX3_distance 229 = .ok (.iaload, 1) := by decide +kernel
theorem dX3_distance_230 : decode cX3_distance 230 = .ok (.iaload, 1) := by decide +kernel
theorem dX3_distance_231 : decode cX3_distance 231 = .ok (.ireturn, 1) := by decide +kernel
set_option maxRecDepth 20000 in
theorem ggX3_near_X3_at : GoodIn wsX3_near wsX3_at := goodIn_r _ [7] (by decide +kernel) (by decide +kernel)
set_option maxRecDepth 20000 in
theorem gX3_near_X3_at : GoodIn wsX3_near (va_wsS RX3 102 yX3_at wsX3_at) := goodIn_app (goodIn_of _ (by decide +kernel)) ggX3_near_X3_at
set_option maxRecDepth 20000 in
theorem ggX3_near_X3_distance : GoodIn wsX3_near wsX3_distance := goodIn_r _ [11, 2, 12, 13, 14, 15, 16, 17, 18, 19, 20, 21, 22, 23, 24, 25, 26, 27, 28, 29, 30, 31, 32, 33, 34, 35, 36, 37] (by decide +kernel) (by decide +kernel)
set_option maxRecDepth 20000 in
theorem gX3_near_X3_distance : GoodIn wsX3_near (wsV RX3 139 RX3 yX3_distance wsX3_distance) := goodIn_app (goodIn_of _ (by decide +kernel)) ggX3_near_X3_distance
theorem dX3_near_0 : decode cX3_near 0 = .ok (.iload_n 1, 1) := by decide +kernel
theorem dX3_near_1 : decode cX3_near 1 = .ok (.iconst 0, 1) := by decide +kernel
theorem dX3_near_2 : decode cX3_near 2 = .ok (.iload_n 3, 1) := by decide +kernel
theorem dX3_near_3 : decode cX3_near 3 = .ok (.iload 4, 2) := by decide +kernel
theorem dX3_near_5 : decode cX3_near 5 = .ok (.invokestatic 102, 3) := by decide +kernel
theorem dX3_near_8 : decode cX3_near 8 = .ok (.istore 5, 2) := by decide +kernel
theorem dX3_near_10 : decode cX3_near 10 = .ok (.iconst (-1), 1) := by decide +kernel
theorem dX3_near_11 : decode cX3_near 11 = .ok (.istore 6, 2) := by decide +kernel
theorem dX3_near_13 : decode cX3_near 13 = .ok (.iconst 0, 1) := by decide +kernel
theorem dX3_near_14 : decode cX3_near 14 = .ok (.istore 7, 2) := by decide +kernel
theorem dX3_near_16 : decode cX3_near 16 = .ok (.iload 7, 2) := by decide +kernel
theorem dX3_near_18 : decode cX3_near 18 = .ok (.aload_n 0, 1) := by decide +kernel
theorem dX3_near_19 : decode cX3_near 19 = .ok (.getfield 88, 3) := by decide +kernel
theorem dX3_near_22 : decode cX3_near 22 = .ok (.if_icmp .ge 96, 3) := by decide +kernel
theorem dX3_near_25 : decode cX3_near 25 = .ok (.aload_n 0, 1) := by decide +kernel
theorem dX3_near_26 : decode cX3_near 26 = .ok (.getfield 22, 3) := by decide +kernel
theorem dX3_near_29 : decode cX3_near 29 = .ok (.iload 5, 2) := by decide +kernel
theorem dX3_near_31 : decode cX3_near 31 = .ok (.iaload, 1) := by decide +kernel
theorem dX3_near_32 : decode cX3_near 32 = .ok (.ifCond .le 86, 3) := by decide +kernel
theorem dX3_near_35 : decode cX3_near 35 = .ok (.aload_n 0, 1) := by decide +kernel
theorem dX3_near_36 : decode cX3_near 36 = .ok (.getfield 38, 3) := by decide +kernel
theorem dX3_near_39 : decode cX3_near 39 = .ok (.iload 7, 2) := by decide +kernel
theorem dX3_near_41 : decode cX3_near 41 = .ok (.iaload, 1) := by decide +kernel
theorem dX3_near_42 : decode cX3_near 42 = .ok (.iload_n 2, 1) := by decide +kernel
theorem dX3_near_43 : decode cX3_near 43 = .ok (.if_icmp .ne 27, 3) := by decide +kernel
theorem dX3_near_46 : decode cX3_near 46 = .ok (.aload_n 0, 1) := by decide +kernel
theorem dX3_near_47 : decode cX3_near 47 = .ok (.iload 7, 2) := by decide +kernel
theorem dX3_near_49 : decode cX3_near 49 = .ok (.iload 5, 2) := by decide +kernel
theorem dX3_near_51 : decode cX3_near 51 = .ok (.invokevirtual 139, 3) := by decide +kernel
theorem dX3_near_54 : decode cX3_near 54 = .ok (.aload_n 0, 1) := by decide +kernel
theorem dX3_near_55 : decode cX3_near 55 = .ok (.getfield 22, 3) := by decide +kernel
theorem dX3_near_58 : decode cX3_near 58 = .ok (.iload 5, 2) := by decide +kernel
theorem dX3_near_60 : decode cX3_near 60 = .ok (.iaload, 1) := by decide +kernel
theorem dX3_near_61 : decode cX3_near 61 = .ok (.iconst 2, 1) := by decide +kernel
theorem dX3_near_62 : decode cX3_near 62 = .ok (.idiv, 1) := by decide +kernel
theorem dX3_near_63 : decode cX3_near 63 = .ok (.if_icmp .gt 7, 3) := by decide +kernel
theorem dX3_near_66 : decode cX3_near 66 = .ok (.iconst 1, 1) := by decide +kernel
theorem dX3_near_67 : decode cX3_near 67 = .ok (.goto 4, 3) := by decide +kernel
theorem dX3_near_70 : decode cX3_near 70 = .ok (.iconst 0, 1) := by decide +kernel
theorem dX3_near_71 : decode cX3_near 71 = .ok (.istore 8, 2) := by decide +kernel
theorem dX3_near_73 : decode cX3_near 73 = .ok (.iload 8, 2) := by decide +kernel
theorem dX3_near_75 : decode cX3_near 75 = .ok (.ifCond .eq 33, 3) := by decide +kernel
theorem dX3_near_78 : decode cX3_near 78 = .ok (.iload 6, 2) := by decide +kernel
theorem dX3_near_80 : decode cX3_near 80 = .ok (.iconst (-1), 1) := by decide +kernel
theorem dX3_near_81 : decode cX3_near 81 = .ok (.if_icmp .eq 22, 3) := by decide +kernel
theorem dX3_near_84 : decode cX3_near 84 = .ok (.aload_n 0, 1) := by decide +kernel
theorem dX3_near_85 : decode cX3_near 85 = .ok (.iload 7, 2) := by decide +kernel
theorem dX3_near_87 : decode cX3_near 87 = .ok (.iload 5, 2) := by decide +kernel
theorem dX3_near_89 : decode cX3_near 89 = .ok (.invokevirtual 139, 3) := by decide +kernel
theorem dX3_near_92 : decode cX3_near 92 = .ok (.aload_n 0, 1) := by decide +kernel
theorem dX3_near_93 : decode cX3_near 93 = .ok (.iload 6, 2) := by decide +kernel
theorem dX3_near_95 : decode cX3_near 95 = .ok (.iload 5, 2) := by decide +kernel
theorem dX3_near_97 : decode cX3_near 97 = .ok (.invokevirtual 139, 3) := by decide +kernel
theorem dX3_near_100 : decode cX3_near 100 = .ok (.if_icmp .gt 8, 3) := by decide +kernel
theorem dX3_near_103 : decode cX3_near 103 = .ok (.iload 7, 2) := by decide +kernel
theorem dX3_near_105 : decode cX3_near 105 = .ok (.goto 5, 3) := by decide +kernel
theorem dX3_near_108 : decode cX3_near 108 = .ok (.iload 6, 2) := by decide +kernel
theorem dX3_near_110 : decode cX3_near 110 = .ok (.istore 6, 2) := by decide +kernel
theorem dX3_near_112 : decode cX3_near 112 = .ok (.iinc 7 1, 3) := by decide +kernel
theorem dX3_near_115 : decode cX3_near 115 = .ok (.goto (-99), 3) := by decide +kernel
theorem dX3_near_118 : decode cX3_near 118 = .ok (.iload 6, 2) := by decide +kernel
theorem dX3_near_120 : decode cX3_near 120 = .ok (.ireturn, 1) := by decide +kernel
set_option maxRecDepth 20000 in
theorem ggX3_nearDistance_X3_isForm : GoodIn wsX3_nearDistance wsX3_isForm := goodIn_r _ [4, 5, 6, 3, 7, 8, 9, 10, 11, 12, 13, 14, 15, 16] (by decide +kernel) (by decide +kernel)
set_option maxRecDepth 20000 in
theorem gX3_nearDistance_X3_isForm : GoodIn wsX3_nearDistance (va_wsS RX3 98 yX3_isForm wsX3_isForm) := goodIn_app (goodIn_of _ (by decide +kernel)) ggX3_nearDistance_X3_isForm
set_option maxRecDepth 20000 in
theorem ggX3_nearDistance_X3_goes : GoodIn wsX3_nearDistance wsX3_goes := goodIn_r _ [20, 21, 41, 42, 43, 44, 45, 46, 47, 48, 49, 50, 51, 52, 53, 54, 55, 56, 57, 58, 59, 60, 61] (by decide +kernel) (by decide +kernel)
set_option maxRecDepth 20000 in
theorem gX3_nearDistance_X3_goes : GoodIn wsX3_nearDistance (wsV RX3 81 RX3 yX3_goes wsX3_goes) := goodIn_app (goodIn_of _ (by decide +kernel)) ggX3_nearDistance_X3_goes
set_option maxRecDepth 20000 in
theorem ggX3_nearDistance_X3_near : GoodIn wsX3_nearDistance wsX3_near := goodIn_r _ [25, 26, 27, 28, 29, 30, 3, 31, 32, 33, 34, 35, 36, 37, 38, 39, 40, 41, 42, 43, 44, 45, 46, 47, 48, 49, 50, 51, 52, 53, 54, 55, 56, 57, 58, 59, 60, 61] (by decide +kernel) (by decide +kernel)
set_option maxRecDepth 20000 in
theorem gX3_nearDistance_X3_near : GoodIn wsX3_nearDistance (wsV RX3 142 RX3 yX3_near wsX3_near) := goodIn_app (goodIn_of _ (by decide +kernel)) ggX3_nearDistance_X3_near
set_option maxRecDepth 20000 in
theorem ggX3_nearDistance_X3_at : GoodIn wsX3_nearDistance wsX3_at := goodIn_r _ [31] (by decide +kernel) (by decide +kernel)
set_option maxRecDepth 20000 in
theorem gX3_nearDistance_X3_at : GoodIn wsX3_nearDistance (va_wsS RX3 102 yX3_at wsX3_at) := goodIn_app (goodIn_of _ (by decide +kernel)) ggX3_nearDistance_X3_at
set_option maxRecDepth 20000 in
theorem ggX3_nearDistance_X3_distance : GoodIn wsX3_nearDistance wsX3_distance := goodIn_r _ [35, 27, 36, 37, 38, 39, 40, 41, 42, 43, 44, 45, 46, 47, 48, 49, 50, 51, 52, 53, 54, 55, 56, 57, 58, 59, 60, 61] (by decide +kernel) (by decide +kernel)
set_option maxRecDepth 20000 in
theorem gX3_nearDistance_X3_distance : GoodIn wsX3_nearDistance (wsV RX3 139 RX3 yX3_distance wsX3_distance) := goodIn_app (goodIn_of _ (by decide +kernel)) ggX3_nearDistance_X3_distance
theorem dX3_nearDistance_0 : decode cX3_nearDistance 0 = .ok (.aload_n 0, 1) := by decide +kernel
theorem dX3_nearDistance_1 : decode cX3_nearDistance 1 = .ok (.iload_n 1, 1) := by decide +kernel
theorem dX3_nearDistance_2 : decode cX3_nearDistance 2 = .ok (.iload_n 2, 1) := by decide +kernel
theorem dX3_nearDistance_3 : decode cX3_nearDistance 3 = .ok (.iload_n 3, 1) := by decide +kernel
theorem dX3_nearDistance_4 : decode cX3_nearDistance 4 = .ok (.iload 4, 2) := by decide +kernel
theorem dX3_nearDistance_6 : decode cX3_nearDistance 6 = .ok (.invokestatic 98, 3) := by decide +kernel
theorem dX3_nearDistance_9 : decode cX3_nearDistance 9 = .ok (.iconst 1, 1) := by decide +kernel
theorem dX3_nearDistance_10 : decode cX3_nearDistance 10 = .ok (.iconst 1, 1) := by decide +kernel
theorem dX3_nearDistance_11 : decode cX3_nearDistance 11 = .ok (.invokevirtual 81, 3) := by decide +kernel
theorem dX3_nearDistance_14 : decode cX3_nearDistance 14 = .ok (.ifCond .ne 5, 3) := by decide +kernel
theorem dX3_nearDistance_17 : decode cX3_nearDistance 17 = .ok (.iconst 0, 1) := by decide +kernel
theorem dX3_nearDistance_18 : decode cX3_nearDistance 18 = .ok (.ireturn, 1) := by decide +kernel
theorem dX3_nearDistance_19 : decode cX3_nearDistance 19 = .ok (.aload_n 0, 1) := by decide +kernel
theorem dX3_nearDistance_20 : decode cX3_nearDistance 20 = .ok (.iload_n 1, 1) := by decide +kernel
theorem dX3_nearDistance_21 : decode cX3_nearDistance 21 = .ok (.iload_n 2, 1) := by decide +kernel
theorem dX3_nearDistance_22 : decode cX3_nearDistance 22 = .ok (.iload_n 3, 1) := by decide +kernel
theorem dX3_nearDistance_23 : decode cX3_nearDistance 23 = .ok (.iload 4, 2) := by decide +kernel
theorem dX3_nearDistance_25 : decode cX3_nearDistance 25 = .ok (.invokevirtual 142, 3) := by decide +kernel
theorem dX3_nearDistance_28 : decode cX3_nearDistance 28 = .ok (.istore 5, 2) := by decide +kernel
theorem dX3_nearDistance_30 : decode cX3_nearDistance 30 = .ok (.iload 5, 2) := by decide +kernel
theorem dX3_nearDistance_32 : decode cX3_nearDistance 32 = .ok (.iconst (-1), 1) := by decide +kernel
theorem dX3_nearDistance_33 : decode cX3_nearDistance 33 = .ok (.if_icmp .ne 7, 3) := by decide +kernel
theorem dX3_nearDistance_36 : decode cX3_nearDistance 36 = .ok (.iconst (-1), 1) := by decide +kernel
theorem dX3_nearDistance_37 : decode cX3_nearDistance 37 = .ok (.goto 17, 3) := by decide +kernel
theorem dX3_nearDistance_40 : decode cX3_nearDistance 40 = .ok (.aload_n 0, 1) := by decide +kernel
theorem dX3_nearDistance_41 : decode cX3_nearDistance 41 = .ok (.iload 5, 2) := by decide +kernel
theorem dX3_nearDistance_43 : decode cX3_nearDistance 43 = .ok (.iload_n 1, 1) := by decide +kernel
theorem dX3_nearDistance_44 : decode cX3_nearDistance 44 = .ok (.iconst 0, 1) := by decide +kernel
theorem dX3_nearDistance_45 : decode cX3_nearDistance 45 = .ok (.iload_n 3, 1) := by decide +kernel
theorem dX3_nearDistance_46 : decode cX3_nearDistance 46 = .ok (.iload 4, 2) := by decide +kernel
theorem dX3_nearDistance_48 : decode cX3_nearDistance 48 = .ok (.invokestatic 102, 3) := by decide +kernel
theorem dX3_nearDistance_51 : decode cX3_nearDistance 51 = .ok (.invokevirtual 139, 3) := by decide +kernel
theorem dX3_nearDistance_54 : decode cX3_nearDistance 54 = .ok (.ireturn, 1) := by decide +kernel
set_option maxRecDepth 20000 in
theorem ggX3_nearSign_X3_isForm : GoodIn wsX3_nearSign wsX3_isForm := goodIn_r _ [6, 7, 8, 5, 9, 10, 11, 12, 13, 14, 15, 16, 17, 18] (by decide +kernel) (by decide +kernel)
set_option maxRecDepth 20000 in
theorem gX3_nearSign_X3_isForm : GoodIn wsX3_nearSign (va_wsS RX3 98 yX3_isForm wsX3_isForm) := goodIn_app (goodIn_of _ (by decide +kernel)) ggX3_nearSign_X3_isForm
set_option maxRecDepth 20000 in
theorem ggX3_nearSign_X3_goes : GoodIn wsX3_nearSign wsX3_goes := goodIn_r _ [22, 23, 43, 44, 45, 46, 47, 48, 49, 50, 51, 52, 53, 54, 55, 56, 57, 58, 59, 60, 61, 62, 63] (by decide +kernel) (by decide +kernel)
set_option maxRecDepth 20000 in
theorem gX3_nearSign_X3_goes : GoodIn wsX3_nearSign (wsV RX3 81 RX3 yX3_goes wsX3_goes) := goodIn_app (goodIn_of _ (by decide +kernel)) ggX3_nearSign_X3_goes
