set_option maxRecDepth 20000 in
theorem ggX2_turnOf_X2_classOf : GoodIn wsX2_turnOf wsX2_classOf := goodIn_r _ [13, 14, 15, 19, 20, 21, 22, 23, 24, 25, 26, 27, 28] (by decide +kernel) (by decide +kernel)
set_option maxRecDepth 20000 in
theorem gX2_turnOf_X2_classOf : GoodIn wsX2_turnOf (wsV RX2 124 RX2 yX2_classOf wsX2_classOf) := goodIn_app (goodIn_of _ (by decide +kernel)) ggX2_turnOf_X2_classOf
set_option maxRecDepth 20000 in
theorem ggX2_turnOf_X2_tryOf : GoodIn wsX2_turnOf wsX2_tryOf := goodIn_r _ [18] (by decide +kernel) (by decide +kernel)
set_option maxRecDepth 20000 in
theorem gX2_turnOf_X2_tryOf : GoodIn wsX2_turnOf (va_wsS RX2 218 yX2_tryOf wsX2_tryOf) := goodIn_app (goodIn_of _ (by decide +kernel)) ggX2_turnOf_X2_tryOf
theorem dX2_turnOf_0 : decode cX2_turnOf 0 = .ok (.iload_n 1, 1) := by decide +kernel
theorem dX2_turnOf_1 : decode cX2_turnOf 1 = .ok (.invokestatic 146, 3) := by decide +kernel
theorem dX2_turnOf_4 : decode cX2_turnOf 4 = .ok (.istore 5, 2) := by decide +kernel
theorem dX2_turnOf_6 : decode cX2_turnOf 6 = .ok (.aload_n 0, 1) := by decide +kernel
theorem dX2_turnOf_7 : decode cX2_turnOf 7 = .ok (.iload_n 2, 1) := by decide +kernel
theorem dX2_turnOf_8 : decode cX2_turnOf 8 = .ok (.iload 5, 2) := by decide +kernel
theorem dX2_turnOf_10 : decode cX2_turnOf 10 = .ok (.invokevirtual 65, 3) := by decide +kernel
theorem dX2_turnOf_13 : decode cX2_turnOf 13 = .ok (.istore 6, 2) := by decide +kernel
theorem dX2_turnOf_15 : decode cX2_turnOf 15 = .ok (.iload 6, 2) := by decide +kernel
theorem dX2_turnOf_17 : decode cX2_turnOf 17 = .ok (.iconst (-1), 1) := by decide +kernel
theorem dX2_turnOf_18 : decode cX2_turnOf 18 = .ok (.if_icmp .ne 5, 3) := by decide +kernel
theorem dX2_turnOf_21 : decode cX2_turnOf 21 = .ok (.iconst (-1), 1) := by decide +kernel
theorem dX2_turnOf_22 : decode cX2_turnOf 22 = .ok (.ireturn, 1) := by decide +kernel
theorem dX2_turnOf_23 : decode cX2_turnOf 23 = .ok (.iload_n 1, 1) := by decide +kernel
theorem dX2_turnOf_24 : decode cX2_turnOf 24 = .ok (.bipush 9, 2) := by decide +kernel
theorem dX2_turnOf_26 : decode cX2_turnOf 26 = .ok (.irem, 1) := by decide +kernel
theorem dX2_turnOf_27 : decode cX2_turnOf 27 = .ok (.istore 7, 2) := by decide +kernel
theorem dX2_turnOf_29 : decode cX2_turnOf 29 = .ok (.iload 7, 2) := by decide +kernel
theorem dX2_turnOf_31 : decode cX2_turnOf 31 = .ok (.iconst 3, 1) := by decide +kernel
theorem dX2_turnOf_32 : decode cX2_turnOf 32 = .ok (.idiv, 1) := by decide +kernel
theorem dX2_turnOf_33 : decode cX2_turnOf 33 = .ok (.iload 7, 2) := by decide +kernel
theorem dX2_turnOf_35 : decode cX2_turnOf 35 = .ok (.iconst 3, 1) := by decide +kernel
theorem dX2_turnOf_36 : decode cX2_turnOf 36 = .ok (.irem, 1) := by decide +kernel
theorem dX2_turnOf_37 : decode cX2_turnOf 37 = .ok (.aload_n 0, 1) := by decide +kernel
theorem dX2_turnOf_38 : decode cX2_turnOf 38 = .ok (.iload 5, 2) := by decide +kernel
theorem dX2_turnOf_40 : decode cX2_turnOf 40 = .ok (.iload_n 3, 1) := by decide +kernel
theorem dX2_turnOf_41 : decode cX2_turnOf 41 = .ok (.invokevirtual 124, 3) := by decide +kernel
theorem dX2_turnOf_44 : decode cX2_turnOf 44 = .ok (.iload 4, 2) := by decide +kernel
theorem dX2_turnOf_46 : decode cX2_turnOf 46 = .ok (.invokestatic 218, 3) := by decide +kernel
theorem dX2_turnOf_49 : decode cX2_turnOf 49 = .ok (.istore 8, 2) := by decide +kernel
theorem dX2_turnOf_51 : decode cX2_turnOf 51 = .ok (.iload 8, 2) := by decide +kernel
theorem dX2_turnOf_53 : decode cX2_turnOf 53 = .ok (.iconst (-1), 1) := by decide +kernel
theorem dX2_turnOf_54 : decode cX2_turnOf 54 = .ok (.if_icmp .ne 7, 3) := by decide +kernel
theorem dX2_turnOf_57 : decode cX2_turnOf 57 = .ok (.iconst (-1), 1) := by decide +kernel
theorem dX2_turnOf_58 : decode cX2_turnOf 58 = .ok (.goto 10, 3) := by decide +kernel
theorem dX2_turnOf_61 : decode cX2_turnOf 61 = .ok (.iload 6, 2) := by decide +kernel
theorem dX2_turnOf_63 : decode cX2_turnOf 63 = .ok (.iconst 4, 1) := by decide +kernel
theorem dX2_turnOf_64 : decode cX2_turnOf 64 = .ok (.imul, 1) := by decide +kernel
theorem dX2_turnOf_65 : decode cX2_turnOf 65 = .ok (.iload 8, 2) := by decide +kernel
theorem dX2_turnOf_67 : decode cX2_turnOf 67 = .ok (.iadd, 1) := by decide +kernel
theorem dX2_turnOf_68 : decode cX2_turnOf 68 = .ok (.ireturn, 1) := by decide +kernel
theorem dX2_tryOf_0 : decode cX2_tryOf 0 = .ok (.iload_n 0, 1) := by decide +kernel
theorem dX2_tryOf_1 : decode cX2_tryOf 1 = .ok (.iload_n 2, 1) := by decide +kernel
theorem dX2_tryOf_2 : decode cX2_tryOf 2 = .ok (.if_icmp .eq 8, 3) := by decide +kernel
theorem dX2_tryOf_5 : decode cX2_tryOf 5 = .ok (.iload_n 0, 1) := by decide +kernel
theorem dX2_tryOf_6 : decode cX2_tryOf 6 = .ok (.iconst 2, 1) := by decide +kernel
theorem dX2_tryOf_7 : decode cX2_tryOf 7 = .ok (.if_icmp .ne 12, 3) := by decide +kernel
theorem dX2_tryOf_10 : decode cX2_tryOf 10 = .ok (.iload_n 1, 1) := by decide +kernel
theorem dX2_tryOf_11 : decode cX2_tryOf 11 = .ok (.iload_n 3, 1) := by decide +kernel
theorem dX2_tryOf_12 : decode cX2_tryOf 12 = .ok (.if_icmp .eq 9, 3) := by decide +kernel
theorem dX2_tryOf_15 : decode cX2_tryOf 15 = .ok (.iload_n 1, 1) := by decide +kernel
theorem dX2_tryOf_16 : decode cX2_tryOf 16 = .ok (.ifCond .eq 5, 3) := by decide +kernel
theorem dX2_tryOf_19 : decode cX2_tryOf 19 = .ok (.iconst (-1), 1) := by decide +kernel
theorem dX2_tryOf_20 : decode cX2_tryOf 20 = .ok (.ireturn, 1) := by decide +kernel
theorem dX2_tryOf_21 : decode cX2_tryOf 21 = .ok (.iload_n 0, 1) := by decide +kernel
theorem dX2_tryOf_22 : decode cX2_tryOf 22 = .ok (.iload_n 2, 1) := by decide +kernel
theorem dX2_tryOf_23 : decode cX2_tryOf 23 = .ok (.if_icmp .ne 7, 3) := by decide +kernel
theorem dX2_tryOf_26 : decode cX2_tryOf 26 = .ok (.iconst 0, 1) := by decide +kernel
theorem dX2_tryOf_27 : decode cX2_tryOf 27 = .ok (.goto 4, 3) := by decide +kernel
theorem dX2_tryOf_30 : decode cX2_tryOf 30 = .ok (.iconst 2, 1) := by decide +kernel
theorem dX2_tryOf_31 : decode cX2_tryOf 31 = .ok (.iload_n 1, 1) := by decide +kernel
theorem dX2_tryOf_32 : decode cX2_tryOf 32 = .ok (.iload_n 3, 1) := by decide +kernel
theorem dX2_tryOf_33 : decode cX2_tryOf 33 = .ok (.if_icmp .ne 7, 3) := by decide +kernel
theorem dX2_tryOf_36 : decode cX2_tryOf 36 = .ok (.iconst 0, 1) := by decide +kernel
theorem dX2_tryOf_37 : decode cX2_tryOf 37 = .ok (.goto 4, 3) := by decide +kernel
theorem dX2_tryOf_40 : decode cX2_tryOf 40 = .ok (.iconst 1, 1) := by decide +kernel
theorem dX2_tryOf_41 : decode cX2_tryOf 41 = .ok (.iadd, 1) := by decide +kernel
theorem dX2_tryOf_42 : decode cX2_tryOf 42 = .ok (.ireturn, 1) := by decide +kernel
set_option maxRecDepth 20000 in
theorem ggX2_keepPairs_X2_slotOf : GoodIn wsX2_keepPairs wsX2_slotOf := goodIn_r _ [8, 9, 10, 7, 11] (by decide +kernel) (by decide +kernel)
set_option maxRecDepth 20000 in
theorem gX2_keepPairs_X2_slotOf : GoodIn wsX2_keepPairs (va_wsS RX2 112 yX2_slotOf wsX2_slotOf) := goodIn_app (goodIn_of _ (by decide +kernel)) ggX2_keepPairs_X2_slotOf
set_option maxRecDepth 20000 in
theorem ggX2_keepPairs_X1_init : GoodIn wsX2_keepPairs wsX1_init := goodIn_r _ [14, 15, 16, 17, 18, 19, 20, 113, 114, 115] (by decide +kernel) (by decide +kernel)
set_option maxRecDepth 20000 in
theorem gX2_keepPairs_X1_init : GoodIn wsX2_keepPairs (wsX1_init) := ggX2_keepPairs_X1_init
set_option maxRecDepth 20000 in
theorem ggX2_keepPairs_X2_keepPair : GoodIn wsX2_keepPairs wsX2_keepPair := goodIn_r _ [24, 25, 26, 27, 28, 29, 30, 31, 32, 33, 34, 35, 36, 37, 38, 39, 40, 41, 42, 43, 44, 45, 46, 47, 48, 49, 50, 51, 52, 53, 54, 55, 56, 57, 58, 59, 60, 61, 62, 63, 64, 65, 66, 67, 68, 69, 70, 71, 72, 73, 74, 75, 76, 77, 78, 79, 80, 81, 82, 83, 84, 85, 86, 87, 88, 89, 90, 91, 92, 93, 94, 95, 96, 97, 98, 99, 100, 101, 102, 103, 104, 105, 106, 107, 108, 109, 110, 111, 112, 116, 117, 118] (by decide +kernel) (by decide +kernel)
set_option maxRecDepth 20000 in
theorem gX2_keepPairs_X2_keepPair : GoodIn wsX2_keepPairs (wsV RX2 224 RX2 yX2_keepPair wsX2_keepPair) := goodIn_app (goodIn_of _ (by decide +kernel)) ggX2_keepPairs_X2_keepPair
theorem dX2_keepPairs_0 : decode cX2_keepPairs 0 = .ok (.aload 4, 2) := by decide +kernel
theorem dX2_keepPairs_2 : decode cX2_keepPairs 2 = .ok (.ifnonnull 4, 3) := by decide +kernel
theorem dX2_keepPairs_5 : decode cX2_keepPairs 5 = .ok (.return_, 1) := by decide +kernel
theorem dX2_keepPairs_6 : decode cX2_keepPairs 6 = .ok (.iconst 1, 1) := by decide +kernel
theorem dX2_keepPairs_7 : decode cX2_keepPairs 7 = .ok (.istore 5, 2) := by decide +kernel
theorem dX2_keepPairs_9 : decode cX2_keepPairs 9 = .ok (.iload 5, 2) := by decide +kernel
theorem dX2_keepPairs_11 : decode cX2_keepPairs 11 = .ok (.bipush 6, 2) := by decide +kernel
theorem dX2_keepPairs_13 : decode cX2_keepPairs 13 = .ok (.if_icmp .ge 46, 3) := by decide +kernel
theorem dX2_keepPairs_16 : decode cX2_keepPairs 16 = .ok (.aload_n 0, 1) := by decide +kernel
theorem dX2_keepPairs_17 : decode cX2_keepPairs 17 = .ok (.getfield 34, 3) := by decide +kernel
theorem dX2_keepPairs_20 : decode cX2_keepPairs 20 = .ok (.iload_n 1, 1) := by decide +kernel
theorem dX2_keepPairs_21 : decode cX2_keepPairs 21 = .ok (.iload 5, 2) := by decide +kernel
theorem dX2_keepPairs_23 : decode cX2_keepPairs 23 = .ok (.iload_n 2, 1) := by decide +kernel
theorem dX2_keepPairs_24 : decode cX2_keepPairs 24 = .ok (.iload_n 3, 1) := by decide +kernel
theorem dX2_keepPairs_25 : decode cX2_keepPairs 25 = .ok (.invokestatic 112, 3) := by decide +kernel
theorem dX2_keepPairs_28 : decode cX2_keepPairs 28 = .ok (.aaload, 1) := by decide +kernel
theorem dX2_keepPairs_29 : decode cX2_keepPairs 29 = .ok (.astore 6, 2) := by decide +kernel
theorem dX2_keepPairs_31 : decode cX2_keepPairs 31 = .ok (.aload 6, 2) := by decide +kernel
theorem dX2_keepPairs_33 : decode cX2_keepPairs 33 = .ok (.ifnull 20, 3) := by decide +kernel
theorem dX2_keepPairs_36 : decode cX2_keepPairs 36 = .ok (.aload_n 0, 1) := by decide +kernel
theorem dX2_keepPairs_37 : decode cX2_keepPairs 37 = .ok (.new 166, 3) := by decide +kernel
theorem dX2_keepPairs_40 : decode cX2_keepPairs 40 = .ok (.dup, 1) := by decide +kernel
theorem dX2_keepPairs_41 : decode cX2_keepPairs 41 = .ok (.iload 5, 2) := by decide +kernel
theorem dX2_keepPairs_43 : decode cX2_keepPairs 43 = .ok (.aload 4, 2) := by decide +kernel
theorem dX2_keepPairs_45 : decode cX2_keepPairs 45 = .ok (.aload 6, 2) := by decide +kernel
theorem dX2_keepPairs_47 : decode cX2_keepPairs 47 = .ok (.invokespecial 221, 3) := by decide +kernel
theorem dX2_keepPairs_50 : decode cX2_keepPairs 50 = .ok (.invokevirtual 224, 3) := by decide +kernel
theorem dX2_keepPairs_53 : decode cX2_keepPairs 53 = .ok (.iinc 5 1, 3) := by decide +kernel
theorem dX2_keepPairs_56 : decode cX2_keepPairs 56 = .ok (.goto (-47), 3) := by decide +kernel
theorem dX2_keepPairs_59 : decode cX2_keepPairs 59 = .ok (.return_, 1) := by decide +kernel
set_option maxRecDepth 20000 in
theorem ggX2_keepPair_Jx4a65c_size_8abf5 : GoodIn wsX2_keepPair wsJx4a65c_size_8abf5 := goodIn_r _ [6, 7, 89, 90, 91] (by decide +kernel) (by decide +kernel)
set_option maxRecDepth 20000 in
theorem gX2_keepPair_Jx4a65c_size_8abf5 : GoodIn wsX2_keepPair (wsV RX2 157 RJx4a65c yJx4a65c_size_8abf5 wsJx4a65c_size_8abf5) := goodIn_app (goodIn_of _ (by decide +kernel)) ggX2_keepPair_Jx4a65c_size_8abf5
set_option maxRecDepth 20000 in
theorem ggX2_keepPair_Jx4a65c_remove_915e3 : GoodIn wsX2_keepPair wsJx4a65c_remove_915e3 := goodIn_r _ [11, 7, 12, 13, 14, 15, 16, 17, 18, 19, 20, 21, 22, 23, 5, 24, 25, 26, 27, 28, 29, 30, 89, 90, 91] (by decide +kernel) (by decide +kernel)
set_option maxRecDepth 20000 in
theorem gX2_keepPair_Jx4a65c_remove_915e3 : GoodIn wsX2_keepPair (wsV RX2 228 RJx4a65c yJx4a65c_remove_915e3 wsJx4a65c_remove_915e3) := goodIn_app (goodIn_of _ (by decide +kernel)) ggX2_keepPair_Jx4a65c_remove_915e3
set_option maxRecDepth 20000 in
theorem ggX2_keepPair_Jx4a65c_add_9ea2d : GoodIn wsX2_keepPair wsJx4a65c_add_9ea2d := goodIn_r _ [34, 25, 26, 12, 7, 35, 36, 37, 5, 38, 39, 40, 41, 42, 43, 44, 45, 46, 47, 48, 49, 50, 51, 52, 53, 54, 55, 56, 57, 58, 59, 60, 61, 62, 63, 64, 65, 66, 67, 68, 69, 70, 71, 72, 73, 74, 75, 76, 77, 78, 28, 29, 30, 89, 90, 91] (by decide +kernel) (by decide +kernel)
set_option maxRecDepth 20000 in
theorem gX2_keepPair_Jx4a65c_add_9ea2d : GoodIn wsX2_keepPair (wsV RX2 232 RJx4a65c yJx4a65c_add_9ea2d wsJx4a65c_add_9ea2d) := goodIn_app (goodIn_of _ (by decide +kernel)) ggX2_keepPair_Jx4a65c_add_9ea2d
theorem dX2_keepPair_0 : decode cX2_keepPair 0 = .ok (.aload_n 0, 1) := by decide +kernel
theorem dX2_keepPair_1 : decode cX2_keepPair 1 = .ok (.getfield 47, 3) := by decide +kernel
theorem dX2_keepPair_4 : decode cX2_keepPair 4 = .ok (.invokevirtual 157, 3) := by decide +kernel
theorem dX2_keepPair_7 : decode cX2_keepPair 7 = .ok (.bipush 20, 2) := by decide +kernel
theorem dX2_keepPair_9 : decode cX2_keepPair 9 = .ok (.if_icmp .lt 12, 3) := by decide +kernel
theorem dX2_keepPair_12 : decode cX2_keepPair 12 = .ok (.aload_n 0, 1) := by decide +kernel
theorem dX2_keepPair_13 : decode cX2_keepPair 13 = .ok (.getfield 47, 3) := by decide +kernel
theorem dX2_keepPair_16 : decode cX2_keepPair 16 = .ok (.iconst 0, 1) := by decide +kernel
theorem dX2_keepPair_17 : decode cX2_keepPair 17 = .ok (.invokevirtual 228, 3) := by decide +kernel
theorem dX2_keepPair_20 : decode cX2_keepPair 20 = .ok (.pop, 1) := by decide +kernel
theorem dX2_keepPair_21 : decode cX2_keepPair 21 = .ok (.aload_n 0, 1) := by decide +kernel
theorem dX2_keepPair_22 : decode cX2_keepPair 22 = .ok (.getfield 47, 3) := by decide +kernel
theorem dX2_keepPair_25 : decode cX2_keepPair 25 = .ok (.aload_n 1, 1) := by decide +kernel
theorem dX2_keepPair_26 : decode cX2_keepPair 26 = .ok (.invokevirtual 232, 3) := by decide +kernel
theorem dX2_keepPair_29 : decode cX2_keepPair 29 = .ok (.pop, 1) := by decide +kernel
theorem dX2_keepPair_30 : decode cX2_keepPair 30 = .ok (.return_, 1) := by decide +kernel
set_option maxRecDepth 20000 in
theorem ggX2_findNear_Jx4a65c_size_8abf5 : GoodIn wsX2_findNear wsJx4a65c_size_8abf5 := goodIn_r _ [10, 11, 55, 56, 57] (by decide +kernel) (by decide +kernel)
set_option maxRecDepth 20000 in
theorem gX2_findNear_Jx4a65c_size_8abf5 : GoodIn wsX2_findNear (wsV RX2 157 RJx4a65c yJx4a65c_size_8abf5 wsJx4a65c_size_8abf5) := goodIn_app (goodIn_of _ (by decide +kernel)) ggX2_findNear_Jx4a65c_size_8abf5
set_option maxRecDepth 20000 in
theorem ggX2_findNear_Jx4a65c_get_915e3 : GoodIn wsX2_findNear wsJx4a65c_get_915e3 := goodIn_r _ [15, 11, 16, 17, 18, 19, 20, 21, 22, 23, 24, 25, 26, 9, 27, 28, 55, 56, 57] (by decide +kernel) (by decide +kernel)
set_option maxRecDepth 20000 in
theorem gX2_findNear_Jx4a65c_get_915e3 : GoodIn wsX2_findNear (wsV RX2 236 RJx4a65c yJx4a65c_get_915e3 wsJx4a65c_get_915e3) := goodIn_app (goodIn_of _ (by decide +kernel)) ggX2_findNear_Jx4a65c_get_915e3
set_option maxRecDepth 20000 in
theorem ggX2_findNear_X2_distance : GoodIn wsX2_findNear wsX2_distance := goodIn_r _ [33, 1, 34, 35, 36, 37, 38, 39, 40, 41, 42, 43, 44, 45, 46, 47, 48, 49, 50, 51] (by decide +kernel) (by decide +kernel)
set_option maxRecDepth 20000 in
theorem gX2_findNear_X2_distance : GoodIn wsX2_findNear (wsV RX2 171 RX2 yX2_distance wsX2_distance) := goodIn_app (goodIn_of _ (by decide +kernel)) ggX2_findNear_X2_distance
theorem dX2_findNear_0 : decode cX2_findNear 0 = .ok (.aload_n 1, 1) := by decide +kernel
theorem dX2_findNear_1 : decode cX2_findNear 1 = .ok (.ifnonnull 5, 3) := by decide +kernel
theorem dX2_findNear_4 : decode cX2_findNear 4 = .ok (.aconst_null, 1) := by decide +kernel
theorem dX2_findNear_5 : decode cX2_findNear 5 = .ok (.areturn, 1) := by decide +kernel
theorem dX2_findNear_6 : decode cX2_findNear 6 = .ok (.aconst_null, 1) := by decide +kernel
theorem dX2_findNear_7 : decode cX2_findNear 7 = .ok (.astore_n 3, 1) := by decide +kernel
theorem dX2_findNear_8 : decode cX2_findNear 8 = .ok (.aload_n 1, 1) := by decide +kernel
theorem dX2_findNear_9 : decode cX2_findNear 9 = .ok (.getfield 118, 3) := by decide +kernel
theorem dX2_findNear_12 : decode cX2_findNear 12 = .ok (.arraylength, 1) := by decide +kernel
theorem dX2_findNear_13 : decode cX2_findNear 13 = .ok (.iconst 2, 1) := by decide +kernel
theorem dX2_findNear_14 : decode cX2_findNear 14 = .ok (.idiv, 1) := by decide +kernel
theorem dX2_findNear_15 : decode cX2_findNear 15 = .ok (.istore 4, 2) := by decide +kernel
theorem dX2_findNear_17 : decode cX2_findNear 17 = .ok (.iconst 0, 1) := by decide +kernel
theorem dX2_findNear_18 : decode cX2_findNear 18 = .ok (.istore 5, 2) := by decide +kernel
theorem dX2_findNear_20 : decode cX2_findNear 20 = .ok (.iload 5, 2) := by decide +kernel
theorem dX2_findNear_22 : decode cX2_findNear 22 = .ok (.aload_n 0, 1) := by decide +kernel
theorem dX2_findNear_23 : decode cX2_findNear 23 = .ok (.getfield 47, 3) := by decide +kernel
theorem dX2_findNear_26 : decode cX2_findNear 26 = .ok (.invokevirtual 157, 3) := by decide +kernel
theorem dX2_findNear_29 : decode cX2_findNear 29 = .ok (.if_icmp .ge 58, 3) := by decide +kernel
theorem dX2_findNear_32 : decode cX2_findNear 32 = .ok (.aload_n 0, 1) := by decide +kernel
theorem dX2_findNear_33 : decode cX2_findNear 33 = .ok (.getfield 47, 3) := by decide +kernel
theorem dX2_findNear_36 : decode cX2_findNear 36 = .ok (.iload 5, 2) := by decide +kernel
theorem dX2_findNear_38 : decode cX2_findNear 38 = .ok (.invokevirtual 236, 3) := by decide +kernel
theorem dX2_findNear_41 : decode cX2_findNear 41 = .ok (.checkcast 166, 3) := by decide +kernel
theorem dX2_findNear_44 : decode cX2_findNear 44 = .ok (.astore 6, 2) := by decide +kernel
theorem dX2_findNear_46 : decode cX2_findNear 46 = .ok (.aload 6, 2) := by decide +kernel
theorem dX2_findNear_48 : decode cX2_findNear 48 = .ok (.getfield 239, 3) := by decide +kernel
theorem dX2_findNear_51 : decode cX2_findNear 51 = .ok (.iload_n 2, 1) := by decide +kernel
theorem dX2_findNear_52 : decode cX2_findNear 52 = .ok (.if_icmp .ne 29, 3) := by decide +kernel
theorem dX2_findNear_55 : decode cX2_findNear 55 = .ok (.aload_n 0, 1) := by decide +kernel
theorem dX2_findNear_56 : decode cX2_findNear 56 = .ok (.aload 6, 2) := by decide +kernel
theorem dX2_findNear_58 : decode cX2_findNear 58 = .ok (.getfield 165, 3) := by decide +kernel
theorem dX2_findNear_61 : decode cX2_findNear 61 = .ok (.aload_n 1, 1) := by decide +kernel
theorem dX2_findNear_62 : decode cX2_findNear 62 = .ok (.invokevirtual 171, 3) := by decide +kernel
theorem dX2_findNear_65 : decode cX2_findNear 65 = .ok (.istore 7, 2) := by decide +kernel
theorem dX2_findNear_67 : decode cX2_findNear 67 = .ok (.iload 7, 2) := by decide +kernel
theorem dX2_findNear_69 : decode cX2_findNear 69 = .ok (.iload 4, 2) := by decide +kernel
theorem dX2_findNear_71 : decode cX2_findNear 71 = .ok (.if_icmp .gt 10, 3) := by decide +kernel
theorem dX2_findNear_74 : decode cX2_findNear 74 = .ok (.iload 7, 2) := by decide +kernel
theorem dX2_findNear_76 : decode cX2_findNear 76 = .ok (.istore 4, 2) := by decide +kernel
theorem dX2_findNear_78 : decode cX2_findNear 78 = .ok (.aload 6, 2) := by decide +kernel
theorem dX2_findNear_80 : decode cX2_findNear 80 = .ok (.astore_n 3, 1) := by decide +kernel
theorem dX2_findNear_81 : decode cX2_findNear 81 = .ok (.iinc 5 1, 3) := by decide +kernel
theorem dX2_findNear_84 : decode cX2_findNear 84 = .ok (.goto (-64), 3) := by decide +kernel
theorem dX2_findNear_87 : decode cX2_findNear 87 = .ok (.aload_n 3, 1) := by decide +kernel
theorem dX2_findNear_88 : decode cX2_findNear 88 = .ok (.areturn, 1) := by decide +kernel
theorem dX2_distance_0 : decode cX2_distance 0 = .ok (.iconst 0, 1) := by decide +kernel
theorem dX2_distance_1 : decode cX2_distance 1 = .ok (.istore_n 3, 1) := by decide +kernel
theorem dX2_distance_2 : decode cX2_distance 2 = .ok (.iload_n 3, 1) := by decide +kernel
theorem dX2_distance_3 : decode cX2_distance 3 = .ok (.aload_n 2, 1) := by decide +kernel
theorem dX2_distance_4 : decode cX2_distance 4 = .ok (.getfield 118, 3) := by decide +kernel
theorem dX2_distance_7 : decode cX2_distance 7 = .ok (.arraylength, 1) := by decide +kernel
theorem dX2_distance_8 : decode cX2_distance 8 = .ok (.if_icmp .gt 16, 3) := by decide +kernel
theorem dX2_distance_11 : decode cX2_distance 11 = .ok (.aload_n 0, 1) := by decide +kernel
theorem dX2_distance_12 : decode cX2_distance 12 = .ok (.getfield 51, 3) := by decide +kernel
theorem dX2_distance_15 : decode cX2_distance 15 = .ok (.iload_n 3, 1) := by decide +kernel
theorem dX2_distance_16 : decode cX2_distance 16 = .ok (.iload_n 3, 1) := by decide +kernel
theorem dX2_distance_17 : decode cX2_distance 17 = .ok (.iastore, 1) := by decide +kernel
theorem dX2_distance_18 : decode cX2_distance 18 = .ok (.iinc 3 1, 3) := by decide +kernel
theorem dX2_distance_21 : decode cX2_distance 21 = .ok (.goto (-19), 3) := by decide +kernel
theorem dX2_distance_24 : decode cX2_distance 24 = .ok (.iconst 0, 1) := by decide +kernel
theorem dX2_distance_25 : decode cX2_distance 25 = .ok (.istore_n 3, 1) := by decide +kernel
theorem dX2_distance_26 : decode cX2_distance 26 = .ok (.iload_n 3, 1) := by decide +kernel
theorem dX2_distance_27 : decode cX2_distance 27 = .ok (.aload_n 1, 1) := by decide +kernel
theorem dX2_distance_28 : decode cX2_distance 28 = .ok (.getfield 118, 3) := by decide +kernel
theorem dX2_distance_31 : decode cX2_distance 31 = .ok (.arraylength, 1) := by decide +kernel
theorem dX2_distance_32 : decode cX2_distance 32 = .ok (.if_icmp .ge 110, 3) := by decide +kernel
theorem dX2_distance_35 : decode cX2_distance 35 = .ok (.aload_n 0, 1) := by decide +kernel
theorem dX2_distance_36 : decode cX2_distance 36 = .ok (.getfield 51, 3) := by decide +kernel
theorem dX2_distance_39 : decode cX2_distance 39 = .ok (.iconst 0, 1) := by decide +kernel
theorem dX2_distance_40 : decode cX2_distance 40 = .ok (.iaload, 1) := by decide +kernel
theorem dX2_distance_41 : decode cX2_distance 41 = .ok (.istore 4, 2) := by decide +kernel
theorem dX2_distance_43 : decode cX2_distance 43 = .ok (.aload_n 0, 1) := by decide +kernel
theorem dX2_distance_44 : decode cX2_distance 44 = .ok (.getfield 51, 3) := by decide +kernel
theorem dX2_distance_47 : decode cX2_distance 47 = .ok (.iconst 0, 1) := by decide +kernel
theorem dX2_distance_48 : decode cX2_distance 48 = .ok (.iload_n 3, 1) := by decide +kernel
theorem dX2_distance_49 : decode cX2_distance 49 = .ok (.iconst 1, 1) := by decide +kernel
theorem dX2_distance_50 : decode cX2_distance 50 = .ok (.iadd, 1) := by decide +kernel
theorem dX2_distance_51 : decode cX2_distance 51 = .ok (.iastore, 1) := by decide +kernel
theorem dX2_distance_52 : decode cX2_distance 52 = .ok (.iconst 0, 1) := by decide +kernel
theorem dX2_distance_53 : decode cX2_distance 53 = .ok (.istore 5, 2) := by decide +kernel
theorem dX2_distance_55 : decode cX2_distance 55 = .ok (.iload 5, 2) := by decide +kernel
theorem dX2_distance_57 : decode cX2_distance 57 = .ok (.aload_n 2, 1) := by decide +kernel
theorem dX2_distance_58 : decode cX2_distance 58 = .ok (.getfield 118, 3) := by decide +kernel
theorem dX2_distance_61 : decode cX2_distance 61 = .ok (.arraylength, 1) := by decide +kernel
theorem dX2_distance_62 : decode cX2_distance 62 = .ok (.if_icmp .ge 74, 3) := by decide +kernel
theorem dX2_distance_65 : decode cX2_distance 65 = .ok (.iload 4, 2) := by decide +kernel
theorem dX2_distance_67 : decode cX2_distance 67 = .ok (.aload_n 1, 1) := by decide +kernel
theorem dX2_distance_68 : decode cX2_distance 68 = .ok (.getfield 118, 3) := by decide +kernel
theorem dX2_distance_71 : decode cX2_distance 71 = .ok (.iload_n 3, 1) := by decide +kernel
theorem dX2_distance_72 : decode cX2_distance 72 = .ok (.iaload, 1) := by decide +kernel
theorem dX2_distance_73 : decode cX2_distance 73 = .ok (.aload_n 2, 1) := by decide +kernel
theorem dX2_distance_74 : decode cX2_distance 74 = .ok (.getfield 118, 3) := by decide +kernel
theorem dX2_distance_77 : decode cX2_distance 77 = .ok (.iload 5, 2) := by decide +kernel
theorem dX2_distance_79 : decode cX2_distance 79 = .ok (.iaload, 1) := by decide +kernel
theorem dX2_distance_80 : decode cX2_distance 80 = .ok (.if_icmp .ne 7, 3) := by decide +kernel
theorem dX2_distance_83 : decode cX2_distance 83 = .ok (.iconst 0, 1) := by decide +kernel
theorem dX2_distance_84 : decode cX2_distance 84 = .ok (.goto 4, 3) := by decide +kernel
theorem dX2_distance_87 : decode cX2_distance 87 = .ok (.iconst 1, 1) := by decide +kernel
theorem dX2_distance_88 : decode cX2_distance 88 = .ok (.iadd, 1) := by decide +kernel
theorem dX2_distance_89 : decode cX2_distance 89 = .ok (.istore 6, 2) := by decide +kernel
theorem dX2_distance_91 : decode cX2_distance 91 = .ok (.aload_n 0, 1) := by decide +kernel
theorem dX2_distance_92 : decode cX2_distance 92 = .ok (.getfield 51, 3) := by decide +kernel
theorem dX2_distance_95 : decode cX2_distance 95 = .ok (.iload 5, 2) := by decide +kernel
theorem dX2_distance_97 : decode cX2_distance 97 = .ok (.iconst 1, 1) := by decide +kernel
theorem dX2_distance_98 : decode cX2_distance 98 = .ok (.iadd, 1) := by decide +kernel
theorem dX2_distance_99 : decode cX2_distance 99 = .ok (.iaload, 1) := by decide +kernel
theorem dX2_distance_100 : decode cX2_distance 100 = .ok (.istore 4, 2) := by decide +kernel
theorem dX2_distance_102 : decode cX2_distance 102 = .ok (.aload_n 0, 1) := by decide +kernel
theorem dX2_distance_103 : decode cX2_distance 103 = .ok (.getfield 51, 3) := by decide +kernel
theorem dX2_distance_106 : decode cX2_distance 106 = .ok (.iload 5, 2) := by decide +kernel
theorem dX2_distance_108 : decode cX2_distance 108 = .ok (.iconst 1, 1) := by decide +kernel
theorem dX2_distance_109 : decode cX2_distance 109 = .ok (.iadd, 1) := by decide +kernel
theorem dX2_distance_110 : decode cX2_distance 110 = .ok (.iload 6, 2) := by decide +kernel
theorem dX2_distance_112 : decode cX2_distance 112 = .ok (.iconst 1, 1) := by decide +kernel
theorem dX2_distance_113 : decode cX2_distance 113 = .ok (.iload 4, 2) := by decide +kernel
theorem dX2_distance_115 : decode cX2_distance 115 = .ok (.aload_n 0, 1) := by decide +kernel
theorem dX2_distance_116 : decode cX2_distance 116 = .ok (.getfield 51, 3) := by decide +kernel
theorem dX2_distance_119 : decode cX2_distance 119 = .ok (.iload 5, 2) := by decide +kernel
theorem dX2_distance_121 : decode cX2_distance 121 = .ok (.iaload, 1) := by decide +kernel
theorem dX2_distance_122 : decode cX2_distance 122 = .ok (.invokestatic 242, 3) := by decide +kernel
theorem dX2_distance_125 : decode cX2_distance 125 = .ok (.iadd, 1) := by decide +kernel
theorem dX2_distance_126 : decode cX2_distance 126 = .ok (.invokestatic 242, 3) := by decide +kernel
theorem dX2_distance_129 : decode cX2_distance 129 = .ok (.iastore, 1) := by decide +kernel
theorem dX2_distance_130 : decode cX2_distance 130 = .ok (.iinc 5 1, 3) := by decide +kernel
theorem dX2_distance_133 : decode cX2_distance 133 = .ok (.goto (-78), 3) := by decide +kernel
theorem dX2_distance_136 : decode cX2_distance 136 = .ok (.iinc 3 1, 3) := by decide +kernel
theorem dX2_distance_139 : decode cX2_distance 139 = .ok (.goto (-113), 3) := by decide +kernel
theorem dX2_distance_142 : decode cX2_distance 142 = .ok (.aload_n 0, 1) := by decide +kernel
theorem dX2_distance_143 : decode cX2_distance 143 = .ok (.getfield 51, 3) := by decide +kernel
theorem dX2_distance_146 : decode cX2_distance 146 = .ok (.aload_n 2, 1) := by decide +kernel
theorem dX2_distance_147 : decode cX2_distance 147 = .ok (.getfield 118, 3) := by decide +kernel
theorem dX2_distance_150 : decode cX2_distance 150 = .ok (.arraylength, 1) := by decide +kernel
theorem dX2_distance_151 : decode cX2_distance 151 = .ok (.iaload, 1) := by decide +kernel
theorem dX2_distance_152 : decode cX2_distance 152 = .ok (.ireturn, 1) := by decide +kernel
theorem dX3_init_0 : decode cX3_init 0 = .ok (.aload_n 0, 1) := by decide +kernel
theorem dX3_init_1 : decode cX3_init 1 = .ok (.invokespecial 1, 3) := by decide +kernel
theorem dX3_init_4 : decode cX3_init 4 = .ok (.aload_n 0, 1) := by decide +kernel
theorem dX3_init_5 : decode cX3_init 5 = .ok (.bipush 6, 2) := by decide +kernel
theorem dX3_init_7 : decode cX3_init 7 = .ok (.newarray .int, 2) := by decide +kernel
theorem dX3_init_9 : decode cX3_init 9 = .ok (.putfield 7, 3) := by decide +kernel
theorem dX3_init_12 : decode cX3_init 12 = .ok (.aload_n 0, 1) := by decide +kernel
theorem dX3_init_13 : decode cX3_init 13 = .ok (.bipush 6, 2) := by decide +kernel
theorem dX3_init_15 : decode cX3_init 15 = .ok (.newarray .int, 2) := by decide +kernel
theorem dX3_init_17 : decode cX3_init 17 = .ok (.putfield 13, 3) := by decide +kernel
theorem dX3_init_20 : decode cX3_init 20 = .ok (.aload_n 0, 1) := by decide +kernel
theorem dX3_init_21 : decode cX3_init 21 = .ok (.bipush 6, 2) := by decide +kernel
theorem dX3_init_23 : decode cX3_init 23 = .ok (.newarray .int, 2) := by decide +kernel
theorem dX3_init_25 : decode cX3_init 25 = .ok (.putfield 16, 3) := by decide +kernel
theorem dX3_init_28 : decode cX3_init 28 = .ok (.aload_n 0, 1) := by decide +kernel
theorem dX3_init_29 : decode cX3_init 29 = .ok (.bipush 8, 2) := by decide +kernel
theorem dX3_init_31 : decode cX3_init 31 = .ok (.newarray .int, 2) := by decide +kernel
theorem dX3_init_33 : decode cX3_init 33 = .ok (.putfield 19, 3) := by decide +kernel
theorem dX3_init_36 : decode cX3_init 36 = .ok (.aload_n 0, 1) := by decide +kernel
theorem dX3_init_37 : decode cX3_init 37 = .ok (.sipush 540, 3) := by decide +kernel
theorem dX3_init_40 : decode cX3_init 40 = .ok (.newarray .int, 2) := by decide +kernel
theorem dX3_init_42 : decode cX3_init 42 = .ok (.putfield 22, 3) := by decide +kernel
theorem dX3_init_45 : decode cX3_init 45 = .ok (.aload_n 0, 1) := by decide +kernel
theorem dX3_init_46 : decode cX3_init 46 = .ok (.sipush 540, 3) := by decide +kernel
theorem dX3_init_49 : decode cX3_init 49 = .ok (.newarray .boolean, 2) := by decide +kernel
theorem dX3_init_51 : decode cX3_init 51 = .ok (.putfield 25, 3) := by decide +kernel
theorem dX3_init_54 : decode cX3_init 54 = .ok (.aload_n 0, 1) := by decide +kernel
theorem dX3_init_55 : decode cX3_init 55 = .ok (.sipush 4320, 3) := by decide +kernel
theorem dX3_init_58 : decode cX3_init 58 = .ok (.newarray .int, 2) := by decide +kernel
theorem dX3_init_60 : decode cX3_init 60 = .ok (.putfield 29, 3) := by decide +kernel
theorem dX3_init_63 : decode cX3_init 63 = .ok (.aload_n 0, 1) := by decide +kernel
theorem dX3_init_64 : decode cX3_init 64 = .ok (.bipush 10, 2) := by decide +kernel
theorem dX3_init_66 : decode cX3_init 66 = .ok (.newarray .int, 2) := by decide +kernel
theorem dX3_init_68 : decode cX3_init 68 = .ok (.putfield 32, 3) := by decide +kernel
theorem dX3_init_71 : decode cX3_init 71 = .ok (.aload_n 0, 1) := by decide +kernel
theorem dX3_init_72 : decode cX3_init 72 = .ok (.bipush 60, 2) := by decide +kernel
theorem dX3_init_74 : decode cX3_init 74 = .ok (.newarray .int, 2) := by decide +kernel
theorem dX3_init_76 : decode cX3_init 76 = .ok (.putfield 35, 3) := by decide +kernel
theorem dX3_init_79 : decode cX3_init 79 = .ok (.aload_n 0, 1) := by decide +kernel
theorem dX3_init_80 : decode cX3_init 80 = .ok (.bipush 20, 2) := by decide +kernel
theorem dX3_init_82 : decode cX3_init 82 = .ok (.newarray .int, 2) := by decide +kernel
theorem dX3_init_84 : decode cX3_init 84 = .ok (.putfield 38, 3) := by decide +kernel
theorem dX3_init_87 : decode cX3_init 87 = .ok (.aload_n 0, 1) := by decide +kernel
theorem dX3_init_88 : decode cX3_init 88 = .ok (.bipush 20, 2) := by decide +kernel
theorem dX3_init_90 : decode cX3_init 90 = .ok (.newarray .int, 2) := by decide +kernel
theorem dX3_init_92 : decode cX3_init 92 = .ok (.putfield 41, 3) := by decide +kernel
theorem dX3_init_95 : decode cX3_init 95 = .ok (.aload_n 0, 1) := by decide +kernel
theorem dX3_init_96 : decode cX3_init 96 = .ok (.bipush 20, 2) := by decide +kernel
theorem dX3_init_98 : decode cX3_init 98 = .ok (.newarray .int, 2) := by decide +kernel
theorem dX3_init_100 : decode cX3_init 100 = .ok (.putfield 44, 3) := by decide +kernel
theorem dX3_init_103 : decode cX3_init 103 = .ok (.aload_n 0, 1) := by decide +kernel
theorem dX3_init_104 : decode cX3_init 104 = .ok (.sipush 160, 3) := by decide +kernel
theorem dX3_init_107 : decode cX3_init 107 = .ok (.newarray .int, 2) := by decide +kernel
theorem dX3_init_109 : decode cX3_init 109 = .ok (.putfield 47, 3) := by decide +kernel
theorem dX3_init_112 : decode cX3_init 112 = .ok (.aload_n 0, 1) := by decide +kernel
theorem dX3_init_113 : decode cX3_init 113 = .ok (.sipush 160, 3) := by decide +kernel
theorem dX3_init_116 : decode cX3_init 116 = .ok (.newarray .int, 2) := by decide +kernel
theorem dX3_init_118 : decode cX3_init 118 = .ok (.putfield 50, 3) := by decide +kernel
theorem dX3_init_121 : decode cX3_init 121 = .ok (.aload_n 0, 1) := by decide +kernel
theorem dX3_init_122 : decode cX3_init 122 = .ok (.bipush 9, 2) := by decide +kernel
theorem dX3_init_124 : decode cX3_init 124 = .ok (.newarray .int, 2) := by decide +kernel
theorem dX3_init_126 : decode cX3_init 126 = .ok (.putfield 53, 3) := by decide +kernel
theorem dX3_init_129 : decode cX3_init 129 = .ok (.aload_n 0, 1) := by decide +kernel
theorem dX3_init_130 : decode cX3_init 130 = .ok (.bipush 9, 2) := by decide +kernel
theorem dX3_init_132 : decode cX3_init 132 = .ok (.newarray .int, 2) := by decide +kernel
theorem dX3_init_134 : decode cX3_init 134 = .ok (.putfield 56, 3) := by decide +kernel
theorem dX3_init_137 : decode cX3_init 137 = .ok (.iconst 0, 1) := by decide +kernel
theorem dX3_init_138 : decode cX3_init 138 = .ok (.istore_n 1, 1) := by decide +kernel
theorem dX3_init_139 : decode cX3_init 139 = .ok (.iload_n 1, 1) := by decide +kernel
theorem dX3_init_140 : decode cX3_init 140 = .ok (.bipush 6, 2) := by decide +kernel
theorem dX3_init_142 : decode cX3_init 142 = .ok (.if_icmp .ge 23, 3) := by decide +kernel
theorem dX3_init_145 : decode cX3_init 145 = .ok (.aload_n 0, 1) := by decide +kernel
theorem dX3_init_146 : decode cX3_init 146 = .ok (.getfield 13, 3) := by decide +kernel
theorem dX3_init_149 : decode cX3_init 149 = .ok (.iload_n 1, 1) := by decide +kernel
theorem dX3_init_150 : decode cX3_init 150 = .ok (.iconst 1, 1) := by decide +kernel
theorem dX3_init_151 : decode cX3_init 151 = .ok (.iastore, 1) := by decide +kernel
theorem dX3_init_152 : decode cX3_init 152 = .ok (.aload_n 0, 1) := by decide +kernel
theorem dX3_init_153 : decode cX3_init 153 = .ok (.getfield 16, 3) := by decide +kernel
theorem dX3_init_156 : decode cX3_init 156 = .ok (.iload_n 1, 1) := by decide +kernel
theorem dX3_init_157 : decode cX3_init 157 = .ok (.iconst 1, 1) := by decide +kernel
theorem dX3_init_158 : decode cX3_init 158 = .ok (.iastore, 1) := by decide +kernel
theorem dX3_init_159 : decode cX3_init 159 = .ok (.iinc 1 1, 3) := by decide +kernel
theorem dX3_init_162 : decode cX3_init 162 = .ok (.goto (-23), 3) := by decide +kernel
theorem dX3_init_165 : decode cX3_init 165 = .ok (.return_, 1) := by decide +kernel
theorem dX3_thrown_0 : decode cX3_thrown 0 = .ok (.aload_n 0, 1) := by decide +kernel
theorem dX3_thrown_1 : decode cX3_thrown 1 = .ok (.getfield 59, 3) := by decide +kernel
theorem dX3_thrown_4 : decode cX3_thrown 4 = .ok (.ireturn, 1) := by decide +kernel
theorem dX3_in_0 : decode cX3_in 0 = .ok (.iload_n 0, 1) := by decide +kernel
theorem dX3_in_1 : decode cX3_in 1 = .ok (.iload_n 1, 1) := by decide +kernel
theorem dX3_in_2 : decode cX3_in 2 = .ok (.if_icmp .lt 12, 3) := by decide +kernel
theorem dX3_in_5 : decode cX3_in 5 = .ok (.iload_n 0, 1) := by decide +kernel
theorem dX3_in_6 : decode cX3_in 6 = .ok (.iload_n 2, 1) := by decide +kernel
theorem dX3_in_7 : decode cX3_in 7 = .ok (.if_icmp .gt 7, 3) := by decide +kernel
theorem dX3_in_10 : decode cX3_in 10 = .ok (.iconst 1, 1) := by decide +kernel
theorem dX3_in_11 : decode cX3_in 11 = .ok (.goto 4, 3) := by decide +kernel
theorem dX3_in_14 : decode cX3_in 14 = .ok (.iconst 0, 1) := by decide +kernel
theorem dX3_in_15 : decode cX3_in 15 = .ok (.ireturn, 1) := by decide +kernel
theorem dX3_goes_0 : decode cX3_goes 0 = .ok (.aload_n 0, 1) := by decide +kernel
theorem dX3_goes_1 : decode cX3_goes 1 = .ok (.iload_n 1, 1) := by decide +kernel
theorem dX3_goes_2 : decode cX3_goes 2 = .ok (.ifCond .ne 7, 3) := by decide +kernel
theorem dX3_goes_5 : decode cX3_goes 5 = .ok (.iconst 1, 1) := by decide +kernel
theorem dX3_goes_6 : decode cX3_goes 6 = .ok (.goto 20, 3) := by decide +kernel
theorem dX3_goes_9 : decode cX3_goes 9 = .ok (.iload_n 2, 1) := by decide +kernel
theorem dX3_goes_10 : decode cX3_goes 10 = .ok (.ifCond .ne 7, 3) := by decide +kernel
theorem dX3_goes_13 : decode cX3_goes 13 = .ok (.iconst 2, 1) := by decide +kernel
theorem dX3_goes_14 : decode cX3_goes 14 = .ok (.goto 12, 3) := by decide +kernel
theorem dX3_goes_17 : decode cX3_goes 17 = .ok (.iload_n 3, 1) := by decide +kernel
theorem dX3_goes_18 : decode cX3_goes 18 = .ok (.ifCond .eq 7, 3) := by decide +kernel
theorem dX3_goes_21 : decode cX3_goes 21 = .ok (.iconst 0, 1) := by decide +kernel
theorem dX3_goes_22 : decode cX3_goes 22 = .ok (.goto 4, 3) := by decide +kernel
theorem dX3_goes_25 : decode cX3_goes 25 = .ok (.iconst 3, 1) := by decide +kernel
theorem dX3_goes_26 : decode cX3_goes 26 = .ok (.putfield 59, 3) := by decide +kernel
theorem dX3_goes_29 : decode cX3_goes 29 = .ok (.aload_n 0, 1) := by decide +kernel
theorem dX3_goes_30 : decode cX3_goes 30 = .ok (.getfield 59, 3) := by decide +kernel
theorem dX3_goes_33 : decode cX3_goes 33 = .ok (.ifCond .ne 7, 3) := by decide +kernel
theorem dX3_goes_36 : decode cX3_goes 36 = .ok (.iconst 1, 1) := by decide +kernel
theorem dX3_goes_37 : decode cX3_goes 37 = .ok (.goto 4, 3) := by decide +kernel
theorem dX3_goes_40 : decode cX3_goes 40 = .ok (.iconst 0, 1) := by decide +kernel
theorem dX3_goes_41 : decode cX3_goes 41 = .ok (.ireturn, 1) := by decide +kernel
set_option maxRecDepth 20000 in
theorem ggX3_isKey_X3_in : GoodIn wsX3_isKey wsX3_in := goodIn_r _ [4] (by decide +kernel) (by decide +kernel)
set_option maxRecDepth 20000 in
theorem gX3_isKey_X3_in : GoodIn wsX3_isKey (va_wsS RX3 63 yX3_in wsX3_in) := goodIn_app (goodIn_of _ (by decide +kernel)) ggX3_isKey_X3_in
theorem dX3_isKey_0 : decode cX3_isKey 0 = .ok (.iload_n 0, 1) := by decide +kernel
theorem dX3_isKey_1 : decode cX3_isKey 1 = .ok (.iconst 0, 1) := by decide +kernel
theorem dX3_isKey_2 : decode cX3_isKey 2 = .ok (.bipush 9, 2) := by decide +kernel
theorem dX3_isKey_4 : decode cX3_isKey 4 = .ok (.invokestatic 63, 3) := by decide +kernel
theorem dX3_isKey_7 : decode cX3_isKey 7 = .ok (.ireturn, 1) := by decide +kernel
set_option maxRecDepth 20000 in
theorem ggX3_isLanguage_X3_in : GoodIn wsX3_isLanguage wsX3_in := goodIn_r _ [4] (by decide +kernel) (by decide +kernel)
set_option maxRecDepth 20000 in
theorem gX3_isLanguage_X3_in : GoodIn wsX3_isLanguage (va_wsS RX3 63 yX3_in wsX3_in) := goodIn_app (goodIn_of _ (by decide +kernel)) ggX3_isLanguage_X3_in
theorem dX3_isLanguage_0 : decode cX3_isLanguage 0 = .ok (.iload_n 0, 1) := by decide +kernel
theorem dX3_isLanguage_1 : decode cX3_isLanguage 1 = .ok (.iconst 0, 1) := by decide +kernel
theorem dX3_isLanguage_2 : decode cX3_isLanguage 2 = .ok (.iconst 5, 1) := by decide +kernel
theorem dX3_isLanguage_3 : decode cX3_isLanguage 3 = .ok (.invokestatic 63, 3) := by decide +kernel
theorem dX3_isLanguage_6 : decode cX3_isLanguage 6 = .ok (.ireturn, 1) := by decide +kernel
set_option maxRecDepth 20000 in
theorem ggX3_isThird_X3_in : GoodIn wsX3_isThird wsX3_in := goodIn_r _ [4] (by decide +kernel) (by decide +kernel)
set_option maxRecDepth 20000 in
theorem gX3_isThird_X3_in : GoodIn wsX3_isThird (va_wsS RX3 63 yX3_in wsX3_in) := goodIn_app (goodIn_of _ (by decide +kernel)) ggX3_isThird_X3_in
theorem dX3_isThird_0 : decode cX3_isThird 0 = .ok (.iload_n 0, 1) := by decide +kernel
theorem dX3_isThird_1 : decode cX3_isThird 1 = .ok (.iconst 0, 1) := by decide +kernel
theorem dX3_isThird_2 : decode cX3_isThird 2 = .ok (.iconst 2, 1) := by decide +kernel
theorem dX3_isThird_3 : decode cX3_isThird 3 = .ok (.invokestatic 63, 3) := by decide +kernel
theorem dX3_isThird_6 : decode cX3_isThird 6 = .ok (.ireturn, 1) := by decide +kernel
set_option maxRecDepth 20000 in
theorem ggX3_isForm_X3_isKey : GoodIn wsX3_isForm wsX3_isKey := goodIn_r _ [4, 5, 6, 3, 7] (by decide +kernel) (by decide +kernel)
set_option maxRecDepth 20000 in
theorem gX3_isForm_X3_isKey : GoodIn wsX3_isForm (va_wsS RX3 67 yX3_isKey wsX3_isKey) := goodIn_app (goodIn_of _ (by decide +kernel)) ggX3_isForm_X3_isKey
set_option maxRecDepth 20000 in
theorem ggX3_isForm_X3_isLanguage : GoodIn wsX3_isForm wsX3_isLanguage := goodIn_r _ [10, 5, 6, 3, 7] (by decide +kernel) (by decide +kernel)
set_option maxRecDepth 20000 in
theorem gX3_isForm_X3_isLanguage : GoodIn wsX3_isForm (va_wsS RX3 71 yX3_isLanguage wsX3_isLanguage) := goodIn_app (goodIn_of _ (by decide +kernel)) ggX3_isForm_X3_isLanguage
set_option maxRecDepth 20000 in
theorem ggX3_isForm_X3_isThird : GoodIn wsX3_isForm wsX3_isThird := goodIn_r _ [13, 5, 6, 3, 7] (by decide +kernel) (by decide +kernel)
set_option maxRecDepth 20000 in
theorem gX3_isForm_X3_isThird : GoodIn wsX3_isForm (va_wsS RX3 74 yX3_isThird wsX3_isThird) := goodIn_app (goodIn_of _ (by decide +kernel)) ggX3_isForm_X3_isThird
theorem dX3_isForm_0 : decode cX3_isForm 0 = .ok (.iload_n 0, 1) := by decide +kernel
theorem dX3_isForm_1 : decode cX3_isForm 1 = .ok (.invokestatic 67, 3) := by decide +kernel
theorem dX3_isForm_4 : decode cX3_isForm 4 = .ok (.ifCond .eq 28, 3) := by decide +kernel
theorem dX3_isForm_7 : decode cX3_isForm 7 = .ok (.iload_n 1, 1) := by decide +kernel
theorem dX3_isForm_8 : decode cX3_isForm 8 = .ok (.invokestatic 71, 3) := by decide +kernel
theorem dX3_isForm_11 : decode cX3_isForm 11 = .ok (.ifCond .eq 21, 3) := by decide +kernel
theorem dX3_isForm_14 : decode cX3_isForm 14 = .ok (.iload_n 2, 1) := by decide +kernel
theorem dX3_isForm_15 : decode cX3_isForm 15 = .ok (.invokestatic 74, 3) := by decide +kernel
theorem dX3_isForm_18 : decode cX3_isForm 18 = .ok (.ifCond .eq 14, 3) := by decide +kernel
theorem dX3_isForm_21 : decode cX3_isForm 21 = .ok (.iload_n 3, 1) := by decide +kernel
theorem dX3_isForm_22 : decode cX3_isForm 22 = .ok (.invokestatic 74, 3) := by decide +kernel
theorem dX3_isForm_25 : decode cX3_isForm 25 = .ok (.ifCond .eq 7, 3) := by decide +kernel
theorem dX3_isForm_28 : decode cX3_isForm 28 = .ok (.iconst 1, 1) := by decide +kernel
theorem dX3_isForm_29 : decode cX3_isForm 29 = .ok (.goto 4, 3) := by decide +kernel
theorem dX3_isForm_32 : decode cX3_isForm 32 = .ok (.iconst 0, 1) := by decide +kernel
theorem dX3_isForm_33 : decode cX3_isForm 33 = .ok (.ireturn, 1) := by decide +kernel
theorem dX3_at_0 : decode cX3_at 0 = .ok (.bipush 9, 2) := by decide +kernel
theorem dX3_at_2 : decode cX3_at 2 = .ok (.bipush 6, 2) := by decide +kernel
theorem dX3_at_4 : decode cX3_at 4 = .ok (.iload_n 0, 1) := by decide +kernel
theorem dX3_at_5 : decode cX3_at 5 = .ok (.imul, 1) := by decide +kernel
theorem dX3_at_6 : decode cX3_at 6 = .ok (.iload_n 1, 1) := by decide +kernel
theorem dX3_at_7 : decode cX3_at 7 = .ok (.iadd, 1) := by decide +kernel
theorem dX3_at_8 : decode cX3_at 8 = .ok (.imul, 1) := by decide +kernel
theorem dX3_at_9 : decode cX3_at 9 = .ok (.iconst 3, 1) := by decide +kernel
theorem dX3_at_10 : decode cX3_at 10 = .ok (.iload_n 2, 1) := by decide +kernel
theorem dX3_at_11 : decode cX3_at 11 = .ok (.imul, 1) := by decide +kernel
theorem dX3_at_12 : decode cX3_at 12 = .ok (.iadd, 1) := by decide +kernel
theorem dX3_at_13 : decode cX3_at 13 = .ok (.iload_n 3, 1) := by decide +kernel
theorem dX3_at_14 : decode cX3_at 14 = .ok (.iadd, 1) := by decide +kernel
theorem dX3_at_15 : decode cX3_at 15 = .ok (.ireturn, 1) := by decide +kernel
theorem dX3_isInChain_0 : decode cX3_isInChain 0 = .ok (.iload_n 2, 1) := by decide +kernel
theorem dX3_isInChain_1 : decode cX3_isInChain 1 = .ok (.istore_n 3, 1) := by decide +kernel
theorem dX3_isInChain_2 : decode cX3_isInChain 2 = .ok (.iload_n 3, 1) := by decide +kernel
theorem dX3_isInChain_3 : decode cX3_isInChain 3 = .ok (.iload_n 1, 1) := by decide +kernel
theorem dX3_isInChain_4 : decode cX3_isInChain 4 = .ok (.if_icmp .eq 17, 3) := by decide +kernel
theorem dX3_isInChain_7 : decode cX3_isInChain 7 = .ok (.iload_n 3, 1) := by decide +kernel
theorem dX3_isInChain_8 : decode cX3_isInChain 8 = .ok (.ifCond .eq 13, 3) := by decide +kernel
theorem dX3_isInChain_11 : decode cX3_isInChain 11 = .ok (.aload_n 0, 1) := by decide +kernel
theorem dX3_isInChain_12 : decode cX3_isInChain 12 = .ok (.getfield 7, 3) := by decide +kernel
theorem dX3_isInChain_15 : decode cX3_isInChain 15 = .ok (.iload_n 3, 1) := by decide +kernel
theorem dX3_isInChain_16 : decode cX3_isInChain 16 = .ok (.iaload, 1) := by decide +kernel
theorem dX3_isInChain_17 : decode cX3_isInChain 17 = .ok (.istore_n 3, 1) := by decide +kernel
theorem dX3_isInChain_18 : decode cX3_isInChain 18 = .ok (.goto (-16), 3) := by decide +kernel
theorem dX3_isInChain_21 : decode cX3_isInChain 21 = .ok (.iload_n 3, 1) := by decide +kernel
theorem dX3_isInChain_22 : decode cX3_isInChain 22 = .ok (.iload_n 1, 1) := by decide +kernel
theorem dX3_isInChain_23 : decode cX3_isInChain 23 = .ok (.if_icmp .ne 7, 3) := by decide +kernel
theorem dX3_isInChain_26 : decode cX3_isInChain 26 = .ok (.iconst 1, 1) := by decide +kernel
theorem dX3_isInChain_27 : decode cX3_isInChain 27 = .ok (.goto 4, 3) := by decide +kernel
theorem dX3_isInChain_30 : decode cX3_isInChain 30 = .ok (.iconst 0, 1) := by decide +kernel
theorem dX3_isInChain_31 : decode cX3_isInChain 31 = .ok (.ireturn, 1) := by decide +kernel
set_option maxRecDepth 20000 in
theorem ggX3_setFallback_X3_in : GoodIn wsX3_setFallback wsX3_in := goodIn_r _ [5] (by decide +kernel) (by decide +kernel)
set_option maxRecDepth 20000 in
theorem gX3_setFallback_X3_in : GoodIn wsX3_setFallback (va_wsS RX3 63 yX3_in wsX3_in) := goodIn_app (goodIn_of _ (by decide +kernel)) ggX3_setFallback_X3_in
set_option maxRecDepth 20000 in
theorem ggX3_setFallback_X3_isLanguage : GoodIn wsX3_setFallback wsX3_isLanguage := goodIn_r _ [8, 2, 3, 4, 5] (by decide +kernel) (by decide +kernel)
set_option maxRecDepth 20000 in
theorem gX3_setFallback_X3_isLanguage : GoodIn wsX3_setFallback (va_wsS RX3 71 yX3_isLanguage wsX3_isLanguage) := goodIn_app (goodIn_of _ (by decide +kernel)) ggX3_setFallback_X3_isLanguage
set_option maxRecDepth 20000 in
theorem ggX3_setFallback_X3_isInChain : GoodIn wsX3_setFallback wsX3_isInChain := goodIn_r _ [12, 1, 18, 19, 20, 21, 22, 23, 24, 25, 26, 27, 28, 29, 30, 31, 32, 33, 34, 35, 36, 37, 38] (by decide +kernel) (by decide +kernel)
set_option maxRecDepth 20000 in
theorem gX3_setFallback_X3_isInChain : GoodIn wsX3_setFallback (wsV RX3 77 RX3 yX3_isInChain wsX3_isInChain) := goodIn_app (goodIn_of _ (by decide +kernel)) ggX3_setFallback_X3_isInChain
set_option maxRecDepth 20000 in
theorem ggX3_setFallback_X3_goes : GoodIn wsX3_setFallback wsX3_goes := goodIn_r _ [16, 17, 18, 19, 20, 21, 22, 23, 24, 25, 26, 27, 28, 29, 30, 31, 32, 33, 34, 35, 36, 37, 38] (by decide +kernel) (by decide +kernel)
set_option maxRecDepth 20000 in
theorem gX3_setFallback_X3_goes : GoodIn wsX3_setFallback (wsV RX3 81 RX3 yX3_goes wsX3_goes) := goodIn_app (goodIn_of _ (by decide +kernel)) ggX3_setFallback_X3_goes
theorem dX3_setFallback_0 : decode cX3_setFallback 0 = .ok (.iload_n 1, 1) := by decide +kernel
theorem dX3_setFallback_1 : decode cX3_setFallback 1 = .ok (.iconst 1, 1) := by decide +kernel
theorem dX3_setFallback_2 : decode cX3_setFallback 2 = .ok (.iconst 5, 1) := by decide +kernel
theorem dX3_setFallback_3 : decode cX3_setFallback 3 = .ok (.invokestatic 63, 3) := by decide +kernel
theorem dX3_setFallback_6 : decode cX3_setFallback 6 = .ok (.ifCond .eq 14, 3) := by decide +kernel
theorem dX3_setFallback_9 : decode cX3_setFallback 9 = .ok (.iload_n 2, 1) := by decide +kernel
theorem dX3_setFallback_10 : decode cX3_setFallback 10 = .ok (.invokestatic 71, 3) := by decide +kernel
theorem dX3_setFallback_13 : decode cX3_setFallback 13 = .ok (.ifCond .eq 7, 3) := by decide +kernel
theorem dX3_setFallback_16 : decode cX3_setFallback 16 = .ok (.iconst 1, 1) := by decide +kernel
theorem dX3_setFallback_17 : decode cX3_setFallback 17 = .ok (.goto 4, 3) := by decide +kernel
theorem dX3_setFallback_20 : decode cX3_setFallback 20 = .ok (.iconst 0, 1) := by decide +kernel
theorem dX3_setFallback_21 : decode cX3_setFallback 21 = .ok (.istore_n 3, 1) := by decide +kernel
theorem dX3_setFallback_22 : decode cX3_setFallback 22 = .ok (.aload_n 0, 1) := by decide +kernel
theorem dX3_setFallback_23 : decode cX3_setFallback 23 = .ok (.iload_n 3, 1) := by decide +kernel
theorem dX3_setFallback_24 : decode cX3_setFallback 24 = .ok (.iload_n 3, 1) := by decide +kernel
theorem dX3_setFallback_25 : decode cX3_setFallback 25 = .ok (.ifCond .eq 16, 3) := by decide +kernel
theorem dX3_setFallback_28 : decode cX3_setFallback 28 = .ok (.aload_n 0, 1) := by decide +kernel
theorem dX3_setFallback_29 : decode cX3_setFallback 29 = .ok (.iload_n 1, 1) := by decide +kernel
theorem dX3_setFallback_30 : decode cX3_setFallback 30 = .ok (.iload_n 2, 1) := by decide +kernel
theorem dX3_setFallback_31 : decode cX3_setFallback 31 = .ok (.invokevirtual 77, 3) := by decide +kernel
theorem dX3_setFallback_34 : decode cX3_setFallback 34 = .ok (.ifCond .ne 7, 3) := by decide +kernel
theorem dX3_setFallback_37 : decode cX3_setFallback 37 = .ok (.iconst 1, 1) := by decide +kernel
theorem dX3_setFallback_38 : decode cX3_setFallback 38 = .ok (.goto 4, 3) := by decide +kernel
theorem dX3_setFallback_41 : decode cX3_setFallback 41 = .ok (.iconst 0, 1) := by decide +kernel
theorem dX3_setFallback_42 : decode cX3_setFallback 42 = .ok (.iconst 1, 1) := by decide +kernel
theorem dX3_setFallback_43 : decode cX3_setFallback 43 = .ok (.invokevirtual 81, 3) := by decide +kernel
theorem dX3_setFallback_46 : decode cX3_setFallback 46 = .ok (.ifCond .ne 5, 3) := by decide +kernel
theorem dX3_setFallback_49 : decode cX3_setFallback 49 = .ok (.iconst 0, 1) := by decide +kernel
theorem dX3_setFallback_50 : decode cX3_setFallback 50 = .ok (.ireturn, 1) := by decide +kernel
theorem dX3_setFallback_51 : decode cX3_setFallback 51 = .ok (.aload_n 0, 1) := by decide +kernel
theorem dX3_setFallback_52 : decode cX3_setFallback 52 = .ok (.getfield 7, 3) := by decide +kernel
theorem dX3_setFallback_55 : decode cX3_setFallback 55 = .ok (.iload_n 1, 1) := by decide +kernel
theorem dX3_setFallback_56 : decode cX3_setFallback 56 = .ok (.iaload, 1) := by decide +kernel
theorem dX3_setFallback_57 : decode cX3_setFallback 57 = .ok (.istore 4, 2) := by decide +kernel
theorem dX3_setFallback_59 : decode cX3_setFallback 59 = .ok (.aload_n 0, 1) := by decide +kernel
theorem dX3_setFallback_60 : decode cX3_setFallback 60 = .ok (.getfield 7, 3) := by decide +kernel
theorem dX3_setFallback_63 : decode cX3_setFallback 63 = .ok (.iload_n 1, 1) := by decide +kernel
theorem dX3_setFallback_64 : decode cX3_setFallback 64 = .ok (.iload_n 2, 1) := by decide +kernel
theorem dX3_setFallback_65 : decode cX3_setFallback 65 = .ok (.iastore, 1) := by decide +kernel
theorem dX3_setFallback_66 : decode cX3_setFallback 66 = .ok (.iload 4, 2) := by decide +kernel
theorem dX3_setFallback_68 : decode cX3_setFallback 68 = .ok (.ireturn, 1) := by decide +kernel
set_option maxRecDepth 20000 in
theorem ggX3_setNumbers_X3_isLanguage : GoodIn wsX3_setNumbers wsX3_isLanguage := goodIn_r _ [6, 7, 8, 5, 9] (by decide +kernel) (by decide +kernel)
set_option maxRecDepth 20000 in
theorem gX3_setNumbers_X3_isLanguage : GoodIn wsX3_setNumbers (va_wsS RX3 71 yX3_isLanguage wsX3_isLanguage) := goodIn_app (goodIn_of _ (by decide +kernel)) ggX3_setNumbers_X3_isLanguage
set_option maxRecDepth 20000 in
theorem ggX3_setNumbers_X3_in : GoodIn wsX3_setNumbers wsX3_in := goodIn_r _ [9] (by decide +kernel) (by decide +kernel)
set_option maxRecDepth 20000 in
theorem gX3_setNumbers_X3_in : GoodIn wsX3_setNumbers (va_wsS RX3 63 yX3_in wsX3_in) := goodIn_app (goodIn_of _ (by decide +kernel)) ggX3_setNumbers_X3_in
set_option maxRecDepth 20000 in
theorem ggX3_setNumbers_X3_goes : GoodIn wsX3_setNumbers wsX3_goes := goodIn_r _ [13, 14, 15, 16, 17, 18, 19, 20, 21, 22, 23, 24, 25, 26, 27, 28, 29, 30, 31, 32, 33, 34, 35] (by decide +kernel) (by decide +kernel)
set_option maxRecDepth 20000 in
theorem gX3_setNumbers_X3_goes : GoodIn wsX3_setNumbers (wsV RX3 81 RX3 yX3_goes wsX3_goes) := goodIn_app (goodIn_of _ (by decide +kernel)) ggX3_setNumbers_X3_goes
theorem dX3_setNumbers_0 : decode cX3_setNumbers 0 = .ok (.aload_n 0, 1) := by decide +kernel
theorem dX3_setNumbers_1 : decode cX3_setNumbers 1 = .ok (.iload_n 1, 1) := by decide +kernel
theorem dX3_setNumbers_2 : decode cX3_setNumbers 2 = .ok (.invokestatic 71, 3) := by decide +kernel
theorem dX3_setNumbers_5 : decode cX3_setNumbers 5 = .ok (.iload_n 2, 1) := by decide +kernel
theorem dX3_setNumbers_6 : decode cX3_setNumbers 6 = .ok (.iconst 0, 1) := by decide +kernel
theorem dX3_setNumbers_7 : decode cX3_setNumbers 7 = .ok (.bipush 100, 2) := by decide +kernel
theorem dX3_setNumbers_9 : decode cX3_setNumbers 9 = .ok (.invokestatic 63, 3) := by decide +kernel
theorem dX3_setNumbers_12 : decode cX3_setNumbers 12 = .ok (.ifCond .eq 17, 3) := by decide +kernel
theorem dX3_setNumbers_15 : decode cX3_setNumbers 15 = .ok (.iload_n 3, 1) := by decide +kernel
theorem dX3_setNumbers_16 : decode cX3_setNumbers 16 = .ok (.iconst 0, 1) := by decide +kernel
theorem dX3_setNumbers_17 : decode cX3_setNumbers 17 = .ok (.bipush 100, 2) := by decide +kernel
theorem dX3_setNumbers_19 : decode cX3_setNumbers 19 = .ok (.invokestatic 63, 3) := by decide +kernel
theorem dX3_setNumbers_22 : decode cX3_setNumbers 22 = .ok (.ifCond .eq 7, 3) := by decide +kernel
theorem dX3_setNumbers_25 : decode cX3_setNumbers 25 = .ok (.iconst 1, 1) := by decide +kernel
theorem dX3_setNumbers_26 : decode cX3_setNumbers 26 = .ok (.goto 4, 3) := by decide +kernel
theorem dX3_setNumbers_29 : decode cX3_setNumbers 29 = .ok (.iconst 0, 1) := by decide +kernel
theorem dX3_setNumbers_30 : decode cX3_setNumbers 30 = .ok (.iconst 1, 1) := by decide +kernel
theorem dX3_setNumbers_31 : decode cX3_setNumbers 31 = .ok (.invokevirtual 81, 3) := by decide +kernel
theorem dX3_setNumbers_34 : decode cX3_setNumbers 34 = .ok (.ifCond .eq 17, 3) := by decide +kernel
theorem dX3_setNumbers_37 : decode cX3_setNumbers 37 = .ok (.aload_n 0, 1) := by decide +kernel
theorem dX3_setNumbers_38 : decode cX3_setNumbers 38 = .ok (.getfield 13, 3) := by decide +kernel
theorem dX3_setNumbers_41 : decode cX3_setNumbers 41 = .ok (.iload_n 1, 1) := by decide +kernel
theorem dX3_setNumbers_42 : decode cX3_setNumbers 42 = .ok (.iload_n 2, 1) := by decide +kernel
theorem dX3_setNumbers_43 : decode cX3_setNumbers 43 = .ok (.iastore, 1) := by decide +kernel
theorem dX3_setNumbers_44 : decode cX3_setNumbers 44 = .ok (.aload_n 0, 1) := by decide +kernel
theorem dX3_setNumbers_45 : decode cX3_setNumbers 45 = .ok (.getfield 16, 3) := by decide +kernel
theorem dX3_setNumbers_48 : decode cX3_setNumbers 48 = .ok (.iload_n 1, 1) := by decide +kernel
theorem dX3_setNumbers_49 : decode cX3_setNumbers 49 = .ok (.iload_n 3, 1) := by decide +kernel
theorem dX3_setNumbers_50 : decode cX3_setNumbers 50 = .ok (.iastore, 1) := by decide +kernel
theorem dX3_setNumbers_51 : decode cX3_setNumbers 51 = .ok (.return_, 1) := by decide +kernel
set_option maxRecDepth 20000 in
theorem ggX3_sign_X3_in : GoodIn wsX3_sign wsX3_in := goodIn_r _ [6] (by decide +kernel) (by decide +kernel)
set_option maxRecDepth 20000 in
theorem gX3_sign_X3_in : GoodIn wsX3_sign (va_wsS RX3 63 yX3_in wsX3_in) := goodIn_app (goodIn_of _ (by decide +kernel)) ggX3_sign_X3_in
set_option maxRecDepth 20000 in
theorem ggX3_sign_X3_goes : GoodIn wsX3_sign wsX3_goes := goodIn_r _ [10, 11, 12, 13, 14, 15, 16, 17, 18, 19, 20, 21, 22, 23, 24, 25, 26, 27, 28, 29, 30, 31, 32] (by decide +kernel) (by decide +kernel)
set_option maxRecDepth 20000 in
theorem gX3_sign_X3_goes : GoodIn wsX3_sign (wsV RX3 81 RX3 yX3_goes wsX3_goes) := goodIn_app (goodIn_of _ (by decide +kernel)) ggX3_sign_X3_goes
theorem dX3_sign_0 : decode cX3_sign 0 = .ok (.aload_n 0, 1) := by decide +kernel
theorem dX3_sign_1 : decode cX3_sign 1 = .ok (.iload_n 1, 1) := by decide +kernel
theorem dX3_sign_2 : decode cX3_sign 2 = .ok (.iconst 1, 1) := by decide +kernel
theorem dX3_sign_3 : decode cX3_sign 3 = .ok (.bipush 99, 2) := by decide +kernel
theorem dX3_sign_5 : decode cX3_sign 5 = .ok (.invokestatic 63, 3) := by decide +kernel
theorem dX3_sign_8 : decode cX3_sign 8 = .ok (.ifCond .ne 14, 3) := by decide +kernel
theorem dX3_sign_11 : decode cX3_sign 11 = .ok (.iload_n 1, 1) := by decide +kernel
theorem dX3_sign_12 : decode cX3_sign 12 = .ok (.bipush 101, 2) := by decide +kernel
theorem dX3_sign_14 : decode cX3_sign 14 = .ok (.bipush 104, 2) := by decide +kernel
theorem dX3_sign_16 : decode cX3_sign 16 = .ok (.invokestatic 63, 3) := by decide +kernel
theorem dX3_sign_19 : decode cX3_sign 19 = .ok (.ifCond .eq 7, 3) := by decide +kernel
theorem dX3_sign_22 : decode cX3_sign 22 = .ok (.iconst 1, 1) := by decide +kernel
theorem dX3_sign_23 : decode cX3_sign 23 = .ok (.goto 4, 3) := by decide +kernel
theorem dX3_sign_26 : decode cX3_sign 26 = .ok (.iconst 0, 1) := by decide +kernel
theorem dX3_sign_27 : decode cX3_sign 27 = .ok (.aload_n 0, 1) := by decide +kernel
theorem dX3_sign_28 : decode cX3_sign 28 = .ok (.getfield 85, 3) := by decide +kernel
theorem dX3_sign_31 : decode cX3_sign 31 = .ok (.bipush 8, 2) := by decide +kernel
theorem dX3_sign_33 : decode cX3_sign 33 = .ok (.if_icmp .ge 7, 3) := by decide +kernel
theorem dX3_sign_36 : decode cX3_sign 36 = .ok (.iconst 1, 1) := by decide +kernel
theorem dX3_sign_37 : decode cX3_sign 37 = .ok (.goto 4, 3) := by decide +kernel
theorem dX3_sign_40 : decode cX3_sign 40 = .ok (.iconst 0, 1) := by decide +kernel
theorem dX3_sign_41 : decode cX3_sign 41 = .ok (.iconst 1, 1) := by decide +kernel
theorem dX3_sign_42 : decode cX3_sign 42 = .ok (.invokevirtual 81, 3) := by decide +kernel
theorem dX3_sign_45 : decode cX3_sign 45 = .ok (.ifCond .ne 5, 3) := by decide +kernel
theorem dX3_sign_48 : decode cX3_sign 48 = .ok (.iconst 0, 1) := by decide +kernel
theorem dX3_sign_49 : decode cX3_sign 49 = .ok (.ireturn, 1) := by decide +kernel
theorem dX3_sign_50 : decode cX3_sign 50 = .ok (.aload_n 0, 1) := by decide +kernel
theorem dX3_sign_51 : decode cX3_sign 51 = .ok (.getfield 19, 3) := by decide +kernel
theorem dX3_sign_54 : decode cX3_sign 54 = .ok (.aload_n 0, 1) := by decide +kernel
theorem dX3_sign_55 : decode cX3_sign 55 = .ok (.getfield 85, 3) := by decide +kernel
theorem dX3_sign_58 : decode cX3_sign 58 = .ok (.iload_n 1, 1) := by decide +kernel
theorem dX3_sign_59 : decode cX3_sign 59 = .ok (.iastore, 1) := by decide +kernel
theorem dX3_sign_60 : decode cX3_sign 60 = .ok (.aload_n 0, 1) := by decide +kernel
theorem dX3_sign_61 : decode cX3_sign 61 = .ok (.dup, 1) := by decide +kernel
theorem dX3_sign_62 : decode cX3_sign 62 = .ok (.getfield 85, 3) := by decide +kernel
theorem dX3_sign_65 : decode cX3_sign 65 = .ok (.iconst 1, 1) := by decide +kernel
theorem dX3_sign_66 : decode cX3_sign 66 = .ok (.iadd, 1) := by decide +kernel
theorem dX3_sign_67 : decode cX3_sign 67 = .ok (.putfield 85, 3) := by decide +kernel
theorem dX3_sign_70 : decode cX3_sign 70 = .ok (.aload_n 0, 1) := by decide +kernel
theorem dX3_sign_71 : decode cX3_sign 71 = .ok (.getfield 85, 3) := by decide +kernel
theorem dX3_sign_74 : decode cX3_sign 74 = .ok (.ireturn, 1) := by decide +kernel
set_option maxRecDepth 20000 in
theorem ggX3_keeps_X3_forgets : GoodIn wsX3_keeps wsX3_forgets := goodIn_r _ [13, 2, 3, 4, 5, 6, 8, 14, 15, 16, 17, 18, 19, 20, 21, 22, 23, 24, 25, 26, 27, 28, 29, 30, 31, 32, 33, 34] (by decide +kernel) (by decide +kernel)
