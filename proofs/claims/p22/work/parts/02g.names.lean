theorem wsL_law_in0 : ∀ w ∈ wsL_law0, w ∈ lw_tbl := fun w h => (List.mem_append.mp h).elim (fun h => (List.mem_append.mp h).elim (fun h => (List.mem_append.mp h).elim (fun h => (List.mem_append.mp h).elim (fun h => (List.mem_append.mp h).elim (fun h => (List.mem_append.mp h).elim (fun h => in_wsL_law0_r1 w h) (fun h => (List.mem_append.mp h).elim (fun h => in_wsL_law0_r2 w h) (fun h => (List.mem_append.mp h).elim (fun h => in_wsL_law0_r3 w h) (fun h => (List.mem_append.mp h).elim (fun h => in_wsL_law0_r4 w h) (fun h => (List.mem_append.mp h).elim (fun h => in_wsL_law0_r5 w h) (fun h => (List.mem_append.mp h).elim (fun h => in_wsL_law0_r6 w h) (fun h => (List.mem_append.mp h).elim (fun h => in_wsL_law0_r7 w h) (fun h => (List.mem_append.mp h).elim (fun h => in_wsL_law0_r8 w h) (fun h => (List.mem_append.mp h).elim (fun h => in_wsL_law0_r9 w h) (fun h => (List.mem_append.mp h).elim (fun h => in_wsL_law0_r10 w h) (fun h => (List.mem_append.mp h).elim (fun h => in_wsL_law0_r11 w h) (fun h => (List.mem_append.mp h).elim (fun h => in_wsL_law0_r12 w h) (fun h => (List.mem_append.mp h).elim (fun h => in_wsL_law0_r13 w h) (fun h => (List.mem_append.mp h).elim (fun h => in_wsL_law0_r14 w h) (fun h => (List.mem_append.mp h).elim (fun h => in_wsL_law0_r15 w h) (fun h => (List.mem_append.mp h).elim (fun h => in_wsL_law0_r16 w h) (fun h => in_wsL_law0_r17 w h))))))))))))))))) (fun h => in_wsX20 w h)) (fun h => in_wsJx4a65c0 w h)) (fun h => in_wsX00 w h)) (fun h => in_wsX10 w h)) (fun h => absurd h List.not_mem_nil)
theorem goodIn_cons {big a : List Cond} {c : Cond} (hc : GoodIn big [c]) (ha : GoodIn big a) : GoodIn big (c :: a) := fun w h => (List.mem_cons.mp h).elim (fun e => hc w (List.mem_singleton.mpr e)) (ha w)
theorem wsL_law_in : ∀ w ∈ wsL_law, w ∈ lw_tbl := fun w h => (List.mem_append.mp h).elim (fun h => (List.mem_append.mp h).elim (fun h => (List.mem_append.mp h).elim (fun h => wsL_law_in0 w h) (fun h => wsL_law_x0 w h)) (fun h => wsL_law_x1 w h)) (fun h => wsL_law_x2 w h)
theorem inlX0 : ∀ w ∈ wsX00, w ∈ wsL_law := fun _ h => List.mem_append_left _ (List.mem_append_left _ (List.mem_append_left _ (List.mem_append_left _ (List.mem_append_left _ (List.mem_append_right _ h)))))
theorem inX0 : ∀ w ∈ wsX00, w ∈ lw_tbl := fun w h => wsL_law_in w (inlX0 w h)
theorem inlX1 : ∀ w ∈ wsX10, w ∈ wsL_law := fun _ h => List.mem_append_left _ (List.mem_append_left _ (List.mem_append_left _ (List.mem_append_left _ (List.mem_append_right _ h))))
theorem inX1 : ∀ w ∈ wsX10, w ∈ lw_tbl := fun w h => wsL_law_in w (inlX1 w h)
theorem inlX2 : ∀ w ∈ wsX20, w ∈ wsL_law := fun _ h => List.mem_append_left _ (List.mem_append_left _ (List.mem_append_left _ (List.mem_append_left _ (List.mem_append_left _ (List.mem_append_left _ (List.mem_append_left _ (List.mem_append_right _ h)))))))
theorem inX2 : ∀ w ∈ wsX20, w ∈ lw_tbl := fun w h => wsL_law_in w (inlX2 w h)
theorem inX3 : ∀ w ∈ wsX30, w ∈ lw_tbl := by decide +kernel
theorem inJx145de : ∀ w ∈ wsJx145de0, w ∈ lw_tbl := by decide +kernel
theorem inJx8e188 : ∀ w ∈ wsJx8e1880, w ∈ lw_tbl := by decide +kernel
theorem inJxab1ab : ∀ w ∈ wsJxab1ab0, w ∈ lw_tbl := by decide +kernel
theorem inJ9 : ∀ w ∈ wsJ90, w ∈ lw_tbl := by decide +kernel
theorem inJ0 : ∀ w ∈ wsJ00, w ∈ lw_tbl := by decide +kernel
theorem inJ10 : ∀ w ∈ wsJ100, w ∈ lw_tbl := by decide +kernel
theorem inJxa1e45 : ∀ w ∈ wsJxa1e450, w ∈ lw_tbl := by decide +kernel
theorem inJxc12de : ∀ w ∈ wsJxc12de0, w ∈ lw_tbl := by decide +kernel
theorem inlJx4a65c : ∀ w ∈ wsJx4a65c0, w ∈ wsL_law := fun _ h => List.mem_append_left _ (List.mem_append_left _ (List.mem_append_left _ (List.mem_append_left _ (List.mem_append_left _ (List.mem_append_left _ (List.mem_append_right _ h))))))
theorem inJx4a65c : ∀ w ∈ wsJx4a65c0, w ∈ lw_tbl := fun w h => wsL_law_in w (inlJx4a65c w h)
theorem inJ7 : ∀ w ∈ wsJ70, w ∈ lw_tbl := by decide +kernel
theorem inJx5ef63 : ∀ w ∈ wsJx5ef630, w ∈ lw_tbl := by decide +kernel
theorem inJxbd725 : ∀ w ∈ wsJxbd7250, w ∈ lw_tbl := by decide +kernel
theorem inJ15 : ∀ w ∈ wsJ150, w ∈ lw_tbl := by decide +kernel
theorem inJxf0a74 : ∀ w ∈ wsJxf0a740, w ∈ lw_tbl := by decide +kernel
theorem inJxa66e6 : ∀ w ∈ wsJxa66e60, w ∈ lw_tbl := by decide +kernel
theorem inJ8 : ∀ w ∈ wsJ80, w ∈ lw_tbl := by decide +kernel
theorem inJ3 : ∀ w ∈ wsJ30, w ∈ lw_tbl := by decide +kernel
theorem dX0_init_0 : decode cX0_init 0 = .ok (.aload_n 0, 1) := by decide +kernel
theorem dX0_init_1 : decode cX0_init 1 = .ok (.invokespecial 1, 3) := by decide +kernel
theorem dX0_init_4 : decode cX0_init 4 = .ok (.aload_n 0, 1) := by decide +kernel
theorem dX0_init_5 : decode cX0_init 5 = .ok (.aload_n 1, 1) := by decide +kernel
theorem dX0_init_6 : decode cX0_init 6 = .ok (.putfield 7, 3) := by decide +kernel
theorem dX0_init_9 : decode cX0_init 9 = .ok (.aload_n 0, 1) := by decide +kernel
theorem dX0_init_10 : decode cX0_init 10 = .ok (.iload_n 2, 1) := by decide +kernel
theorem dX0_init_11 : decode cX0_init 11 = .ok (.putfield 13, 3) := by decide +kernel
theorem dX0_init_14 : decode cX0_init 14 = .ok (.aload_n 0, 1) := by decide +kernel
theorem dX0_init_15 : decode cX0_init 15 = .ok (.iload_n 3, 1) := by decide +kernel
theorem dX0_init_16 : decode cX0_init 16 = .ok (.putfield 17, 3) := by decide +kernel
theorem dX0_init_19 : decode cX0_init 19 = .ok (.return_, 1) := by decide +kernel
theorem dX1_init_0 : decode cX1_init 0 = .ok (.aload_n 0, 1) := by decide +kernel
theorem dX1_init_1 : decode cX1_init 1 = .ok (.invokespecial 1, 3) := by decide +kernel
theorem dX1_init_4 : decode cX1_init 4 = .ok (.aload_n 0, 1) := by decide +kernel
theorem dX1_init_5 : decode cX1_init 5 = .ok (.iload_n 1, 1) := by decide +kernel
theorem dX1_init_6 : decode cX1_init 6 = .ok (.putfield 7, 3) := by decide +kernel
theorem dX1_init_9 : decode cX1_init 9 = .ok (.aload_n 0, 1) := by decide +kernel
theorem dX1_init_10 : decode cX1_init 10 = .ok (.aload_n 2, 1) := by decide +kernel
theorem dX1_init_11 : decode cX1_init 11 = .ok (.putfield 13, 3) := by decide +kernel
theorem dX1_init_14 : decode cX1_init 14 = .ok (.aload_n 0, 1) := by decide +kernel
theorem dX1_init_15 : decode cX1_init 15 = .ok (.aload_n 3, 1) := by decide +kernel
theorem dX1_init_16 : decode cX1_init 16 = .ok (.putfield 17, 3) := by decide +kernel
theorem dX1_init_19 : decode cX1_init 19 = .ok (.return_, 1) := by decide +kernel
set_option maxRecDepth 20000 in
theorem ggX2_init_J7_fill_53178 : GoodIn wsX2_init wsJ7_fill_53178 := goodIn_r _ [22] (by decide +kernel) (by decide +kernel)
set_option maxRecDepth 20000 in
theorem gX2_init_J7_fill_53178 : GoodIn wsX2_init (va_wsS RX2 19 yJ7_fill_53178 wsJ7_fill_53178) := goodIn_app (goodIn_of _ (by decide +kernel)) ggX2_init_J7_fill_53178
set_option maxRecDepth 20000 in
theorem ggX2_init_Jx4a65c_init_da8c8 : GoodIn wsX2_init wsJx4a65c_init_da8c8 := goodIn_r _ [25, 26, 27, 28, 29, 30, 31, 32, 33, 34, 35, 36, 37, 2, 3, 48, 49, 50] (by decide +kernel) (by decide +kernel)
set_option maxRecDepth 20000 in
theorem gX2_init_Jx4a65c_init_da8c8 : GoodIn wsX2_init (wsJx4a65c_init_da8c8) := ggX2_init_Jx4a65c_init_da8c8
theorem dX2_init_0 : decode cX2_init 0 = .ok (.aload_n 0, 1) := by decide +kernel
theorem dX2_init_1 : decode cX2_init 1 = .ok (.invokespecial 1, 3) := by decide +kernel
theorem dX2_init_4 : decode cX2_init 4 = .ok (.aload_n 0, 1) := by decide +kernel
theorem dX2_init_5 : decode cX2_init 5 = .ok (.bipush 6, 2) := by decide +kernel
theorem dX2_init_7 : decode cX2_init 7 = .ok (.newarray .int, 2) := by decide +kernel
theorem dX2_init_9 : decode cX2_init 9 = .ok (.putfield 9, 3) := by decide +kernel
theorem dX2_init_12 : decode cX2_init 12 = .ok (.aload_n 0, 1) := by decide +kernel
theorem dX2_init_13 : decode cX2_init 13 = .ok (.bipush 6, 2) := by decide +kernel
theorem dX2_init_15 : decode cX2_init 15 = .ok (.newarray .int, 2) := by decide +kernel
theorem dX2_init_17 : decode cX2_init 17 = .ok (.putfield 13, 3) := by decide +kernel
theorem dX2_init_20 : decode cX2_init 20 = .ok (.aload_n 0, 1) := by decide +kernel
theorem dX2_init_21 : decode cX2_init 21 = .ok (.bipush 6, 2) := by decide +kernel
theorem dX2_init_23 : decode cX2_init 23 = .ok (.newarray .int, 2) := by decide +kernel
theorem dX2_init_25 : decode cX2_init 25 = .ok (.putfield 16, 3) := by decide +kernel
theorem dX2_init_28 : decode cX2_init 28 = .ok (.aload_n 0, 1) := by decide +kernel
theorem dX2_init_29 : decode cX2_init 29 = .ok (.getfield 13, 3) := by decide +kernel
theorem dX2_init_32 : decode cX2_init 32 = .ok (.iconst 1, 1) := by decide +kernel
theorem dX2_init_33 : decode cX2_init 33 = .ok (.invokestatic 19, 3) := by decide +kernel
theorem dX2_init_36 : decode cX2_init 36 = .ok (.aload_n 0, 1) := by decide +kernel
theorem dX2_init_37 : decode cX2_init 37 = .ok (.getfield 16, 3) := by decide +kernel
theorem dX2_init_40 : decode cX2_init 40 = .ok (.iconst 1, 1) := by decide +kernel
theorem dX2_init_41 : decode cX2_init 41 = .ok (.invokestatic 19, 3) := by decide +kernel
theorem dX2_init_44 : decode cX2_init 44 = .ok (.aload_n 0, 1) := by decide +kernel
theorem dX2_init_45 : decode cX2_init 45 = .ok (.bipush 8, 2) := by decide +kernel
theorem dX2_init_47 : decode cX2_init 47 = .ok (.newarray .int, 2) := by decide +kernel
theorem dX2_init_49 : decode cX2_init 49 = .ok (.putfield 25, 3) := by decide +kernel
theorem dX2_init_52 : decode cX2_init 52 = .ok (.aload_n 0, 1) := by decide +kernel
theorem dX2_init_53 : decode cX2_init 53 = .ok (.iconst 0, 1) := by decide +kernel
theorem dX2_init_54 : decode cX2_init 54 = .ok (.putfield 28, 3) := by decide +kernel
theorem dX2_init_57 : decode cX2_init 57 = .ok (.aload_n 0, 1) := by decide +kernel
theorem dX2_init_58 : decode cX2_init 58 = .ok (.sipush 540, 3) := by decide +kernel
theorem dX2_init_61 : decode cX2_init 61 = .ok (.anewarray 32, 3) := by decide +kernel
theorem dX2_init_64 : decode cX2_init 64 = .ok (.putfield 34, 3) := by decide +kernel
theorem dX2_init_67 : decode cX2_init 67 = .ok (.aload_n 0, 1) := by decide +kernel
theorem dX2_init_68 : decode cX2_init 68 = .ok (.bipush 10, 2) := by decide +kernel
theorem dX2_init_70 : decode cX2_init 70 = .ok (.newarray .int, 2) := by decide +kernel
theorem dX2_init_72 : decode cX2_init 72 = .ok (.putfield 38, 3) := by decide +kernel
theorem dX2_init_75 : decode cX2_init 75 = .ok (.aload_n 0, 1) := by decide +kernel
theorem dX2_init_76 : decode cX2_init 76 = .ok (.bipush 60, 2) := by decide +kernel
theorem dX2_init_78 : decode cX2_init 78 = .ok (.newarray .int, 2) := by decide +kernel
theorem dX2_init_80 : decode cX2_init 80 = .ok (.putfield 41, 3) := by decide +kernel
theorem dX2_init_83 : decode cX2_init 83 = .ok (.aload_n 0, 1) := by decide +kernel
theorem dX2_init_84 : decode cX2_init 84 = .ok (.new 44, 3) := by decide +kernel
theorem dX2_init_87 : decode cX2_init 87 = .ok (.dup, 1) := by decide +kernel
theorem dX2_init_88 : decode cX2_init 88 = .ok (.invokespecial 46, 3) := by decide +kernel
theorem dX2_init_91 : decode cX2_init 91 = .ok (.putfield 47, 3) := by decide +kernel
theorem dX2_init_94 : decode cX2_init 94 = .ok (.aload_n 0, 1) := by decide +kernel
theorem dX2_init_95 : decode cX2_init 95 = .ok (.bipush 9, 2) := by decide +kernel
theorem dX2_init_97 : decode cX2_init 97 = .ok (.newarray .int, 2) := by decide +kernel
theorem dX2_init_99 : decode cX2_init 99 = .ok (.putfield 51, 3) := by decide +kernel
theorem dX2_init_102 : decode cX2_init 102 = .ok (.return_, 1) := by decide +kernel
set_option maxRecDepth 20000 in
theorem ggX2_setFallback_X2_requireLanguage : GoodIn wsX2_setFallback wsX2_requireLanguage := goodIn_ca (goodIn_r _ [9, 1, 2] (by decide +kernel) (by decide +kernel)) (goodIn_sub (fun _ h => List.mem_cons_of_mem _ (List.mem_append_left _ (List.mem_append_right _ h))) (by decide +kernel))
set_option maxRecDepth 20000 in
theorem gX2_setFallback_X2_requireLanguage : GoodIn wsX2_setFallback (va_wsS RX2 54 yX2_requireLanguage wsX2_requireLanguage) := goodIn_app (goodIn_of _ (by decide +kernel)) ggX2_setFallback_X2_requireLanguage
set_option maxRecDepth 20000 in
theorem ggX2_setFallback_X2_chainPlace : GoodIn wsX2_setFallback wsX2_chainPlace := goodIn_r _ [13, 5, 14, 15, 16, 17, 18, 19, 20, 21, 22, 23] (by decide +kernel) (by decide +kernel)
set_option maxRecDepth 20000 in
theorem gX2_setFallback_X2_chainPlace : GoodIn wsX2_setFallback (wsV RX2 65 RX2 yX2_chainPlace wsX2_chainPlace) := goodIn_app (goodIn_of _ (by decide +kernel)) ggX2_setFallback_X2_chainPlace
theorem dX2_setFallback_0 : decode cX2_setFallback 0 = .ok (.iload_n 1, 1) := by decide +kernel
theorem dX2_setFallback_1 : decode cX2_setFallback 1 = .ok (.invokestatic 54, 3) := by decide +kernel
theorem dX2_setFallback_4 : decode cX2_setFallback 4 = .ok (.iload_n 2, 1) := by decide +kernel
theorem dX2_setFallback_5 : decode cX2_setFallback 5 = .ok (.invokestatic 54, 3) := by decide +kernel
theorem dX2_setFallback_8 : decode cX2_setFallback 8 = .ok (.iload_n 1, 1) := by decide +kernel
theorem dX2_setFallback_9 : decode cX2_setFallback 9 = .ok (.ifCond .ne 13, 3) := by decide +kernel
theorem dX2_setFallback_12 : decode cX2_setFallback 12 = .ok (.new 58, 3) := by decide +kernel
theorem dX2_setFallback_15 : decode cX2_setFallback 15 = .ok (.dup, 1) := by decide +kernel
theorem dX2_setFallback_16 : decode cX2_setFallback 16 = .ok (.ldc 60, 2) := by decide +kernel
theorem dX2_setFallback_18 : decode cX2_setFallback 18 = .ok (.invokespecial 62, 3) := by decide +kernel
theorem dX2_setFallback_21 : decode cX2_setFallback 21 = .ok (.athrow, 1) := by decide +kernel
theorem dX2_setFallback_22 : decode cX2_setFallback 22 = .ok (.aload_n 0, 1) := by decide +kernel
theorem dX2_setFallback_23 : decode cX2_setFallback 23 = .ok (.iload_n 2, 1) := by decide +kernel
theorem dX2_setFallback_24 : decode cX2_setFallback 24 = .ok (.iload_n 1, 1) := by decide +kernel
theorem dX2_setFallback_25 : decode cX2_setFallback 25 = .ok (.invokevirtual 65, 3) := by decide +kernel
theorem dX2_setFallback_28 : decode cX2_setFallback 28 = .ok (.iconst (-1), 1) := by decide +kernel
theorem dX2_setFallback_29 : decode cX2_setFallback 29 = .ok (.if_icmp .eq 13, 3) := by decide +kernel
theorem dX2_setFallback_32 : decode cX2_setFallback 32 = .ok (.new 69, 3) := by decide +kernel
theorem dX2_setFallback_35 : decode cX2_setFallback 35 = .ok (.dup, 1) := by decide +kernel
theorem dX2_setFallback_36 : decode cX2_setFallback 36 = .ok (.ldc 71, 2) := by decide +kernel
theorem dX2_setFallback_38 : decode cX2_setFallback 38 = .ok (.invokespecial 73, 3) := by decide +kernel
theorem dX2_setFallback_41 : decode cX2_setFallback 41 = .ok (.athrow, 1) := by decide +kernel
theorem dX2_setFallback_42 : decode cX2_setFallback 42 = .ok (.aload_n 0, 1) := by decide +kernel
theorem dX2_setFallback_43 : decode cX2_setFallback 43 = .ok (.getfield 9, 3) := by decide +kernel
theorem dX2_setFallback_46 : decode cX2_setFallback 46 = .ok (.iload_n 1, 1) := by decide +kernel
theorem dX2_setFallback_47 : decode cX2_setFallback 47 = .ok (.iaload, 1) := by decide +kernel
theorem dX2_setFallback_48 : decode cX2_setFallback 48 = .ok (.istore_n 3, 1) := by decide +kernel
theorem dX2_setFallback_49 : decode cX2_setFallback 49 = .ok (.aload_n 0, 1) := by decide +kernel
theorem dX2_setFallback_50 : decode cX2_setFallback 50 = .ok (.getfield 9, 3) := by decide +kernel
theorem dX2_setFallback_53 : decode cX2_setFallback 53 = .ok (.iload_n 1, 1) := by decide +kernel
theorem dX2_setFallback_54 : decode cX2_setFallback 54 = .ok (.iload_n 2, 1) := by decide +kernel
theorem dX2_setFallback_55 : decode cX2_setFallback 55 = .ok (.iastore, 1) := by decide +kernel
theorem dX2_setFallback_56 : decode cX2_setFallback 56 = .ok (.iload_n 3, 1) := by decide +kernel
theorem dX2_setFallback_57 : decode cX2_setFallback 57 = .ok (.ireturn, 1) := by decide +kernel
set_option maxRecDepth 20000 in
theorem ggX2_setNumbers_X2_requireLanguage : GoodIn wsX2_setNumbers wsX2_requireLanguage := goodIn_ca (goodIn_r _ [6, 7, 8] (by decide +kernel) (by decide +kernel)) (goodIn_sub (fun _ h => List.mem_cons_of_mem _ (List.mem_append_left _ (List.mem_append_right _ h))) (by decide +kernel))
set_option maxRecDepth 20000 in
theorem gX2_setNumbers_X2_requireLanguage : GoodIn wsX2_setNumbers (va_wsS RX2 54 yX2_requireLanguage wsX2_requireLanguage) := goodIn_app (goodIn_of _ (by decide +kernel)) ggX2_setNumbers_X2_requireLanguage
set_option maxRecDepth 20000 in
theorem ggX2_setNumbers_X2_requireNumberLimit : GoodIn wsX2_setNumbers wsX2_requireNumberLimit := goodIn_ca (goodIn_r _ [11, 12, 13] (by decide +kernel) (by decide +kernel)) (goodIn_sub (fun _ h => List.mem_cons_of_mem _ (List.mem_append_right _ h)) (by decide +kernel))
set_option maxRecDepth 20000 in
theorem gX2_setNumbers_X2_requireNumberLimit : GoodIn wsX2_setNumbers (va_wsS RX2 74 yX2_requireNumberLimit wsX2_requireNumberLimit) := goodIn_app (goodIn_of _ (by decide +kernel)) ggX2_setNumbers_X2_requireNumberLimit
theorem dX2_setNumbers_0 : decode cX2_setNumbers 0 = .ok (.iload_n 1, 1) := by decide +kernel
theorem dX2_setNumbers_1 : decode cX2_setNumbers 1 = .ok (.invokestatic 54, 3) := by decide +kernel
theorem dX2_setNumbers_4 : decode cX2_setNumbers 4 = .ok (.iload_n 2, 1) := by decide +kernel
theorem dX2_setNumbers_5 : decode cX2_setNumbers 5 = .ok (.invokestatic 74, 3) := by decide +kernel
theorem dX2_setNumbers_8 : decode cX2_setNumbers 8 = .ok (.iload_n 3, 1) := by decide +kernel
theorem dX2_setNumbers_9 : decode cX2_setNumbers 9 = .ok (.invokestatic 74, 3) := by decide +kernel
theorem dX2_setNumbers_12 : decode cX2_setNumbers 12 = .ok (.aload_n 0, 1) := by decide +kernel
theorem dX2_setNumbers_13 : decode cX2_setNumbers 13 = .ok (.getfield 13, 3) := by decide +kernel
theorem dX2_setNumbers_16 : decode cX2_setNumbers 16 = .ok (.iload_n 1, 1) := by decide +kernel
theorem dX2_setNumbers_17 : decode cX2_setNumbers 17 = .ok (.iload_n 2, 1) := by decide +kernel
theorem dX2_setNumbers_18 : decode cX2_setNumbers 18 = .ok (.iastore, 1) := by decide +kernel
theorem dX2_setNumbers_19 : decode cX2_setNumbers 19 = .ok (.aload_n 0, 1) := by decide +kernel
theorem dX2_setNumbers_20 : decode cX2_setNumbers 20 = .ok (.getfield 16, 3) := by decide +kernel
theorem dX2_setNumbers_23 : decode cX2_setNumbers 23 = .ok (.iload_n 1, 1) := by decide +kernel
theorem dX2_setNumbers_24 : decode cX2_setNumbers 24 = .ok (.iload_n 3, 1) := by decide +kernel
theorem dX2_setNumbers_25 : decode cX2_setNumbers 25 = .ok (.iastore, 1) := by decide +kernel
theorem dX2_setNumbers_26 : decode cX2_setNumbers 26 = .ok (.return_, 1) := by decide +kernel
set_option maxRecDepth 20000 in
theorem ggX2_sign_X2_isWord : GoodIn wsX2_sign wsX2_isWord := goodIn_r _ [10] (by decide +kernel) (by decide +kernel)
set_option maxRecDepth 20000 in
theorem gX2_sign_X2_isWord : GoodIn wsX2_sign (va_wsS RX2 77 yX2_isWord wsX2_isWord) := goodIn_app (goodIn_of _ (by decide +kernel)) ggX2_sign_X2_isWord
set_option maxRecDepth 20000 in
theorem ggX2_sign_X2_isPlaceholder : GoodIn wsX2_sign wsX2_isPlaceholder := goodIn_r _ [13] (by decide +kernel) (by decide +kernel)
set_option maxRecDepth 20000 in
theorem gX2_sign_X2_isPlaceholder : GoodIn wsX2_sign (va_wsS RX2 81 yX2_isPlaceholder wsX2_isPlaceholder) := goodIn_app (goodIn_of _ (by decide +kernel)) ggX2_sign_X2_isPlaceholder
theorem dX2_sign_0 : decode cX2_sign 0 = .ok (.iload_n 1, 1) := by decide +kernel
theorem dX2_sign_1 : decode cX2_sign 1 = .ok (.invokestatic 77, 3) := by decide +kernel
theorem dX2_sign_4 : decode cX2_sign 4 = .ok (.ifCond .ne 20, 3) := by decide +kernel
theorem dX2_sign_7 : decode cX2_sign 7 = .ok (.iload_n 1, 1) := by decide +kernel
theorem dX2_sign_8 : decode cX2_sign 8 = .ok (.invokestatic 81, 3) := by decide +kernel
theorem dX2_sign_11 : decode cX2_sign 11 = .ok (.ifCond .ne 13, 3) := by decide +kernel
theorem dX2_sign_14 : decode cX2_sign 14 = .ok (.new 69, 3) := by decide +kernel
theorem dX2_sign_17 : decode cX2_sign 17 = .ok (.dup, 1) := by decide +kernel
theorem dX2_sign_18 : decode cX2_sign 18 = .ok (.ldc 84, 2) := by decide +kernel
theorem dX2_sign_20 : decode cX2_sign 20 = .ok (.invokespecial 73, 3) := by decide +kernel
theorem dX2_sign_23 : decode cX2_sign 23 = .ok (.athrow, 1) := by decide +kernel
theorem dX2_sign_24 : decode cX2_sign 24 = .ok (.aload_n 0, 1) := by decide +kernel
theorem dX2_sign_25 : decode cX2_sign 25 = .ok (.getfield 28, 3) := by decide +kernel
theorem dX2_sign_28 : decode cX2_sign 28 = .ok (.bipush 8, 2) := by decide +kernel
theorem dX2_sign_30 : decode cX2_sign 30 = .ok (.if_icmp .lt 13, 3) := by decide +kernel
theorem dX2_sign_33 : decode cX2_sign 33 = .ok (.new 86, 3) := by decide +kernel
theorem dX2_sign_36 : decode cX2_sign 36 = .ok (.dup, 1) := by decide +kernel
theorem dX2_sign_37 : decode cX2_sign 37 = .ok (.ldc 88, 2) := by decide +kernel
theorem dX2_sign_39 : decode cX2_sign 39 = .ok (.invokespecial 90, 3) := by decide +kernel
theorem dX2_sign_42 : decode cX2_sign 42 = .ok (.athrow, 1) := by decide +kernel
theorem dX2_sign_43 : decode cX2_sign 43 = .ok (.aload_n 0, 1) := by decide +kernel
theorem dX2_sign_44 : decode cX2_sign 44 = .ok (.getfield 25, 3) := by decide +kernel
theorem dX2_sign_47 : decode cX2_sign 47 = .ok (.aload_n 0, 1) := by decide +kernel
theorem dX2_sign_48 : decode cX2_sign 48 = .ok (.getfield 28, 3) := by decide +kernel
theorem dX2_sign_51 : decode cX2_sign 51 = .ok (.iload_n 1, 1) := by decide +kernel
theorem dX2_sign_52 : decode cX2_sign 52 = .ok (.iastore, 1) := by decide +kernel
theorem dX2_sign_53 : decode cX2_sign 53 = .ok (.aload_n 0, 1) := by decide +kernel
theorem dX2_sign_54 : decode cX2_sign 54 = .ok (.dup, 1) := by decide +kernel
theorem dX2_sign_55 : decode cX2_sign 55 = .ok (.getfield 28, 3) := by decide +kernel
theorem dX2_sign_58 : decode cX2_sign 58 = .ok (.iconst 1, 1) := by decide +kernel
theorem dX2_sign_59 : decode cX2_sign 59 = .ok (.iadd, 1) := by decide +kernel
theorem dX2_sign_60 : decode cX2_sign 60 = .ok (.putfield 28, 3) := by decide +kernel
theorem dX2_sign_63 : decode cX2_sign 63 = .ok (.aload_n 0, 1) := by decide +kernel
theorem dX2_sign_64 : decode cX2_sign 64 = .ok (.getfield 28, 3) := by decide +kernel
theorem dX2_sign_67 : decode cX2_sign 67 = .ok (.ireturn, 1) := by decide +kernel
set_option maxRecDepth 20000 in
theorem ggX2_set_X2_requireForm : GoodIn wsX2_set wsX2_requireForm := goodIn_ca (goodIn_r _ [12, 13, 14, 15, 16, 11, 17, 18, 19, 20, 21, 22, 23] (by decide +kernel) (by decide +kernel)) (goodIn_sub (fun _ h => List.mem_cons_of_mem _ (List.mem_append_right _ h)) (by decide +kernel))
set_option maxRecDepth 20000 in
theorem gX2_set_X2_requireForm : GoodIn wsX2_set (va_wsS RX2 91 yX2_requireForm wsX2_requireForm) := goodIn_app (goodIn_of _ (by decide +kernel)) ggX2_set_X2_requireForm
set_option maxRecDepth 20000 in
theorem ggX2_set_J7_copyOf_59c91 : GoodIn wsX2_set wsJ7_copyOf_59c91 := goodIn_r _ [27, 28, 29, 30, 31, 32, 33, 34, 35, 36, 37, 38, 39, 40, 41, 42] (by decide +kernel) (by decide +kernel)
set_option maxRecDepth 20000 in
theorem gX2_set_J7_copyOf_59c91 : GoodIn wsX2_set (va_wsS RX2 97 yJ7_copyOf_59c91 wsJ7_copyOf_59c91) := goodIn_app (goodIn_of _ (by decide +kernel)) ggX2_set_J7_copyOf_59c91
set_option maxRecDepth 20000 in
theorem ggX2_set_X2_placeholdersOf : GoodIn wsX2_set wsX2_placeholdersOf := goodIn_r _ [45, 46, 47, 11, 48] (by decide +kernel) (by decide +kernel)
set_option maxRecDepth 20000 in
theorem gX2_set_X2_placeholdersOf : GoodIn wsX2_set (va_wsS RX2 101 yX2_placeholdersOf wsX2_placeholdersOf) := goodIn_app (goodIn_of _ (by decide +kernel)) ggX2_set_X2_placeholdersOf
set_option maxRecDepth 20000 in
theorem ggX2_set_X0_init : GoodIn wsX2_set wsX0_init := goodIn_r _ [51, 52, 53, 54, 55, 56, 57, 167, 168, 169] (by decide +kernel) (by decide +kernel)
set_option maxRecDepth 20000 in
theorem gX2_set_X0_init : GoodIn wsX2_set (wsX0_init) := ggX2_set_X0_init
set_option maxRecDepth 20000 in
theorem ggX2_set_X2_change : GoodIn wsX2_set wsX2_change := goodIn_r _ [61, 62, 8, 63, 64, 65, 11, 66, 67, 68, 69, 70, 71, 72, 73, 74, 75, 76, 77, 78, 79, 80, 53, 54, 81, 82, 83, 84, 85, 86, 87, 88, 89, 90, 91, 92, 93, 94, 95, 96, 97, 98, 99, 100, 101, 102, 103, 104, 105, 106, 107, 108, 109, 110, 111, 112, 113, 114, 40, 41, 42, 115, 116, 117, 118, 119, 120, 121, 122, 123, 124, 125, 126, 127, 128, 129, 130, 131, 132, 133, 37, 134, 135, 136, 137, 138, 139, 140, 141, 142, 143, 144, 145, 146, 26, 147, 148, 149, 150, 151, 152, 153, 154, 155, 156, 35, 36, 38, 39, 157, 158, 159, 160, 161, 162, 163, 164, 165, 166, 170, 171, 172, 173, 174, 175] (by decide +kernel) (by decide +kernel)
set_option maxRecDepth 20000 in
theorem gX2_set_X2_change : GoodIn wsX2_set (wsV RX2 108 RX2 yX2_change wsX2_change) := goodIn_app (goodIn_of _ (by decide +kernel)) ggX2_set_X2_change
theorem dX2_set_0 : decode cX2_set 0 = .ok (.iload_n 1, 1) := by decide +kernel
theorem dX2_set_1 : decode cX2_set 1 = .ok (.iload_n 2, 1) := by decide +kernel
theorem dX2_set_2 : decode cX2_set 2 = .ok (.iload_n 3, 1) := by decide +kernel
theorem dX2_set_3 : decode cX2_set 3 = .ok (.iload 4, 2) := by decide +kernel
theorem dX2_set_5 : decode cX2_set 5 = .ok (.invokestatic 91, 3) := by decide +kernel
theorem dX2_set_8 : decode cX2_set 8 = .ok (.aload_n 0, 1) := by decide +kernel
theorem dX2_set_9 : decode cX2_set 9 = .ok (.getfield 28, 3) := by decide +kernel
theorem dX2_set_12 : decode cX2_set 12 = .ok (.ifCond .gt 13, 3) := by decide +kernel
theorem dX2_set_15 : decode cX2_set 15 = .ok (.new 86, 3) := by decide +kernel
theorem dX2_set_18 : decode cX2_set 18 = .ok (.dup, 1) := by decide +kernel
theorem dX2_set_19 : decode cX2_set 19 = .ok (.ldc 95, 2) := by decide +kernel
theorem dX2_set_21 : decode cX2_set 21 = .ok (.invokespecial 90, 3) := by decide +kernel
theorem dX2_set_24 : decode cX2_set 24 = .ok (.athrow, 1) := by decide +kernel
theorem dX2_set_25 : decode cX2_set 25 = .ok (.aload_n 0, 1) := by decide +kernel
theorem dX2_set_26 : decode cX2_set 26 = .ok (.getfield 25, 3) := by decide +kernel
theorem dX2_set_29 : decode cX2_set 29 = .ok (.aload_n 0, 1) := by decide +kernel
theorem dX2_set_30 : decode cX2_set 30 = .ok (.getfield 28, 3) := by decide +kernel
theorem dX2_set_33 : decode cX2_set 33 = .ok (.invokestatic 97, 3) := by decide +kernel
theorem dX2_set_36 : decode cX2_set 36 = .ok (.astore 6, 2) := by decide +kernel
theorem dX2_set_38 : decode cX2_set 38 = .ok (.aload_n 0, 1) := by decide +kernel
theorem dX2_set_39 : decode cX2_set 39 = .ok (.iconst 0, 1) := by decide +kernel
theorem dX2_set_40 : decode cX2_set 40 = .ok (.putfield 28, 3) := by decide +kernel
theorem dX2_set_43 : decode cX2_set 43 = .ok (.aload_n 0, 1) := by decide +kernel
theorem dX2_set_44 : decode cX2_set 44 = .ok (.iload_n 1, 1) := by decide +kernel
theorem dX2_set_45 : decode cX2_set 45 = .ok (.iload_n 2, 1) := by decide +kernel
theorem dX2_set_46 : decode cX2_set 46 = .ok (.iload_n 3, 1) := by decide +kernel
theorem dX2_set_47 : decode cX2_set 47 = .ok (.iload 4, 2) := by decide +kernel
theorem dX2_set_49 : decode cX2_set 49 = .ok (.new 32, 3) := by decide +kernel
theorem dX2_set_52 : decode cX2_set 52 = .ok (.dup, 1) := by decide +kernel
theorem dX2_set_53 : decode cX2_set 53 = .ok (.aload 6, 2) := by decide +kernel
theorem dX2_set_55 : decode cX2_set 55 = .ok (.iload 5, 2) := by decide +kernel
theorem dX2_set_57 : decode cX2_set 57 = .ok (.aload 6, 2) := by decide +kernel
theorem dX2_set_59 : decode cX2_set 59 = .ok (.invokestatic 101, 3) := by decide +kernel
theorem dX2_set_62 : decode cX2_set 62 = .ok (.invokespecial 105, 3) := by decide +kernel
theorem dX2_set_65 : decode cX2_set 65 = .ok (.invokevirtual 108, 3) := by decide +kernel
theorem dX2_set_68 : decode cX2_set 68 = .ok (.aload_n 0, 1) := by decide +kernel
theorem dX2_set_69 : decode cX2_set 69 = .ok (.getfield 38, 3) := by decide +kernel
theorem dX2_set_72 : decode cX2_set 72 = .ok (.iload_n 1, 1) := by decide +kernel
theorem dX2_set_73 : decode cX2_set 73 = .ok (.iaload, 1) := by decide +kernel
theorem dX2_set_74 : decode cX2_set 74 = .ok (.ireturn, 1) := by decide +kernel
set_option maxRecDepth 20000 in
theorem ggX2_remove_X2_requireForm : GoodIn wsX2_remove wsX2_requireForm := goodIn_ca (goodIn_r _ [8, 9, 10, 11, 12, 7, 13, 14, 15, 16, 17, 18, 19] (by decide +kernel) (by decide +kernel)) (goodIn_sub (fun _ h => List.mem_cons_of_mem _ (List.mem_append_right _ h)) (by decide +kernel))
set_option maxRecDepth 20000 in
theorem gX2_remove_X2_requireForm : GoodIn wsX2_remove (va_wsS RX2 91 yX2_requireForm wsX2_requireForm) := goodIn_app (goodIn_of _ (by decide +kernel)) ggX2_remove_X2_requireForm
set_option maxRecDepth 20000 in
theorem ggX2_remove_X2_slotOf : GoodIn wsX2_remove wsX2_slotOf := goodIn_r _ [22, 23, 24, 7, 25] (by decide +kernel) (by decide +kernel)
set_option maxRecDepth 20000 in
theorem gX2_remove_X2_slotOf : GoodIn wsX2_remove (va_wsS RX2 112 yX2_slotOf wsX2_slotOf) := goodIn_app (goodIn_of _ (by decide +kernel)) ggX2_remove_X2_slotOf
set_option maxRecDepth 20000 in
theorem ggX2_remove_X2_change : GoodIn wsX2_remove wsX2_change := goodIn_r _ [29, 3, 30, 31, 20, 21, 7, 22, 23, 24, 25, 32, 33, 34, 35, 36, 37, 38, 39, 40, 41, 42, 43, 44, 45, 46, 47, 48, 49, 50, 51, 52, 53, 54, 55, 56, 57, 58, 59, 60, 61, 62, 63, 64, 65, 66, 67, 68, 69, 70, 71, 72, 73, 74, 75, 76, 77, 78, 79, 80, 81, 82, 83, 84, 85, 86, 87, 88, 89, 90, 91, 92, 93, 94, 95, 96, 97, 98, 99, 100, 101, 102, 103, 104, 105, 106, 107, 108, 109, 110, 111, 112, 113, 114, 115, 116, 117, 118, 119, 120, 121, 122, 123, 124, 125, 126, 127, 128, 129, 130, 131, 132, 133, 134, 135, 136, 137, 138, 139, 143, 144, 145, 146, 147, 148] (by decide +kernel) (by decide +kernel)
set_option maxRecDepth 20000 in
theorem gX2_remove_X2_change : GoodIn wsX2_remove (wsV RX2 108 RX2 yX2_change wsX2_change) := goodIn_app (goodIn_of _ (by decide +kernel)) ggX2_remove_X2_change
theorem dX2_remove_0 : decode cX2_remove 0 = .ok (.iload_n 1, 1) := by decide +kernel
theorem dX2_remove_1 : decode cX2_remove 1 = .ok (.iload_n 2, 1) := by decide +kernel
theorem dX2_remove_2 : decode cX2_remove 2 = .ok (.iload_n 3, 1) := by decide +kernel
theorem dX2_remove_3 : decode cX2_remove 3 = .ok (.iload 4, 2) := by decide +kernel
theorem dX2_remove_5 : decode cX2_remove 5 = .ok (.invokestatic 91, 3) := by decide +kernel
theorem dX2_remove_8 : decode cX2_remove 8 = .ok (.aload_n 0, 1) := by decide +kernel
theorem dX2_remove_9 : decode cX2_remove 9 = .ok (.getfield 34, 3) := by decide +kernel
theorem dX2_remove_12 : decode cX2_remove 12 = .ok (.iload_n 1, 1) := by decide +kernel
theorem dX2_remove_13 : decode cX2_remove 13 = .ok (.iload_n 2, 1) := by decide +kernel
theorem dX2_remove_14 : decode cX2_remove 14 = .ok (.iload_n 3, 1) := by decide +kernel
theorem dX2_remove_15 : decode cX2_remove 15 = .ok (.iload 4, 2) := by decide +kernel
theorem dX2_remove_17 : decode cX2_remove 17 = .ok (.invokestatic 112, 3) := by decide +kernel
theorem dX2_remove_20 : decode cX2_remove 20 = .ok (.aaload, 1) := by decide +kernel
theorem dX2_remove_21 : decode cX2_remove 21 = .ok (.astore 5, 2) := by decide +kernel
theorem dX2_remove_23 : decode cX2_remove 23 = .ok (.aload 5, 2) := by decide +kernel
theorem dX2_remove_25 : decode cX2_remove 25 = .ok (.ifnonnull 13, 3) := by decide +kernel
theorem dX2_remove_28 : decode cX2_remove 28 = .ok (.new 86, 3) := by decide +kernel
theorem dX2_remove_31 : decode cX2_remove 31 = .ok (.dup, 1) := by decide +kernel
theorem dX2_remove_32 : decode cX2_remove 32 = .ok (.ldc 116, 2) := by decide +kernel
theorem dX2_remove_34 : decode cX2_remove 34 = .ok (.invokespecial 90, 3) := by decide +kernel
theorem dX2_remove_37 : decode cX2_remove 37 = .ok (.athrow, 1) := by decide +kernel
theorem dX2_remove_38 : decode cX2_remove 38 = .ok (.aload_n 0, 1) := by decide +kernel
theorem dX2_remove_39 : decode cX2_remove 39 = .ok (.iload_n 1, 1) := by decide +kernel
theorem dX2_remove_40 : decode cX2_remove 40 = .ok (.iload_n 2, 1) := by decide +kernel
theorem dX2_remove_41 : decode cX2_remove 41 = .ok (.iload_n 3, 1) := by decide +kernel
theorem dX2_remove_42 : decode cX2_remove 42 = .ok (.iload 4, 2) := by decide +kernel
theorem dX2_remove_44 : decode cX2_remove 44 = .ok (.aconst_null, 1) := by decide +kernel
theorem dX2_remove_45 : decode cX2_remove 45 = .ok (.invokevirtual 108, 3) := by decide +kernel
theorem dX2_remove_48 : decode cX2_remove 48 = .ok (.aload 5, 2) := by decide +kernel
theorem dX2_remove_50 : decode cX2_remove 50 = .ok (.getfield 118, 3) := by decide +kernel
theorem dX2_remove_53 : decode cX2_remove 53 = .ok (.arraylength, 1) := by decide +kernel
theorem dX2_remove_54 : decode cX2_remove 54 = .ok (.ireturn, 1) := by decide +kernel
theorem dX2_draft_0 : decode cX2_draft 0 = .ok (.aload_n 0, 1) := by decide +kernel
theorem dX2_draft_1 : decode cX2_draft 1 = .ok (.getfield 28, 3) := by decide +kernel
theorem dX2_draft_4 : decode cX2_draft 4 = .ok (.ireturn, 1) := by decide +kernel
set_option maxRecDepth 20000 in
theorem ggX2_kindOf_X2_requireLanguage : GoodIn wsX2_kindOf wsX2_requireLanguage := goodIn_ca (goodIn_r _ [4, 5, 6] (by decide +kernel) (by decide +kernel)) (goodIn_sub (fun _ h => List.mem_cons_of_mem _ (List.mem_append_left _ (List.mem_append_right _ h))) (by decide +kernel))
set_option maxRecDepth 20000 in
theorem gX2_kindOf_X2_requireLanguage : GoodIn wsX2_kindOf (va_wsS RX2 54 yX2_requireLanguage wsX2_requireLanguage) := goodIn_app (goodIn_of _ (by decide +kernel)) ggX2_kindOf_X2_requireLanguage
set_option maxRecDepth 20000 in
theorem ggX2_kindOf_X2_requireNumber : GoodIn wsX2_kindOf wsX2_requireNumber := goodIn_ca (goodIn_r _ [9, 10, 11] (by decide +kernel) (by decide +kernel)) (goodIn_sub (fun _ h => List.mem_cons_of_mem _ (List.mem_append_right _ h)) (by decide +kernel))
set_option maxRecDepth 20000 in
theorem gX2_kindOf_X2_requireNumber : GoodIn wsX2_kindOf (va_wsS RX2 121 yX2_requireNumber wsX2_requireNumber) := goodIn_app (goodIn_of _ (by decide +kernel)) ggX2_kindOf_X2_requireNumber
set_option maxRecDepth 20000 in
theorem ggX2_kindOf_X2_classOf : GoodIn wsX2_kindOf wsX2_classOf := goodIn_r _ [15, 16, 17, 18, 19, 20, 21, 22, 23, 24, 25, 26, 27] (by decide +kernel) (by decide +kernel)
set_option maxRecDepth 20000 in
theorem gX2_kindOf_X2_classOf : GoodIn wsX2_kindOf (wsV RX2 124 RX2 yX2_classOf wsX2_classOf) := goodIn_app (goodIn_of _ (by decide +kernel)) ggX2_kindOf_X2_classOf
theorem dX2_kindOf_0 : decode cX2_kindOf 0 = .ok (.iload_n 1, 1) := by decide +kernel
theorem dX2_kindOf_1 : decode cX2_kindOf 1 = .ok (.invokestatic 54, 3) := by decide +kernel
theorem dX2_kindOf_4 : decode cX2_kindOf 4 = .ok (.iload_n 2, 1) := by decide +kernel
theorem dX2_kindOf_5 : decode cX2_kindOf 5 = .ok (.invokestatic 121, 3) := by decide +kernel
theorem dX2_kindOf_8 : decode cX2_kindOf 8 = .ok (.aload_n 0, 1) := by decide +kernel
theorem dX2_kindOf_9 : decode cX2_kindOf 9 = .ok (.iload_n 1, 1) := by decide +kernel
theorem dX2_kindOf_10 : decode cX2_kindOf 10 = .ok (.iload_n 2, 1) := by decide +kernel
theorem dX2_kindOf_11 : decode cX2_kindOf 11 = .ok (.invokevirtual 124, 3) := by decide +kernel
theorem dX2_kindOf_14 : decode cX2_kindOf 14 = .ok (.ireturn, 1) := by decide +kernel
set_option maxRecDepth 20000 in
theorem ggX2_forms_X2_requireKey : GoodIn wsX2_forms wsX2_requireKey := goodIn_ca (goodIn_r _ [4, 5, 6] (by decide +kernel) (by decide +kernel)) (goodIn_sub (fun _ h => List.mem_cons_of_mem _ (List.mem_append_right _ h)) (by decide +kernel))
set_option maxRecDepth 20000 in
theorem gX2_forms_X2_requireKey : GoodIn wsX2_forms (va_wsS RX2 127 yX2_requireKey wsX2_requireKey) := goodIn_app (goodIn_of _ (by decide +kernel)) ggX2_forms_X2_requireKey
set_option maxRecDepth 20000 in
theorem ggX2_forms_X2_requireLanguage : GoodIn wsX2_forms wsX2_requireLanguage := goodIn_ca (goodIn_r _ [9, 5, 6] (by decide +kernel) (by decide +kernel)) (goodIn_sub (fun _ h => List.mem_cons_of_mem _ (List.mem_append_right _ h)) (by decide +kernel))
set_option maxRecDepth 20000 in
theorem gX2_forms_X2_requireLanguage : GoodIn wsX2_forms (va_wsS RX2 54 yX2_requireLanguage wsX2_requireLanguage) := goodIn_app (goodIn_of _ (by decide +kernel)) ggX2_forms_X2_requireLanguage
set_option maxRecDepth 20000 in
theorem ggX2_forms_X2_countForms : GoodIn wsX2_forms wsX2_countForms := goodIn_r _ [13, 14, 15, 16, 3, 17, 18, 19, 20, 21, 22, 23, 24, 25, 26, 27, 28, 29, 30] (by decide +kernel) (by decide +kernel)
set_option maxRecDepth 20000 in
theorem gX2_forms_X2_countForms : GoodIn wsX2_forms (wsV RX2 130 RX2 yX2_countForms wsX2_countForms) := goodIn_app (goodIn_of _ (by decide +kernel)) ggX2_forms_X2_countForms
theorem dX2_forms_0 : decode cX2_forms 0 = .ok (.iload_n 1, 1) := by decide +kernel
theorem dX2_forms_1 : decode cX2_forms 1 = .ok (.invokestatic 127, 3) := by decide +kernel
theorem dX2_forms_4 : decode cX2_forms 4 = .ok (.iload_n 2, 1) := by decide +kernel
theorem dX2_forms_5 : decode cX2_forms 5 = .ok (.invokestatic 54, 3) := by decide +kernel
theorem dX2_forms_8 : decode cX2_forms 8 = .ok (.aload_n 0, 1) := by decide +kernel
theorem dX2_forms_9 : decode cX2_forms 9 = .ok (.iload_n 1, 1) := by decide +kernel
theorem dX2_forms_10 : decode cX2_forms 10 = .ok (.iload_n 2, 1) := by decide +kernel
theorem dX2_forms_11 : decode cX2_forms 11 = .ok (.invokevirtual 130, 3) := by decide +kernel
theorem dX2_forms_14 : decode cX2_forms 14 = .ok (.ireturn, 1) := by decide +kernel
set_option maxRecDepth 20000 in
theorem ggX2_version_X2_requireKey : GoodIn wsX2_version wsX2_requireKey := goodIn_ca (goodIn_r _ [5, 6, 7] (by decide +kernel) (by decide +kernel)) (goodIn_sub (fun _ h => List.mem_cons_of_mem _ (List.mem_append_right _ h)) (by decide +kernel))
set_option maxRecDepth 20000 in
theorem gX2_version_X2_requireKey : GoodIn wsX2_version (va_wsS RX2 127 yX2_requireKey wsX2_requireKey) := goodIn_app (goodIn_of _ (by decide +kernel)) ggX2_version_X2_requireKey
theorem dX2_version_0 : decode cX2_version 0 = .ok (.iload_n 1, 1) := by decide +kernel
theorem dX2_version_1 : decode cX2_version 1 = .ok (.invokestatic 127, 3) := by decide +kernel
theorem dX2_version_4 : decode cX2_version 4 = .ok (.aload_n 0, 1) := by decide +kernel
theorem dX2_version_5 : decode cX2_version 5 = .ok (.getfield 38, 3) := by decide +kernel
theorem dX2_version_8 : decode cX2_version 8 = .ok (.iload_n 1, 1) := by decide +kernel
theorem dX2_version_9 : decode cX2_version 9 = .ok (.iaload, 1) := by decide +kernel
theorem dX2_version_10 : decode cX2_version 10 = .ok (.ireturn, 1) := by decide +kernel
set_option maxRecDepth 20000 in
theorem ggX2_staleBy_X2_requireKey : GoodIn wsX2_staleBy wsX2_requireKey := goodIn_ca (goodIn_r _ [6, 7, 8] (by decide +kernel) (by decide +kernel)) (goodIn_sub (fun _ h => List.mem_cons_of_mem _ (List.mem_append_right _ h)) (by decide +kernel))
set_option maxRecDepth 20000 in
theorem gX2_staleBy_X2_requireKey : GoodIn wsX2_staleBy (va_wsS RX2 127 yX2_requireKey wsX2_requireKey) := goodIn_app (goodIn_of _ (by decide +kernel)) ggX2_staleBy_X2_requireKey
set_option maxRecDepth 20000 in
theorem ggX2_staleBy_X2_requireLanguage : GoodIn wsX2_staleBy wsX2_requireLanguage := goodIn_ca (goodIn_r _ [11, 7, 8] (by decide +kernel) (by decide +kernel)) (goodIn_sub (fun _ h => List.mem_cons_of_mem _ (List.mem_append_right _ h)) (by decide +kernel))
set_option maxRecDepth 20000 in
theorem gX2_staleBy_X2_requireLanguage : GoodIn wsX2_staleBy (va_wsS RX2 54 yX2_requireLanguage wsX2_requireLanguage) := goodIn_app (goodIn_of _ (by decide +kernel)) ggX2_staleBy_X2_requireLanguage
set_option maxRecDepth 20000 in
theorem ggX2_staleBy_X2_countForms : GoodIn wsX2_staleBy wsX2_countForms := goodIn_r _ [15, 16, 17, 18, 5, 19, 20, 21, 22, 23, 24, 25, 26, 27, 28, 29, 30, 31, 32] (by decide +kernel) (by decide +kernel)
set_option maxRecDepth 20000 in
theorem gX2_staleBy_X2_countForms : GoodIn wsX2_staleBy (wsV RX2 130 RX2 yX2_countForms wsX2_countForms) := goodIn_app (goodIn_of _ (by decide +kernel)) ggX2_staleBy_X2_countForms
set_option maxRecDepth 20000 in
theorem ggX2_staleBy_X2_textOf : GoodIn wsX2_staleBy wsX2_textOf := goodIn_r _ [22] (by decide +kernel) (by decide +kernel)
set_option maxRecDepth 20000 in
theorem gX2_staleBy_X2_textOf : GoodIn wsX2_staleBy (va_wsS RX2 133 yX2_textOf wsX2_textOf) := goodIn_app (goodIn_of _ (by decide +kernel)) ggX2_staleBy_X2_textOf
theorem dX2_staleBy_0 : decode cX2_staleBy 0 = .ok (.iload_n 1, 1) := by decide +kernel
theorem dX2_staleBy_1 : decode cX2_staleBy 1 = .ok (.invokestatic 127, 3) := by decide +kernel
theorem dX2_staleBy_4 : decode cX2_staleBy 4 = .ok (.iload_n 2, 1) := by decide +kernel
theorem dX2_staleBy_5 : decode cX2_staleBy 5 = .ok (.invokestatic 54, 3) := by decide +kernel
theorem dX2_staleBy_8 : decode cX2_staleBy 8 = .ok (.aload_n 0, 1) := by decide +kernel
theorem dX2_staleBy_9 : decode cX2_staleBy 9 = .ok (.iload_n 1, 1) := by decide +kernel
theorem dX2_staleBy_10 : decode cX2_staleBy 10 = .ok (.iload_n 2, 1) := by decide +kernel
theorem dX2_staleBy_11 : decode cX2_staleBy 11 = .ok (.invokevirtual 130, 3) := by decide +kernel
theorem dX2_staleBy_14 : decode cX2_staleBy 14 = .ok (.ifCond .ne 5, 3) := by decide +kernel
theorem dX2_staleBy_17 : decode cX2_staleBy 17 = .ok (.iconst (-1), 1) := by decide +kernel
theorem dX2_staleBy_18 : decode cX2_staleBy 18 = .ok (.ireturn, 1) := by decide +kernel
theorem dX2_staleBy_19 : decode cX2_staleBy 19 = .ok (.iload_n 2, 1) := by decide +kernel
theorem dX2_staleBy_20 : decode cX2_staleBy 20 = .ok (.ifCond .ne 7, 3) := by decide +kernel
theorem dX2_staleBy_23 : decode cX2_staleBy 23 = .ok (.iconst 0, 1) := by decide +kernel
theorem dX2_staleBy_24 : decode cX2_staleBy 24 = .ok (.goto 20, 3) := by decide +kernel
theorem dX2_staleBy_27 : decode cX2_staleBy 27 = .ok (.aload_n 0, 1) := by decide +kernel
theorem dX2_staleBy_28 : decode cX2_staleBy 28 = .ok (.getfield 38, 3) := by decide +kernel
theorem dX2_staleBy_31 : decode cX2_staleBy 31 = .ok (.iload_n 1, 1) := by decide +kernel
theorem dX2_staleBy_32 : decode cX2_staleBy 32 = .ok (.iaload, 1) := by decide +kernel
theorem dX2_staleBy_33 : decode cX2_staleBy 33 = .ok (.aload_n 0, 1) := by decide +kernel
theorem dX2_staleBy_34 : decode cX2_staleBy 34 = .ok (.getfield 41, 3) := by decide +kernel
theorem dX2_staleBy_37 : decode cX2_staleBy 37 = .ok (.iload_n 1, 1) := by decide +kernel
theorem dX2_staleBy_38 : decode cX2_staleBy 38 = .ok (.iload_n 2, 1) := by decide +kernel
theorem dX2_staleBy_39 : decode cX2_staleBy 39 = .ok (.invokestatic 133, 3) := by decide +kernel
theorem dX2_staleBy_42 : decode cX2_staleBy 42 = .ok (.iaload, 1) := by decide +kernel
theorem dX2_staleBy_43 : decode cX2_staleBy 43 = .ok (.isub, 1) := by decide +kernel
theorem dX2_staleBy_44 : decode cX2_staleBy 44 = .ok (.ireturn, 1) := by decide +kernel
set_option maxRecDepth 20000 in
theorem ggX2_missing_X2_requireLanguage : GoodIn wsX2_missing wsX2_requireLanguage := goodIn_ca (goodIn_r _ [4, 5, 6] (by decide +kernel) (by decide +kernel)) (goodIn_sub (fun _ h => List.mem_cons_of_mem _ (List.mem_append_right _ h)) (by decide +kernel))
set_option maxRecDepth 20000 in
theorem gX2_missing_X2_requireLanguage : GoodIn wsX2_missing (va_wsS RX2 54 yX2_requireLanguage wsX2_requireLanguage) := goodIn_app (goodIn_of _ (by decide +kernel)) ggX2_missing_X2_requireLanguage
set_option maxRecDepth 20000 in
theorem ggX2_missing_X2_countForms : GoodIn wsX2_missing wsX2_countForms := goodIn_r _ [10, 11, 12, 13, 3, 14, 15, 16, 17, 18, 19, 20, 21, 22, 23, 24, 25, 26, 27] (by decide +kernel) (by decide +kernel)
set_option maxRecDepth 20000 in
theorem gX2_missing_X2_countForms : GoodIn wsX2_missing (wsV RX2 130 RX2 yX2_countForms wsX2_countForms) := goodIn_app (goodIn_of _ (by decide +kernel)) ggX2_missing_X2_countForms
theorem dX2_missing_0 : decode cX2_missing 0 = .ok (.iload_n 1, 1) := by decide +kernel
theorem dX2_missing_1 : decode cX2_missing 1 = .ok (.invokestatic 54, 3) := by decide +kernel
theorem dX2_missing_4 : decode cX2_missing 4 = .ok (.iconst 0, 1) := by decide +kernel
theorem dX2_missing_5 : decode cX2_missing 5 = .ok (.istore_n 2, 1) := by decide +kernel
theorem dX2_missing_6 : decode cX2_missing 6 = .ok (.iconst 0, 1) := by decide +kernel
theorem dX2_missing_7 : decode cX2_missing 7 = .ok (.istore_n 3, 1) := by decide +kernel
theorem dX2_missing_8 : decode cX2_missing 8 = .ok (.iload_n 3, 1) := by decide +kernel
theorem dX2_missing_9 : decode cX2_missing 9 = .ok (.bipush 10, 2) := by decide +kernel
theorem dX2_missing_11 : decode cX2_missing 11 = .ok (.if_icmp .ge 30, 3) := by decide +kernel
theorem dX2_missing_14 : decode cX2_missing 14 = .ok (.aload_n 0, 1) := by decide +kernel
theorem dX2_missing_15 : decode cX2_missing 15 = .ok (.iload_n 3, 1) := by decide +kernel
theorem dX2_missing_16 : decode cX2_missing 16 = .ok (.iconst 0, 1) := by decide +kernel
theorem dX2_missing_17 : decode cX2_missing 17 = .ok (.invokevirtual 130, 3) := by decide +kernel
theorem dX2_missing_20 : decode cX2_missing 20 = .ok (.ifCond .le 15, 3) := by decide +kernel
theorem dX2_missing_23 : decode cX2_missing 23 = .ok (.aload_n 0, 1) := by decide +kernel
theorem dX2_missing_24 : decode cX2_missing 24 = .ok (.iload_n 3, 1) := by decide +kernel
theorem dX2_missing_25 : decode cX2_missing 25 = .ok (.iload_n 1, 1) := by decide +kernel
theorem dX2_missing_26 : decode cX2_missing 26 = .ok (.invokevirtual 130, 3) := by decide +kernel
theorem dX2_missing_29 : decode cX2_missing 29 = .ok (.ifCond .ne 6, 3) := by decide +kernel
theorem dX2_missing_32 : decode cX2_missing 32 = .ok (.iinc 2 1, 3) := by decide +kernel
theorem dX2_missing_35 : decode cX2_missing 35 = .ok (.iinc 3 1, 3) := by decide +kernel
theorem dX2_missing_38 : decode cX2_missing 38 = .ok (.goto (-30), 3) := by decide +kernel
theorem dX2_missing_41 : decode cX2_missing 41 = .ok (.iload_n 2, 1) := by decide +kernel
theorem dX2_missing_42 : decode cX2_missing 42 = .ok (.ireturn, 1) := by decide +kernel
set_option maxRecDepth 20000 in
theorem ggX2_fits_X2_requireForm : GoodIn wsX2_fits wsX2_requireForm := goodIn_ca (goodIn_r _ [5, 6, 7, 8, 9, 4, 10, 11, 12, 13, 14, 15, 16] (by decide +kernel) (by decide +kernel)) (goodIn_sub (fun _ h => List.mem_cons_of_mem _ (List.mem_append_right _ h)) (by decide +kernel))
set_option maxRecDepth 20000 in
theorem gX2_fits_X2_requireForm : GoodIn wsX2_fits (va_wsS RX2 91 yX2_requireForm wsX2_requireForm) := goodIn_app (goodIn_of _ (by decide +kernel)) ggX2_fits_X2_requireForm
set_option maxRecDepth 20000 in
theorem ggX2_fits_X2_slotOf : GoodIn wsX2_fits wsX2_slotOf := goodIn_r _ [19, 20, 21, 4, 22] (by decide +kernel) (by decide +kernel)
set_option maxRecDepth 20000 in
theorem gX2_fits_X2_slotOf : GoodIn wsX2_fits (va_wsS RX2 112 yX2_slotOf wsX2_slotOf) := goodIn_app (goodIn_of _ (by decide +kernel)) ggX2_fits_X2_slotOf
set_option maxRecDepth 20000 in
theorem ggX2_fits_X2_isFitting : GoodIn wsX2_fits wsX2_isFitting := goodIn_r _ [26, 27, 28, 29, 30, 31, 4, 32, 1, 17, 18, 19, 20, 21, 22, 43, 44, 45, 33, 34, 35, 36, 37, 38, 39, 40, 41, 42] (by decide +kernel) (by decide +kernel)
set_option maxRecDepth 20000 in
theorem gX2_fits_X2_isFitting : GoodIn wsX2_fits (wsV RX2 136 RX2 yX2_isFitting wsX2_isFitting) := goodIn_app (goodIn_of _ (by decide +kernel)) ggX2_fits_X2_isFitting
theorem dX2_fits_0 : decode cX2_fits 0 = .ok (.iload_n 1, 1) := by decide +kernel
theorem dX2_fits_1 : decode cX2_fits 1 = .ok (.iload_n 2, 1) := by decide +kernel
theorem dX2_fits_2 : decode cX2_fits 2 = .ok (.iload_n 3, 1) := by decide +kernel
theorem dX2_fits_3 : decode cX2_fits 3 = .ok (.iload 4, 2) := by decide +kernel
theorem dX2_fits_5 : decode cX2_fits 5 = .ok (.invokestatic 91, 3) := by decide +kernel
theorem dX2_fits_8 : decode cX2_fits 8 = .ok (.aload_n 0, 1) := by decide +kernel
theorem dX2_fits_9 : decode cX2_fits 9 = .ok (.iload_n 1, 1) := by decide +kernel
theorem dX2_fits_10 : decode cX2_fits 10 = .ok (.aload_n 0, 1) := by decide +kernel
theorem dX2_fits_11 : decode cX2_fits 11 = .ok (.getfield 34, 3) := by decide +kernel
theorem dX2_fits_14 : decode cX2_fits 14 = .ok (.iload_n 1, 1) := by decide +kernel
theorem dX2_fits_15 : decode cX2_fits 15 = .ok (.iload_n 2, 1) := by decide +kernel
theorem dX2_fits_16 : decode cX2_fits 16 = .ok (.iload_n 3, 1) := by decide +kernel
theorem dX2_fits_17 : decode cX2_fits 17 = .ok (.iload 4, 2) := by decide +kernel
theorem dX2_fits_19 : decode cX2_fits 19 = .ok (.invokestatic 112, 3) := by decide +kernel
theorem dX2_fits_22 : decode cX2_fits 22 = .ok (.aaload, 1) := by decide +kernel
theorem dX2_fits_23 : decode cX2_fits 23 = .ok (.invokevirtual 136, 3) := by decide +kernel
theorem dX2_fits_26 : decode cX2_fits 26 = .ok (.ireturn, 1) := by decide +kernel
set_option maxRecDepth 20000 in
theorem ggX2_toldBy_X2_requireQuestion : GoodIn wsX2_toldBy wsX2_requireQuestion := goodIn_ca (goodIn_ca (goodIn_r _ [4, 5, 6, 3, 7, 8, 9, 10, 11, 12, 13, 14, 15, 16, 17, 18, 19, 20] (by decide +kernel) (by decide +kernel)) (goodIn_sub (fun _ h => List.mem_cons_of_mem _ (List.mem_append_left _ (List.mem_append_right _ h))) (by decide +kernel))) (goodIn_sub (fun _ h => List.mem_cons_of_mem _ (List.mem_append_right _ h)) (by decide +kernel))
set_option maxRecDepth 20000 in
theorem gX2_toldBy_X2_requireQuestion : GoodIn wsX2_toldBy (va_wsS RX2 140 yX2_requireQuestion wsX2_requireQuestion) := goodIn_app (goodIn_of _ (by decide +kernel)) ggX2_toldBy_X2_requireQuestion
set_option maxRecDepth 20000 in
theorem ggX2_toldBy_X2_findAlongChain : GoodIn wsX2_toldBy wsX2_findAlongChain := goodIn_r _ [24, 25, 26, 27, 28, 3, 29, 30, 31, 32, 33, 34, 35, 36, 37, 38, 39, 40, 41, 42, 43, 44, 45, 46, 47, 48, 49, 50, 51, 52, 53, 54, 55, 56, 60, 61, 62, 63, 64, 65, 66, 67, 68, 69, 70, 71, 72] (by decide +kernel) (by decide +kernel)
set_option maxRecDepth 20000 in
theorem gX2_toldBy_X2_findAlongChain : GoodIn wsX2_toldBy (wsV RX2 143 RX2 yX2_findAlongChain wsX2_findAlongChain) := goodIn_app (goodIn_of _ (by decide +kernel)) ggX2_toldBy_X2_findAlongChain
set_option maxRecDepth 20000 in
theorem ggX2_toldBy_X2_languageOfSlot : GoodIn wsX2_toldBy wsX2_languageOfSlot := goodIn_r _ [59] (by decide +kernel) (by decide +kernel)
set_option maxRecDepth 20000 in
theorem gX2_toldBy_X2_languageOfSlot : GoodIn wsX2_toldBy (va_wsS RX2 146 yX2_languageOfSlot wsX2_languageOfSlot) := goodIn_app (goodIn_of _ (by decide +kernel)) ggX2_toldBy_X2_languageOfSlot
theorem dX2_toldBy_0 : decode cX2_toldBy 0 = .ok (.iload_n 1, 1) := by decide +kernel
theorem dX2_toldBy_1 : decode cX2_toldBy 1 = .ok (.iload_n 2, 1) := by decide +kernel
theorem dX2_toldBy_2 : decode cX2_toldBy 2 = .ok (.iload_n 3, 1) := by decide +kernel
theorem dX2_toldBy_3 : decode cX2_toldBy 3 = .ok (.iload 4, 2) := by decide +kernel
theorem dX2_toldBy_5 : decode cX2_toldBy 5 = .ok (.invokestatic 140, 3) := by decide +kernel
theorem dX2_toldBy_8 : decode cX2_toldBy 8 = .ok (.aload_n 0, 1) := by decide +kernel
theorem dX2_toldBy_9 : decode cX2_toldBy 9 = .ok (.iload_n 1, 1) := by decide +kernel
theorem dX2_toldBy_10 : decode cX2_toldBy 10 = .ok (.iload_n 2, 1) := by decide +kernel
theorem dX2_toldBy_11 : decode cX2_toldBy 11 = .ok (.iload_n 3, 1) := by decide +kernel
theorem dX2_toldBy_12 : decode cX2_toldBy 12 = .ok (.iload 4, 2) := by decide +kernel
theorem dX2_toldBy_14 : decode cX2_toldBy 14 = .ok (.invokevirtual 143, 3) := by decide +kernel
theorem dX2_toldBy_17 : decode cX2_toldBy 17 = .ok (.invokestatic 146, 3) := by decide +kernel
theorem dX2_toldBy_20 : decode cX2_toldBy 20 = .ok (.ireturn, 1) := by decide +kernel
set_option maxRecDepth 20000 in
theorem ggX2_toldByLooking_X2_requireQuestion : GoodIn wsX2_toldByLooking wsX2_requireQuestion := goodIn_ca (goodIn_ca (goodIn_r _ [4, 5, 6, 3, 7, 8, 9, 10, 11, 12, 13, 14, 15, 16, 17, 18, 19, 20] (by decide +kernel) (by decide +kernel)) (goodIn_sub (fun _ h => List.mem_cons_of_mem _ (List.mem_append_left _ (List.mem_append_right _ h))) (by decide +kernel))) (goodIn_sub (fun _ h => List.mem_cons_of_mem _ (List.mem_append_right _ h)) (by decide +kernel))
set_option maxRecDepth 20000 in
theorem gX2_toldByLooking_X2_requireQuestion : GoodIn wsX2_toldByLooking (va_wsS RX2 140 yX2_requireQuestion wsX2_requireQuestion) := goodIn_app (goodIn_of _ (by decide +kernel)) ggX2_toldByLooking_X2_requireQuestion
set_option maxRecDepth 20000 in
theorem ggX2_toldByLooking_X2_findByLooking : GoodIn wsX2_toldByLooking wsX2_findByLooking := goodIn_r _ [24, 25, 26, 27, 3, 28, 29, 30, 31, 32, 33, 34, 35, 36, 37, 38, 39, 40, 41, 42, 43, 44, 45, 46, 47, 48, 49, 50, 51, 52, 53, 54, 55, 56, 57, 58, 59, 60, 61, 62, 63, 64, 65, 66, 67, 68, 69, 70, 71, 72, 73, 74, 75] (by decide +kernel) (by decide +kernel)
set_option maxRecDepth 20000 in
theorem gX2_toldByLooking_X2_findByLooking : GoodIn wsX2_toldByLooking (wsV RX2 150 RX2 yX2_findByLooking wsX2_findByLooking) := goodIn_app (goodIn_of _ (by decide +kernel)) ggX2_toldByLooking_X2_findByLooking
set_option maxRecDepth 20000 in
theorem ggX2_toldByLooking_X2_languageOfSlot : GoodIn wsX2_toldByLooking wsX2_languageOfSlot := goodIn_r _ [38] (by decide +kernel) (by decide +kernel)
set_option maxRecDepth 20000 in
theorem gX2_toldByLooking_X2_languageOfSlot : GoodIn wsX2_toldByLooking (va_wsS RX2 146 yX2_languageOfSlot wsX2_languageOfSlot) := goodIn_app (goodIn_of _ (by decide +kernel)) ggX2_toldByLooking_X2_languageOfSlot
theorem dX2_toldByLooking_0 : decode cX2_toldByLooking 0 = .ok (.iload_n 1, 1) := by decide +kernel
theorem dX2_toldByLooking_1 : decode cX2_toldByLooking 1 = .ok (.iload_n 2, 1) := by decide +kernel
theorem dX2_toldByLooking_2 : decode cX2_toldByLooking 2 = .ok (.iload_n 3, 1) := by decide +kernel
theorem dX2_toldByLooking_3 : decode cX2_toldByLooking 3 = .ok (.iload 4, 2) := by decide +kernel
theorem dX2_toldByLooking_5 : decode cX2_toldByLooking 5 = .ok (.invokestatic 140, 3) := by decide +kernel
theorem dX2_toldByLooking_8 : decode cX2_toldByLooking 8 = .ok (.aload_n 0, 1) := by decide +kernel
theorem dX2_toldByLooking_9 : decode cX2_toldByLooking 9 = .ok (.iload_n 1, 1) := by decide +kernel
theorem dX2_toldByLooking_10 : decode cX2_toldByLooking 10 = .ok (.iload_n 2, 1) := by decide +kernel
theorem dX2_toldByLooking_11 : decode cX2_toldByLooking 11 = .ok (.iload_n 3, 1) := by decide +kernel
theorem dX2_toldByLooking_12 : decode cX2_toldByLooking 12 = .ok (.iload 4, 2) := by decide +kernel
theorem dX2_toldByLooking_14 : decode cX2_toldByLooking 14 = .ok (.invokevirtual 150, 3) := by decide +kernel
theorem dX2_toldByLooking_17 : decode cX2_toldByLooking 17 = .ok (.invokestatic 146, 3) := by decide +kernel
theorem dX2_toldByLooking_20 : decode cX2_toldByLooking 20 = .ok (.ireturn, 1) := by decide +kernel
set_option maxRecDepth 20000 in
theorem ggX2_toldForm_X2_requireQuestion : GoodIn wsX2_toldForm wsX2_requireQuestion := goodIn_ca (goodIn_ca (goodIn_r _ [4, 5, 6, 3, 7, 8, 9, 10, 11, 12, 13, 14, 15, 16, 17, 18, 19, 20] (by decide +kernel) (by decide +kernel)) (goodIn_sub (fun _ h => List.mem_cons_of_mem _ (List.mem_append_left _ (List.mem_append_right _ h))) (by decide +kernel))) (goodIn_sub (fun _ h => List.mem_cons_of_mem _ (List.mem_append_right _ h)) (by decide +kernel))
set_option maxRecDepth 20000 in
theorem gX2_toldForm_X2_requireQuestion : GoodIn wsX2_toldForm (va_wsS RX2 140 yX2_requireQuestion wsX2_requireQuestion) := goodIn_app (goodIn_of _ (by decide +kernel)) ggX2_toldForm_X2_requireQuestion
set_option maxRecDepth 20000 in
theorem ggX2_toldForm_X2_findAlongChain : GoodIn wsX2_toldForm wsX2_findAlongChain := goodIn_r _ [24, 25, 26, 27, 28, 3, 29, 30, 31, 32, 33, 34, 35, 36, 37, 38, 39, 40, 41, 42, 43, 44, 45, 46, 47, 48, 49, 50, 51, 52, 53, 54, 55, 56, 57, 58, 59, 60, 61, 62, 63, 64, 65, 66, 67, 68, 69] (by decide +kernel) (by decide +kernel)
set_option maxRecDepth 20000 in
theorem gX2_toldForm_X2_findAlongChain : GoodIn wsX2_toldForm (wsV RX2 143 RX2 yX2_findAlongChain wsX2_findAlongChain) := goodIn_app (goodIn_of _ (by decide +kernel)) ggX2_toldForm_X2_findAlongChain
theorem dX2_toldForm_0 : decode cX2_toldForm 0 = .ok (.iload_n 1, 1) := by decide +kernel
theorem dX2_toldForm_1 : decode cX2_toldForm 1 = .ok (.iload_n 2, 1) := by decide +kernel
theorem dX2_toldForm_2 : decode cX2_toldForm 2 = .ok (.iload_n 3, 1) := by decide +kernel
theorem dX2_toldForm_3 : decode cX2_toldForm 3 = .ok (.iload 4, 2) := by decide +kernel
theorem dX2_toldForm_5 : decode cX2_toldForm 5 = .ok (.invokestatic 140, 3) := by decide +kernel
theorem dX2_toldForm_8 : decode cX2_toldForm 8 = .ok (.aload_n 0, 1) := by decide +kernel
theorem dX2_toldForm_9 : decode cX2_toldForm 9 = .ok (.iload_n 1, 1) := by decide +kernel
theorem dX2_toldForm_10 : decode cX2_toldForm 10 = .ok (.iload_n 2, 1) := by decide +kernel
theorem dX2_toldForm_11 : decode cX2_toldForm 11 = .ok (.iload_n 3, 1) := by decide +kernel
theorem dX2_toldForm_12 : decode cX2_toldForm 12 = .ok (.iload 4, 2) := by decide +kernel
theorem dX2_toldForm_14 : decode cX2_toldForm 14 = .ok (.invokevirtual 143, 3) := by decide +kernel
theorem dX2_toldForm_17 : decode cX2_toldForm 17 = .ok (.istore 5, 2) := by decide +kernel
theorem dX2_toldForm_19 : decode cX2_toldForm 19 = .ok (.iload 5, 2) := by decide +kernel
theorem dX2_toldForm_21 : decode cX2_toldForm 21 = .ok (.iconst (-1), 1) := by decide +kernel
theorem dX2_toldForm_22 : decode cX2_toldForm 22 = .ok (.if_icmp .ne 7, 3) := by decide +kernel
theorem dX2_toldForm_25 : decode cX2_toldForm 25 = .ok (.iconst (-1), 1) := by decide +kernel
theorem dX2_toldForm_26 : decode cX2_toldForm 26 = .ok (.goto 8, 3) := by decide +kernel
theorem dX2_toldForm_29 : decode cX2_toldForm 29 = .ok (.iload 5, 2) := by decide +kernel
theorem dX2_toldForm_31 : decode cX2_toldForm 31 = .ok (.bipush 9, 2) := by decide +kernel
theorem dX2_toldForm_33 : decode cX2_toldForm 33 = .ok (.irem, 1) := by decide +kernel
theorem dX2_toldForm_34 : decode cX2_toldForm 34 = .ok (.ireturn, 1) := by decide +kernel
set_option maxRecDepth 20000 in
theorem ggX2_toldSign_X2_requireQuestion : GoodIn wsX2_toldSign wsX2_requireQuestion := goodIn_ca (goodIn_ca (goodIn_r _ [8, 9, 10, 7, 11, 1, 2, 12, 13, 14, 15, 16, 17, 18, 19, 20, 21, 22] (by decide +kernel) (by decide +kernel)) (goodIn_sub (fun _ h => List.mem_cons_of_mem _ (List.mem_append_left _ (List.mem_append_right _ h))) (by decide +kernel))) (goodIn_sub (fun _ h => List.mem_cons_of_mem _ (List.mem_append_right _ h)) (by decide +kernel))
set_option maxRecDepth 20000 in
theorem gX2_toldSign_X2_requireQuestion : GoodIn wsX2_toldSign (va_wsS RX2 140 yX2_requireQuestion wsX2_requireQuestion) := goodIn_app (goodIn_of _ (by decide +kernel)) ggX2_toldSign_X2_requireQuestion
set_option maxRecDepth 20000 in
theorem ggX2_toldSign_X2_findAlongChain : GoodIn wsX2_toldSign wsX2_findAlongChain := goodIn_r _ [26, 27, 28, 29, 30, 7, 31, 32, 33, 34, 35, 36, 37, 38, 39, 40, 41, 3, 42, 43, 44, 45, 46, 47, 48, 49, 50, 51, 52, 53, 54, 55, 56, 57, 58, 59, 60, 61, 62, 63, 64, 65, 66, 67, 68, 69, 70] (by decide +kernel) (by decide +kernel)
set_option maxRecDepth 20000 in
theorem gX2_toldSign_X2_findAlongChain : GoodIn wsX2_toldSign (wsV RX2 143 RX2 yX2_findAlongChain wsX2_findAlongChain) := goodIn_app (goodIn_of _ (by decide +kernel)) ggX2_toldSign_X2_findAlongChain
theorem dX2_toldSign_0 : decode cX2_toldSign 0 = .ok (.iload_n 1, 1) := by decide +kernel
theorem dX2_toldSign_1 : decode cX2_toldSign 1 = .ok (.iload_n 2, 1) := by decide +kernel
theorem dX2_toldSign_2 : decode cX2_toldSign 2 = .ok (.iload_n 3, 1) := by decide +kernel
theorem dX2_toldSign_3 : decode cX2_toldSign 3 = .ok (.iload 4, 2) := by decide +kernel
theorem dX2_toldSign_5 : decode cX2_toldSign 5 = .ok (.invokestatic 140, 3) := by decide +kernel
theorem dX2_toldSign_8 : decode cX2_toldSign 8 = .ok (.aload_n 0, 1) := by decide +kernel
theorem dX2_toldSign_9 : decode cX2_toldSign 9 = .ok (.iload_n 1, 1) := by decide +kernel
theorem dX2_toldSign_10 : decode cX2_toldSign 10 = .ok (.iload_n 2, 1) := by decide +kernel
theorem dX2_toldSign_11 : decode cX2_toldSign 11 = .ok (.iload_n 3, 1) := by decide +kernel
theorem dX2_toldSign_12 : decode cX2_toldSign 12 = .ok (.iload 4, 2) := by decide +kernel
theorem dX2_toldSign_14 : decode cX2_toldSign 14 = .ok (.invokevirtual 143, 3) := by decide +kernel
theorem dX2_toldSign_17 : decode cX2_toldSign 17 = .ok (.istore 6, 2) := by decide +kernel
theorem dX2_toldSign_19 : decode cX2_toldSign 19 = .ok (.iload 6, 2) := by decide +kernel
theorem dX2_toldSign_21 : decode cX2_toldSign 21 = .ok (.iconst (-1), 1) := by decide +kernel
theorem dX2_toldSign_22 : decode cX2_toldSign 22 = .ok (.if_icmp .ne 7, 3) := by decide +kernel
theorem dX2_toldSign_25 : decode cX2_toldSign 25 = .ok (.aconst_null, 1) := by decide +kernel
theorem dX2_toldSign_26 : decode cX2_toldSign 26 = .ok (.goto 10, 3) := by decide +kernel
theorem dX2_toldSign_29 : decode cX2_toldSign 29 = .ok (.aload_n 0, 1) := by decide +kernel
theorem dX2_toldSign_30 : decode cX2_toldSign 30 = .ok (.getfield 34, 3) := by decide +kernel
theorem dX2_toldSign_33 : decode cX2_toldSign 33 = .ok (.iload 6, 2) := by decide +kernel
theorem dX2_toldSign_35 : decode cX2_toldSign 35 = .ok (.aaload, 1) := by decide +kernel
theorem dX2_toldSign_36 : decode cX2_toldSign 36 = .ok (.astore 7, 2) := by decide +kernel
theorem dX2_toldSign_38 : decode cX2_toldSign 38 = .ok (.aload 7, 2) := by decide +kernel
theorem dX2_toldSign_40 : decode cX2_toldSign 40 = .ok (.ifnonnull 13, 3) := by decide +kernel
theorem dX2_toldSign_43 : decode cX2_toldSign 43 = .ok (.new 58, 3) := by decide +kernel
theorem dX2_toldSign_46 : decode cX2_toldSign 46 = .ok (.dup, 1) := by decide +kernel
theorem dX2_toldSign_47 : decode cX2_toldSign 47 = .ok (.ldc 153, 2) := by decide +kernel
theorem dX2_toldSign_49 : decode cX2_toldSign 49 = .ok (.invokespecial 62, 3) := by decide +kernel
theorem dX2_toldSign_52 : decode cX2_toldSign 52 = .ok (.athrow, 1) := by decide +kernel
theorem dX2_toldSign_53 : decode cX2_toldSign 53 = .ok (.iload 5, 2) := by decide +kernel
theorem dX2_toldSign_55 : decode cX2_toldSign 55 = .ok (.ifCond .lt 14, 3) := by decide +kernel
theorem dX2_toldSign_58 : decode cX2_toldSign 58 = .ok (.iload 5, 2) := by decide +kernel
theorem dX2_toldSign_60 : decode cX2_toldSign 60 = .ok (.aload 7, 2) := by decide +kernel
theorem dX2_toldSign_62 : decode cX2_toldSign 62 = .ok (.getfield 118, 3) := by decide +kernel
theorem dX2_toldSign_65 : decode cX2_toldSign 65 = .ok (.arraylength, 1) := by decide +kernel
theorem dX2_toldSign_66 : decode cX2_toldSign 66 = .ok (.if_icmp .lt 13, 3) := by decide +kernel
theorem dX2_toldSign_69 : decode cX2_toldSign 69 = .ok (.new 58, 3) := by decide +kernel
theorem dX2_toldSign_72 : decode cX2_toldSign 72 = .ok (.dup, 1) := by decide +kernel
theorem dX2_toldSign_73 : decode cX2_toldSign 73 = .ok (.ldc 155, 2) := by decide +kernel
theorem dX2_toldSign_75 : decode cX2_toldSign 75 = .ok (.invokespecial 62, 3) := by decide +kernel
theorem dX2_toldSign_78 : decode cX2_toldSign 78 = .ok (.athrow, 1) := by decide +kernel
theorem dX2_toldSign_79 : decode cX2_toldSign 79 = .ok (.aload 7, 2) := by decide +kernel
theorem dX2_toldSign_81 : decode cX2_toldSign 81 = .ok (.getfield 118, 3) := by decide +kernel
theorem dX2_toldSign_84 : decode cX2_toldSign 84 = .ok (.iload 5, 2) := by decide +kernel
theorem dX2_toldSign_86 : decode cX2_toldSign 86 = .ok (.iaload, 1) := by decide +kernel
theorem dX2_toldSign_87 : decode cX2_toldSign 87 = .ok (.ireturn, 1) := by decide +kernel
set_option maxRecDepth 20000 in
theorem ggX2_pairs_Jx4a65c_size_8abf5 : GoodIn wsX2_pairs wsJx4a65c_size_8abf5 := goodIn_r _ [6, 7, 18, 19, 20] (by decide +kernel) (by decide +kernel)
set_option maxRecDepth 20000 in
theorem gX2_pairs_Jx4a65c_size_8abf5 : GoodIn wsX2_pairs (wsV RX2 157 RJx4a65c yJx4a65c_size_8abf5 wsJx4a65c_size_8abf5) := goodIn_app (goodIn_of _ (by decide +kernel)) ggX2_pairs_Jx4a65c_size_8abf5
theorem dX2_pairs_0 : decode cX2_pairs 0 = .ok (.aload_n 0, 1) := by decide +kernel
theorem dX2_pairs_1 : decode cX2_pairs 1 = .ok (.getfield 47, 3) := by decide +kernel
theorem dX2_pairs_4 : decode cX2_pairs 4 = .ok (.invokevirtual 157, 3) := by decide +kernel
theorem dX2_pairs_7 : decode cX2_pairs 7 = .ok (.ireturn, 1) := by decide +kernel
set_option maxRecDepth 20000 in
theorem ggX2_nearDistance_X2_requireForm : GoodIn wsX2_nearDistance wsX2_requireForm := goodIn_ca (goodIn_r _ [6, 7, 8, 9, 10, 5, 11, 12, 13, 14, 15, 16, 17] (by decide +kernel) (by decide +kernel)) (goodIn_sub (fun _ h => List.mem_cons_of_mem _ (List.mem_append_right _ h)) (by decide +kernel))
set_option maxRecDepth 20000 in
theorem gX2_nearDistance_X2_requireForm : GoodIn wsX2_nearDistance (va_wsS RX2 91 yX2_requireForm wsX2_requireForm) := goodIn_app (goodIn_of _ (by decide +kernel)) ggX2_nearDistance_X2_requireForm
set_option maxRecDepth 20000 in
theorem ggX2_nearDistance_X2_slotOf : GoodIn wsX2_nearDistance wsX2_slotOf := goodIn_r _ [20, 21, 22, 5, 23] (by decide +kernel) (by decide +kernel)
set_option maxRecDepth 20000 in
theorem gX2_nearDistance_X2_slotOf : GoodIn wsX2_nearDistance (va_wsS RX2 112 yX2_slotOf wsX2_slotOf) := goodIn_app (goodIn_of _ (by decide +kernel)) ggX2_nearDistance_X2_slotOf
set_option maxRecDepth 20000 in
theorem ggX2_nearDistance_X2_findNear : GoodIn wsX2_nearDistance wsX2_findNear := goodIn_r _ [27, 28, 29, 30, 31, 2, 32, 33, 34, 35, 36, 37, 38, 39, 40, 41, 42, 43, 44, 45, 46, 47, 48, 49, 50, 51, 52, 53, 54, 55, 56, 57, 5, 58, 59, 60, 61, 62, 63, 77, 78, 79, 64, 65, 66, 67, 68, 69, 70, 71, 72, 73, 74, 75, 76, 80, 81, 82] (by decide +kernel) (by decide +kernel)
set_option maxRecDepth 20000 in
theorem gX2_nearDistance_X2_findNear : GoodIn wsX2_nearDistance (wsV RX2 161 RX2 yX2_findNear wsX2_findNear) := goodIn_app (goodIn_of _ (by decide +kernel)) ggX2_nearDistance_X2_findNear
set_option maxRecDepth 20000 in
theorem ggX2_nearDistance_X2_distance : GoodIn wsX2_nearDistance wsX2_distance := goodIn_r _ [58, 28, 59, 60, 61, 62, 63, 77, 78, 79, 64, 65, 66, 67, 68, 69, 70, 71, 72, 73] (by decide +kernel) (by decide +kernel)
set_option maxRecDepth 20000 in
theorem gX2_nearDistance_X2_distance : GoodIn wsX2_nearDistance (wsV RX2 171 RX2 yX2_distance wsX2_distance) := goodIn_app (goodIn_of _ (by decide +kernel)) ggX2_nearDistance_X2_distance
theorem dX2_nearDistance_0 : decode cX2_nearDistance 0 = .ok (.iload_n 1, 1) := by decide +kernel
theorem dX2_nearDistance_1 : decode cX2_nearDistance 1 = .ok (.iload_n 2, 1) := by decide +kernel
theorem dX2_nearDistance_2 : decode cX2_nearDistance 2 = .ok (.iload_n 3, 1) := by decide +kernel
theorem dX2_nearDistance_3 : decode cX2_nearDistance 3 = .ok (.iload 4, 2) := by decide +kernel
theorem dX2_nearDistance_5 : decode cX2_nearDistance 5 = .ok (.invokestatic 91, 3) := by decide +kernel
theorem dX2_nearDistance_8 : decode cX2_nearDistance 8 = .ok (.aload_n 0, 1) := by decide +kernel
theorem dX2_nearDistance_9 : decode cX2_nearDistance 9 = .ok (.getfield 34, 3) := by decide +kernel
theorem dX2_nearDistance_12 : decode cX2_nearDistance 12 = .ok (.iload_n 1, 1) := by decide +kernel
