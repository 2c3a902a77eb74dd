theorem dX2_nearDistance_13 : decode cX2_nearDistance 13 = .ok (.iconst 0, 1) := by decide +kernel
theorem dX2_nearDistance_14 : decode cX2_nearDistance 14 = .ok (.iload_n 3, 1) := by decide +kernel
theorem dX2_nearDistance_15 : decode cX2_nearDistance 15 = .ok (.iload 4, 2) := by decide +kernel
theorem dX2_nearDistance_17 : decode cX2_nearDistance 17 = .ok (.invokestatic 112, 3) := by decide +kernel
theorem dX2_nearDistance_20 : decode cX2_nearDistance 20 = .ok (.aaload, 1) := by decide +kernel
theorem dX2_nearDistance_21 : decode cX2_nearDistance 21 = .ok (.astore 5, 2) := by decide +kernel
theorem dX2_nearDistance_23 : decode cX2_nearDistance 23 = .ok (.aload_n 0, 1) := by decide +kernel
theorem dX2_nearDistance_24 : decode cX2_nearDistance 24 = .ok (.aload 5, 2) := by decide +kernel
theorem dX2_nearDistance_26 : decode cX2_nearDistance 26 = .ok (.iload_n 2, 1) := by decide +kernel
theorem dX2_nearDistance_27 : decode cX2_nearDistance 27 = .ok (.invokevirtual 161, 3) := by decide +kernel
theorem dX2_nearDistance_30 : decode cX2_nearDistance 30 = .ok (.astore 6, 2) := by decide +kernel
theorem dX2_nearDistance_32 : decode cX2_nearDistance 32 = .ok (.aload 5, 2) := by decide +kernel
theorem dX2_nearDistance_34 : decode cX2_nearDistance 34 = .ok (.ifnull 8, 3) := by decide +kernel
theorem dX2_nearDistance_37 : decode cX2_nearDistance 37 = .ok (.aload 6, 2) := by decide +kernel
theorem dX2_nearDistance_39 : decode cX2_nearDistance 39 = .ok (.ifnonnull 7, 3) := by decide +kernel
theorem dX2_nearDistance_42 : decode cX2_nearDistance 42 = .ok (.iconst (-1), 1) := by decide +kernel
theorem dX2_nearDistance_43 : decode cX2_nearDistance 43 = .ok (.goto 14, 3) := by decide +kernel
theorem dX2_nearDistance_46 : decode cX2_nearDistance 46 = .ok (.aload_n 0, 1) := by decide +kernel
theorem dX2_nearDistance_47 : decode cX2_nearDistance 47 = .ok (.aload 6, 2) := by decide +kernel
theorem dX2_nearDistance_49 : decode cX2_nearDistance 49 = .ok (.getfield 165, 3) := by decide +kernel
theorem dX2_nearDistance_52 : decode cX2_nearDistance 52 = .ok (.aload 5, 2) := by decide +kernel
theorem dX2_nearDistance_54 : decode cX2_nearDistance 54 = .ok (.invokevirtual 171, 3) := by decide +kernel
theorem dX2_nearDistance_57 : decode cX2_nearDistance 57 = .ok (.ireturn, 1) := by decide +kernel
set_option maxRecDepth 20000 in
theorem ggX2_nearSign_X2_requireForm : GoodIn wsX2_nearSign wsX2_requireForm := goodIn_ca (goodIn_r _ [9, 1, 2, 10, 11, 8, 12, 13, 14, 15, 16, 17, 18] (by decide +kernel) (by decide +kernel)) (goodIn_sub (fun _ h => List.mem_cons_of_mem _ (List.mem_append_right _ h)) (by decide +kernel))
set_option maxRecDepth 20000 in
theorem gX2_nearSign_X2_requireForm : GoodIn wsX2_nearSign (va_wsS RX2 91 yX2_requireForm wsX2_requireForm) := goodIn_app (goodIn_of _ (by decide +kernel)) ggX2_nearSign_X2_requireForm
set_option maxRecDepth 20000 in
theorem ggX2_nearSign_X2_slotOf : GoodIn wsX2_nearSign wsX2_slotOf := goodIn_r _ [21, 22, 23, 8, 24] (by decide +kernel) (by decide +kernel)
set_option maxRecDepth 20000 in
theorem gX2_nearSign_X2_slotOf : GoodIn wsX2_nearSign (va_wsS RX2 112 yX2_slotOf wsX2_slotOf) := goodIn_app (goodIn_of _ (by decide +kernel)) ggX2_nearSign_X2_slotOf
set_option maxRecDepth 20000 in
theorem ggX2_nearSign_X2_findNear : GoodIn wsX2_nearSign wsX2_findNear := goodIn_r _ [28, 5, 29, 30, 31, 32, 33, 34, 35, 36, 37, 38, 39, 40, 41, 42, 43, 44, 45, 46, 47, 48, 49, 50, 51, 52, 53, 54, 55, 56, 57, 58, 8, 59, 60, 61, 62, 63, 64, 78, 79, 80, 65, 66, 67, 68, 69, 70, 71, 72, 73, 74, 75, 76, 77, 81, 82, 83] (by decide +kernel) (by decide +kernel)
set_option maxRecDepth 20000 in
theorem gX2_nearSign_X2_findNear : GoodIn wsX2_nearSign (wsV RX2 161 RX2 yX2_findNear wsX2_findNear) := goodIn_app (goodIn_of _ (by decide +kernel)) ggX2_nearSign_X2_findNear
theorem dX2_nearSign_0 : decode cX2_nearSign 0 = .ok (.iload_n 1, 1) := by decide +kernel
theorem dX2_nearSign_1 : decode cX2_nearSign 1 = .ok (.iload_n 2, 1) := by decide +kernel
theorem dX2_nearSign_2 : decode cX2_nearSign 2 = .ok (.iload_n 3, 1) := by decide +kernel
theorem dX2_nearSign_3 : decode cX2_nearSign 3 = .ok (.iload 4, 2) := by decide +kernel
theorem dX2_nearSign_5 : decode cX2_nearSign 5 = .ok (.invokestatic 91, 3) := by decide +kernel
theorem dX2_nearSign_8 : decode cX2_nearSign 8 = .ok (.iload 5, 2) := by decide +kernel
theorem dX2_nearSign_10 : decode cX2_nearSign 10 = .ok (.ifCond .ge 13, 3) := by decide +kernel
theorem dX2_nearSign_13 : decode cX2_nearSign 13 = .ok (.new 58, 3) := by decide +kernel
theorem dX2_nearSign_16 : decode cX2_nearSign 16 = .ok (.dup, 1) := by decide +kernel
theorem dX2_nearSign_17 : decode cX2_nearSign 17 = .ok (.ldc 175, 2) := by decide +kernel
theorem dX2_nearSign_19 : decode cX2_nearSign 19 = .ok (.invokespecial 62, 3) := by decide +kernel
theorem dX2_nearSign_22 : decode cX2_nearSign 22 = .ok (.athrow, 1) := by decide +kernel
theorem dX2_nearSign_23 : decode cX2_nearSign 23 = .ok (.aload_n 0, 1) := by decide +kernel
theorem dX2_nearSign_24 : decode cX2_nearSign 24 = .ok (.aload_n 0, 1) := by decide +kernel
theorem dX2_nearSign_25 : decode cX2_nearSign 25 = .ok (.getfield 34, 3) := by decide +kernel
theorem dX2_nearSign_28 : decode cX2_nearSign 28 = .ok (.iload_n 1, 1) := by decide +kernel
theorem dX2_nearSign_29 : decode cX2_nearSign 29 = .ok (.iconst 0, 1) := by decide +kernel
theorem dX2_nearSign_30 : decode cX2_nearSign 30 = .ok (.iload_n 3, 1) := by decide +kernel
theorem dX2_nearSign_31 : decode cX2_nearSign 31 = .ok (.iload 4, 2) := by decide +kernel
theorem dX2_nearSign_33 : decode cX2_nearSign 33 = .ok (.invokestatic 112, 3) := by decide +kernel
theorem dX2_nearSign_36 : decode cX2_nearSign 36 = .ok (.aaload, 1) := by decide +kernel
theorem dX2_nearSign_37 : decode cX2_nearSign 37 = .ok (.iload_n 2, 1) := by decide +kernel
theorem dX2_nearSign_38 : decode cX2_nearSign 38 = .ok (.invokevirtual 161, 3) := by decide +kernel
theorem dX2_nearSign_41 : decode cX2_nearSign 41 = .ok (.astore 6, 2) := by decide +kernel
theorem dX2_nearSign_43 : decode cX2_nearSign 43 = .ok (.aload 6, 2) := by decide +kernel
theorem dX2_nearSign_45 : decode cX2_nearSign 45 = .ok (.ifnull 17, 3) := by decide +kernel
theorem dX2_nearSign_48 : decode cX2_nearSign 48 = .ok (.iload 5, 2) := by decide +kernel
theorem dX2_nearSign_50 : decode cX2_nearSign 50 = .ok (.aload 6, 2) := by decide +kernel
theorem dX2_nearSign_52 : decode cX2_nearSign 52 = .ok (.getfield 177, 3) := by decide +kernel
theorem dX2_nearSign_55 : decode cX2_nearSign 55 = .ok (.getfield 118, 3) := by decide +kernel
theorem dX2_nearSign_58 : decode cX2_nearSign 58 = .ok (.arraylength, 1) := by decide +kernel
theorem dX2_nearSign_59 : decode cX2_nearSign 59 = .ok (.if_icmp .lt 7, 3) := by decide +kernel
theorem dX2_nearSign_62 : decode cX2_nearSign 62 = .ok (.iconst 0, 1) := by decide +kernel
theorem dX2_nearSign_63 : decode cX2_nearSign 63 = .ok (.goto 14, 3) := by decide +kernel
theorem dX2_nearSign_66 : decode cX2_nearSign 66 = .ok (.aload 6, 2) := by decide +kernel
theorem dX2_nearSign_68 : decode cX2_nearSign 68 = .ok (.getfield 177, 3) := by decide +kernel
theorem dX2_nearSign_71 : decode cX2_nearSign 71 = .ok (.getfield 118, 3) := by decide +kernel
theorem dX2_nearSign_74 : decode cX2_nearSign 74 = .ok (.iload 5, 2) := by decide +kernel
theorem dX2_nearSign_76 : decode cX2_nearSign 76 = .ok (.iaload, 1) := by decide +kernel
theorem dX2_nearSign_77 : decode cX2_nearSign 77 = .ok (.ireturn, 1) := by decide +kernel
theorem dX2_requireKey_0 : decode cX2_requireKey 0 = .ok (.iload_n 0, 1) := by decide +kernel
theorem dX2_requireKey_1 : decode cX2_requireKey 1 = .ok (.ifCond .lt 9, 3) := by decide +kernel
theorem dX2_requireKey_4 : decode cX2_requireKey 4 = .ok (.iload_n 0, 1) := by decide +kernel
theorem dX2_requireKey_5 : decode cX2_requireKey 5 = .ok (.bipush 10, 2) := by decide +kernel
theorem dX2_requireKey_7 : decode cX2_requireKey 7 = .ok (.if_icmp .lt 13, 3) := by decide +kernel
theorem dX2_requireKey_10 : decode cX2_requireKey 10 = .ok (.new 58, 3) := by decide +kernel
theorem dX2_requireKey_13 : decode cX2_requireKey 13 = .ok (.dup, 1) := by decide +kernel
theorem dX2_requireKey_14 : decode cX2_requireKey 14 = .ok (.ldc 180, 2) := by decide +kernel
theorem dX2_requireKey_16 : decode cX2_requireKey 16 = .ok (.invokespecial 62, 3) := by decide +kernel
theorem dX2_requireKey_19 : decode cX2_requireKey 19 = .ok (.athrow, 1) := by decide +kernel
theorem dX2_requireKey_20 : decode cX2_requireKey 20 = .ok (.return_, 1) := by decide +kernel
theorem dX2_requireLanguage_0 : decode cX2_requireLanguage 0 = .ok (.iload_n 0, 1) := by decide +kernel
theorem dX2_requireLanguage_1 : decode cX2_requireLanguage 1 = .ok (.ifCond .lt 9, 3) := by decide +kernel
theorem dX2_requireLanguage_4 : decode cX2_requireLanguage 4 = .ok (.iload_n 0, 1) := by decide +kernel
theorem dX2_requireLanguage_5 : decode cX2_requireLanguage 5 = .ok (.bipush 6, 2) := by decide +kernel
theorem dX2_requireLanguage_7 : decode cX2_requireLanguage 7 = .ok (.if_icmp .lt 13, 3) := by decide +kernel
theorem dX2_requireLanguage_10 : decode cX2_requireLanguage 10 = .ok (.new 58, 3) := by decide +kernel
theorem dX2_requireLanguage_13 : decode cX2_requireLanguage 13 = .ok (.dup, 1) := by decide +kernel
theorem dX2_requireLanguage_14 : decode cX2_requireLanguage 14 = .ok (.ldc 182, 2) := by decide +kernel
theorem dX2_requireLanguage_16 : decode cX2_requireLanguage 16 = .ok (.invokespecial 62, 3) := by decide +kernel
theorem dX2_requireLanguage_19 : decode cX2_requireLanguage 19 = .ok (.athrow, 1) := by decide +kernel
theorem dX2_requireLanguage_20 : decode cX2_requireLanguage 20 = .ok (.return_, 1) := by decide +kernel
theorem dX2_requireGender_0 : decode cX2_requireGender 0 = .ok (.iload_n 0, 1) := by decide +kernel
theorem dX2_requireGender_1 : decode cX2_requireGender 1 = .ok (.ifCond .lt 8, 3) := by decide +kernel
theorem dX2_requireGender_4 : decode cX2_requireGender 4 = .ok (.iload_n 0, 1) := by decide +kernel
theorem dX2_requireGender_5 : decode cX2_requireGender 5 = .ok (.iconst 3, 1) := by decide +kernel
theorem dX2_requireGender_6 : decode cX2_requireGender 6 = .ok (.if_icmp .lt 13, 3) := by decide +kernel
theorem dX2_requireGender_9 : decode cX2_requireGender 9 = .ok (.new 58, 3) := by decide +kernel
theorem dX2_requireGender_12 : decode cX2_requireGender 12 = .ok (.dup, 1) := by decide +kernel
theorem dX2_requireGender_13 : decode cX2_requireGender 13 = .ok (.ldc 184, 2) := by decide +kernel
theorem dX2_requireGender_15 : decode cX2_requireGender 15 = .ok (.invokespecial 62, 3) := by decide +kernel
theorem dX2_requireGender_18 : decode cX2_requireGender 18 = .ok (.athrow, 1) := by decide +kernel
theorem dX2_requireGender_19 : decode cX2_requireGender 19 = .ok (.return_, 1) := by decide +kernel
set_option maxRecDepth 20000 in
theorem ggX2_requireForm_X2_requireKey : GoodIn wsX2_requireForm wsX2_requireKey := goodIn_ca (goodIn_r _ [6, 1, 2] (by decide +kernel) (by decide +kernel)) (goodIn_sub (fun _ h => List.mem_cons_of_mem _ (List.mem_append_right _ h)) (by decide +kernel))
set_option maxRecDepth 20000 in
theorem gX2_requireForm_X2_requireKey : GoodIn wsX2_requireForm (va_wsS RX2 127 yX2_requireKey wsX2_requireKey) := goodIn_app (goodIn_of _ (by decide +kernel)) ggX2_requireForm_X2_requireKey
set_option maxRecDepth 20000 in
theorem ggX2_requireForm_X2_requireLanguage : GoodIn wsX2_requireForm wsX2_requireLanguage := goodIn_ca (goodIn_r _ [9, 1, 2] (by decide +kernel) (by decide +kernel)) (goodIn_sub (fun _ h => List.mem_cons_of_mem _ (List.mem_append_right _ h)) (by decide +kernel))
set_option maxRecDepth 20000 in
theorem gX2_requireForm_X2_requireLanguage : GoodIn wsX2_requireForm (va_wsS RX2 54 yX2_requireLanguage wsX2_requireLanguage) := goodIn_app (goodIn_of _ (by decide +kernel)) ggX2_requireForm_X2_requireLanguage
set_option maxRecDepth 20000 in
theorem ggX2_requireForm_X2_requireGender : GoodIn wsX2_requireForm wsX2_requireGender := goodIn_ca (goodIn_r _ [12, 1, 2] (by decide +kernel) (by decide +kernel)) (goodIn_sub (fun _ h => List.mem_cons_of_mem _ (List.mem_append_right _ h)) (by decide +kernel))
set_option maxRecDepth 20000 in
theorem gX2_requireForm_X2_requireGender : GoodIn wsX2_requireForm (va_wsS RX2 188 yX2_requireGender wsX2_requireGender) := goodIn_app (goodIn_of _ (by decide +kernel)) ggX2_requireForm_X2_requireGender
theorem dX2_requireForm_0 : decode cX2_requireForm 0 = .ok (.iload_n 0, 1) := by decide +kernel
theorem dX2_requireForm_1 : decode cX2_requireForm 1 = .ok (.invokestatic 127, 3) := by decide +kernel
theorem dX2_requireForm_4 : decode cX2_requireForm 4 = .ok (.iload_n 1, 1) := by decide +kernel
theorem dX2_requireForm_5 : decode cX2_requireForm 5 = .ok (.invokestatic 54, 3) := by decide +kernel
theorem dX2_requireForm_8 : decode cX2_requireForm 8 = .ok (.iload_n 2, 1) := by decide +kernel
theorem dX2_requireForm_9 : decode cX2_requireForm 9 = .ok (.ifCond .lt 8, 3) := by decide +kernel
theorem dX2_requireForm_12 : decode cX2_requireForm 12 = .ok (.iload_n 2, 1) := by decide +kernel
theorem dX2_requireForm_13 : decode cX2_requireForm 13 = .ok (.iconst 3, 1) := by decide +kernel
theorem dX2_requireForm_14 : decode cX2_requireForm 14 = .ok (.if_icmp .lt 13, 3) := by decide +kernel
theorem dX2_requireForm_17 : decode cX2_requireForm 17 = .ok (.new 58, 3) := by decide +kernel
theorem dX2_requireForm_20 : decode cX2_requireForm 20 = .ok (.dup, 1) := by decide +kernel
theorem dX2_requireForm_21 : decode cX2_requireForm 21 = .ok (.ldc 186, 2) := by decide +kernel
theorem dX2_requireForm_23 : decode cX2_requireForm 23 = .ok (.invokespecial 62, 3) := by decide +kernel
theorem dX2_requireForm_26 : decode cX2_requireForm 26 = .ok (.athrow, 1) := by decide +kernel
theorem dX2_requireForm_27 : decode cX2_requireForm 27 = .ok (.iload_n 3, 1) := by decide +kernel
theorem dX2_requireForm_28 : decode cX2_requireForm 28 = .ok (.invokestatic 188, 3) := by decide +kernel
theorem dX2_requireForm_31 : decode cX2_requireForm 31 = .ok (.return_, 1) := by decide +kernel
theorem dX2_requireNumber_0 : decode cX2_requireNumber 0 = .ok (.iload_n 0, 1) := by decide +kernel
theorem dX2_requireNumber_1 : decode cX2_requireNumber 1 = .ok (.ifCond .ge 13, 3) := by decide +kernel
theorem dX2_requireNumber_4 : decode cX2_requireNumber 4 = .ok (.new 69, 3) := by decide +kernel
theorem dX2_requireNumber_7 : decode cX2_requireNumber 7 = .ok (.dup, 1) := by decide +kernel
theorem dX2_requireNumber_8 : decode cX2_requireNumber 8 = .ok (.ldc 191, 2) := by decide +kernel
theorem dX2_requireNumber_10 : decode cX2_requireNumber 10 = .ok (.invokespecial 73, 3) := by decide +kernel
theorem dX2_requireNumber_13 : decode cX2_requireNumber 13 = .ok (.athrow, 1) := by decide +kernel
theorem dX2_requireNumber_14 : decode cX2_requireNumber 14 = .ok (.return_, 1) := by decide +kernel
theorem dX2_requireNumberLimit_0 : decode cX2_requireNumberLimit 0 = .ok (.iload_n 0, 1) := by decide +kernel
theorem dX2_requireNumberLimit_1 : decode cX2_requireNumberLimit 1 = .ok (.ifCond .lt 9, 3) := by decide +kernel
theorem dX2_requireNumberLimit_4 : decode cX2_requireNumberLimit 4 = .ok (.iload_n 0, 1) := by decide +kernel
theorem dX2_requireNumberLimit_5 : decode cX2_requireNumberLimit 5 = .ok (.bipush 100, 2) := by decide +kernel
theorem dX2_requireNumberLimit_7 : decode cX2_requireNumberLimit 7 = .ok (.if_icmp .le 13, 3) := by decide +kernel
theorem dX2_requireNumberLimit_10 : decode cX2_requireNumberLimit 10 = .ok (.new 69, 3) := by decide +kernel
theorem dX2_requireNumberLimit_13 : decode cX2_requireNumberLimit 13 = .ok (.dup, 1) := by decide +kernel
theorem dX2_requireNumberLimit_14 : decode cX2_requireNumberLimit 14 = .ok (.ldc 193, 2) := by decide +kernel
theorem dX2_requireNumberLimit_16 : decode cX2_requireNumberLimit 16 = .ok (.invokespecial 73, 3) := by decide +kernel
theorem dX2_requireNumberLimit_19 : decode cX2_requireNumberLimit 19 = .ok (.athrow, 1) := by decide +kernel
theorem dX2_requireNumberLimit_20 : decode cX2_requireNumberLimit 20 = .ok (.return_, 1) := by decide +kernel
set_option maxRecDepth 20000 in
theorem ggX2_requireQuestion_X2_requireKey : GoodIn wsX2_requireQuestion wsX2_requireKey := goodIn_ca (goodIn_r _ [4, 5, 6] (by decide +kernel) (by decide +kernel)) (goodIn_sub (fun _ h => List.mem_cons_of_mem _ (List.mem_append_left _ (List.mem_append_right _ h))) (by decide +kernel))
set_option maxRecDepth 20000 in
theorem gX2_requireQuestion_X2_requireKey : GoodIn wsX2_requireQuestion (va_wsS RX2 127 yX2_requireKey wsX2_requireKey) := goodIn_app (goodIn_of _ (by decide +kernel)) ggX2_requireQuestion_X2_requireKey
set_option maxRecDepth 20000 in
theorem ggX2_requireQuestion_X2_requireLanguage : GoodIn wsX2_requireQuestion wsX2_requireLanguage := goodIn_ca (goodIn_r _ [9, 5, 6] (by decide +kernel) (by decide +kernel)) (goodIn_sub (fun _ h => List.mem_cons_of_mem _ (List.mem_append_left _ (List.mem_append_right _ h))) (by decide +kernel))
set_option maxRecDepth 20000 in
theorem gX2_requireQuestion_X2_requireLanguage : GoodIn wsX2_requireQuestion (va_wsS RX2 54 yX2_requireLanguage wsX2_requireLanguage) := goodIn_app (goodIn_of _ (by decide +kernel)) ggX2_requireQuestion_X2_requireLanguage
set_option maxRecDepth 20000 in
theorem ggX2_requireQuestion_X2_requireGender : GoodIn wsX2_requireQuestion wsX2_requireGender := goodIn_ca (goodIn_r _ [12, 5, 6] (by decide +kernel) (by decide +kernel)) (goodIn_sub (fun _ h => List.mem_cons_of_mem _ (List.mem_append_left _ (List.mem_append_right _ h))) (by decide +kernel))
set_option maxRecDepth 20000 in
theorem gX2_requireQuestion_X2_requireGender : GoodIn wsX2_requireQuestion (va_wsS RX2 188 yX2_requireGender wsX2_requireGender) := goodIn_app (goodIn_of _ (by decide +kernel)) ggX2_requireQuestion_X2_requireGender
set_option maxRecDepth 20000 in
theorem ggX2_requireQuestion_X2_requireNumber : GoodIn wsX2_requireQuestion wsX2_requireNumber := goodIn_ca (goodIn_r _ [15, 16, 17] (by decide +kernel) (by decide +kernel)) (goodIn_sub (fun _ h => List.mem_cons_of_mem _ (List.mem_append_right _ h)) (by decide +kernel))
set_option maxRecDepth 20000 in
theorem gX2_requireQuestion_X2_requireNumber : GoodIn wsX2_requireQuestion (va_wsS RX2 121 yX2_requireNumber wsX2_requireNumber) := goodIn_app (goodIn_of _ (by decide +kernel)) ggX2_requireQuestion_X2_requireNumber
theorem dX2_requireQuestion_0 : decode cX2_requireQuestion 0 = .ok (.iload_n 0, 1) := by decide +kernel
theorem dX2_requireQuestion_1 : decode cX2_requireQuestion 1 = .ok (.invokestatic 127, 3) := by decide +kernel
theorem dX2_requireQuestion_4 : decode cX2_requireQuestion 4 = .ok (.iload_n 1, 1) := by decide +kernel
theorem dX2_requireQuestion_5 : decode cX2_requireQuestion 5 = .ok (.invokestatic 54, 3) := by decide +kernel
theorem dX2_requireQuestion_8 : decode cX2_requireQuestion 8 = .ok (.iload_n 3, 1) := by decide +kernel
theorem dX2_requireQuestion_9 : decode cX2_requireQuestion 9 = .ok (.invokestatic 188, 3) := by decide +kernel
theorem dX2_requireQuestion_12 : decode cX2_requireQuestion 12 = .ok (.iload_n 2, 1) := by decide +kernel
theorem dX2_requireQuestion_13 : decode cX2_requireQuestion 13 = .ok (.invokestatic 121, 3) := by decide +kernel
theorem dX2_requireQuestion_16 : decode cX2_requireQuestion 16 = .ok (.return_, 1) := by decide +kernel
theorem dX2_isWord_0 : decode cX2_isWord 0 = .ok (.iload_n 0, 1) := by decide +kernel
theorem dX2_isWord_1 : decode cX2_isWord 1 = .ok (.iconst 1, 1) := by decide +kernel
theorem dX2_isWord_2 : decode cX2_isWord 2 = .ok (.if_icmp .lt 13, 3) := by decide +kernel
theorem dX2_isWord_5 : decode cX2_isWord 5 = .ok (.iload_n 0, 1) := by decide +kernel
theorem dX2_isWord_6 : decode cX2_isWord 6 = .ok (.bipush 99, 2) := by decide +kernel
theorem dX2_isWord_8 : decode cX2_isWord 8 = .ok (.if_icmp .gt 7, 3) := by decide +kernel
theorem dX2_isWord_11 : decode cX2_isWord 11 = .ok (.iconst 1, 1) := by decide +kernel
theorem dX2_isWord_12 : decode cX2_isWord 12 = .ok (.goto 4, 3) := by decide +kernel
theorem dX2_isWord_15 : decode cX2_isWord 15 = .ok (.iconst 0, 1) := by decide +kernel
theorem dX2_isWord_16 : decode cX2_isWord 16 = .ok (.ireturn, 1) := by decide +kernel
theorem dX2_isPlaceholder_0 : decode cX2_isPlaceholder 0 = .ok (.iload_n 0, 1) := by decide +kernel
theorem dX2_isPlaceholder_1 : decode cX2_isPlaceholder 1 = .ok (.bipush 101, 2) := by decide +kernel
theorem dX2_isPlaceholder_3 : decode cX2_isPlaceholder 3 = .ok (.if_icmp .lt 13, 3) := by decide +kernel
theorem dX2_isPlaceholder_6 : decode cX2_isPlaceholder 6 = .ok (.iload_n 0, 1) := by decide +kernel
theorem dX2_isPlaceholder_7 : decode cX2_isPlaceholder 7 = .ok (.bipush 104, 2) := by decide +kernel
theorem dX2_isPlaceholder_9 : decode cX2_isPlaceholder 9 = .ok (.if_icmp .gt 7, 3) := by decide +kernel
theorem dX2_isPlaceholder_12 : decode cX2_isPlaceholder 12 = .ok (.iconst 1, 1) := by decide +kernel
theorem dX2_isPlaceholder_13 : decode cX2_isPlaceholder 13 = .ok (.goto 4, 3) := by decide +kernel
theorem dX2_isPlaceholder_16 : decode cX2_isPlaceholder 16 = .ok (.iconst 0, 1) := by decide +kernel
theorem dX2_isPlaceholder_17 : decode cX2_isPlaceholder 17 = .ok (.ireturn, 1) := by decide +kernel
set_option maxRecDepth 20000 in
theorem ggX2_placeholdersOf_X2_isPlaceholder : GoodIn wsX2_placeholdersOf wsX2_isPlaceholder := goodIn_r _ [4] (by decide +kernel) (by decide +kernel)
set_option maxRecDepth 20000 in
theorem gX2_placeholdersOf_X2_isPlaceholder : GoodIn wsX2_placeholdersOf (va_wsS RX2 81 yX2_isPlaceholder wsX2_isPlaceholder) := goodIn_app (goodIn_of _ (by decide +kernel)) ggX2_placeholdersOf_X2_isPlaceholder
theorem dX2_placeholdersOf_0 : decode cX2_placeholdersOf 0 = .ok (.iconst 0, 1) := by decide +kernel
theorem dX2_placeholdersOf_1 : decode cX2_placeholdersOf 1 = .ok (.istore_n 1, 1) := by decide +kernel
theorem dX2_placeholdersOf_2 : decode cX2_placeholdersOf 2 = .ok (.iconst 0, 1) := by decide +kernel
theorem dX2_placeholdersOf_3 : decode cX2_placeholdersOf 3 = .ok (.istore_n 2, 1) := by decide +kernel
theorem dX2_placeholdersOf_4 : decode cX2_placeholdersOf 4 = .ok (.iload_n 2, 1) := by decide +kernel
theorem dX2_placeholdersOf_5 : decode cX2_placeholdersOf 5 = .ok (.aload_n 0, 1) := by decide +kernel
theorem dX2_placeholdersOf_6 : decode cX2_placeholdersOf 6 = .ok (.arraylength, 1) := by decide +kernel
theorem dX2_placeholdersOf_7 : decode cX2_placeholdersOf 7 = .ok (.if_icmp .ge 29, 3) := by decide +kernel
theorem dX2_placeholdersOf_10 : decode cX2_placeholdersOf 10 = .ok (.aload_n 0, 1) := by decide +kernel
theorem dX2_placeholdersOf_11 : decode cX2_placeholdersOf 11 = .ok (.iload_n 2, 1) := by decide +kernel
theorem dX2_placeholdersOf_12 : decode cX2_placeholdersOf 12 = .ok (.iaload, 1) := by decide +kernel
theorem dX2_placeholdersOf_13 : decode cX2_placeholdersOf 13 = .ok (.invokestatic 81, 3) := by decide +kernel
theorem dX2_placeholdersOf_16 : decode cX2_placeholdersOf 16 = .ok (.ifCond .eq 14, 3) := by decide +kernel
theorem dX2_placeholdersOf_19 : decode cX2_placeholdersOf 19 = .ok (.iload_n 1, 1) := by decide +kernel
theorem dX2_placeholdersOf_20 : decode cX2_placeholdersOf 20 = .ok (.iconst 1, 1) := by decide +kernel
theorem dX2_placeholdersOf_21 : decode cX2_placeholdersOf 21 = .ok (.aload_n 0, 1) := by decide +kernel
theorem dX2_placeholdersOf_22 : decode cX2_placeholdersOf 22 = .ok (.iload_n 2, 1) := by decide +kernel
theorem dX2_placeholdersOf_23 : decode cX2_placeholdersOf 23 = .ok (.iaload, 1) := by decide +kernel
theorem dX2_placeholdersOf_24 : decode cX2_placeholdersOf 24 = .ok (.bipush 101, 2) := by decide +kernel
theorem dX2_placeholdersOf_26 : decode cX2_placeholdersOf 26 = .ok (.isub, 1) := by decide +kernel
theorem dX2_placeholdersOf_27 : decode cX2_placeholdersOf 27 = .ok (.ishl, 1) := by decide +kernel
theorem dX2_placeholdersOf_28 : decode cX2_placeholdersOf 28 = .ok (.ior, 1) := by decide +kernel
theorem dX2_placeholdersOf_29 : decode cX2_placeholdersOf 29 = .ok (.istore_n 1, 1) := by decide +kernel
theorem dX2_placeholdersOf_30 : decode cX2_placeholdersOf 30 = .ok (.iinc 2 1, 3) := by decide +kernel
theorem dX2_placeholdersOf_33 : decode cX2_placeholdersOf 33 = .ok (.goto (-29), 3) := by decide +kernel
theorem dX2_placeholdersOf_36 : decode cX2_placeholdersOf 36 = .ok (.iload_n 1, 1) := by decide +kernel
theorem dX2_placeholdersOf_37 : decode cX2_placeholdersOf 37 = .ok (.ireturn, 1) := by decide +kernel
theorem dX2_textOf_0 : decode cX2_textOf 0 = .ok (.iload_n 0, 1) := by decide +kernel
theorem dX2_textOf_1 : decode cX2_textOf 1 = .ok (.bipush 6, 2) := by decide +kernel
theorem dX2_textOf_3 : decode cX2_textOf 3 = .ok (.imul, 1) := by decide +kernel
theorem dX2_textOf_4 : decode cX2_textOf 4 = .ok (.iload_n 1, 1) := by decide +kernel
theorem dX2_textOf_5 : decode cX2_textOf 5 = .ok (.iadd, 1) := by decide +kernel
theorem dX2_textOf_6 : decode cX2_textOf 6 = .ok (.ireturn, 1) := by decide +kernel
set_option maxRecDepth 20000 in
theorem ggX2_slotOf_X2_textOf : GoodIn wsX2_slotOf wsX2_textOf := goodIn_r _ [4] (by decide +kernel) (by decide +kernel)
set_option maxRecDepth 20000 in
theorem gX2_slotOf_X2_textOf : GoodIn wsX2_slotOf (va_wsS RX2 133 yX2_textOf wsX2_textOf) := goodIn_app (goodIn_of _ (by decide +kernel)) ggX2_slotOf_X2_textOf
theorem dX2_slotOf_0 : decode cX2_slotOf 0 = .ok (.iload_n 0, 1) := by decide +kernel
theorem dX2_slotOf_1 : decode cX2_slotOf 1 = .ok (.iload_n 1, 1) := by decide +kernel
theorem dX2_slotOf_2 : decode cX2_slotOf 2 = .ok (.invokestatic 133, 3) := by decide +kernel
theorem dX2_slotOf_5 : decode cX2_slotOf 5 = .ok (.bipush 9, 2) := by decide +kernel
theorem dX2_slotOf_7 : decode cX2_slotOf 7 = .ok (.imul, 1) := by decide +kernel
theorem dX2_slotOf_8 : decode cX2_slotOf 8 = .ok (.iload_n 2, 1) := by decide +kernel
theorem dX2_slotOf_9 : decode cX2_slotOf 9 = .ok (.iconst 3, 1) := by decide +kernel
theorem dX2_slotOf_10 : decode cX2_slotOf 10 = .ok (.imul, 1) := by decide +kernel
theorem dX2_slotOf_11 : decode cX2_slotOf 11 = .ok (.iadd, 1) := by decide +kernel
theorem dX2_slotOf_12 : decode cX2_slotOf 12 = .ok (.iload_n 3, 1) := by decide +kernel
theorem dX2_slotOf_13 : decode cX2_slotOf 13 = .ok (.iadd, 1) := by decide +kernel
theorem dX2_slotOf_14 : decode cX2_slotOf 14 = .ok (.ireturn, 1) := by decide +kernel
theorem dX2_languageOfSlot_0 : decode cX2_languageOfSlot 0 = .ok (.iload_n 0, 1) := by decide +kernel
theorem dX2_languageOfSlot_1 : decode cX2_languageOfSlot 1 = .ok (.iconst (-1), 1) := by decide +kernel
theorem dX2_languageOfSlot_2 : decode cX2_languageOfSlot 2 = .ok (.if_icmp .ne 7, 3) := by decide +kernel
theorem dX2_languageOfSlot_5 : decode cX2_languageOfSlot 5 = .ok (.iconst (-1), 1) := by decide +kernel
theorem dX2_languageOfSlot_6 : decode cX2_languageOfSlot 6 = .ok (.goto 10, 3) := by decide +kernel
theorem dX2_languageOfSlot_9 : decode cX2_languageOfSlot 9 = .ok (.iload_n 0, 1) := by decide +kernel
theorem dX2_languageOfSlot_10 : decode cX2_languageOfSlot 10 = .ok (.bipush 9, 2) := by decide +kernel
theorem dX2_languageOfSlot_12 : decode cX2_languageOfSlot 12 = .ok (.idiv, 1) := by decide +kernel
theorem dX2_languageOfSlot_13 : decode cX2_languageOfSlot 13 = .ok (.bipush 6, 2) := by decide +kernel
theorem dX2_languageOfSlot_15 : decode cX2_languageOfSlot 15 = .ok (.irem, 1) := by decide +kernel
theorem dX2_languageOfSlot_16 : decode cX2_languageOfSlot 16 = .ok (.ireturn, 1) := by decide +kernel
theorem dX2_chainPlace_0 : decode cX2_chainPlace 0 = .ok (.iload_n 1, 1) := by decide +kernel
theorem dX2_chainPlace_1 : decode cX2_chainPlace 1 = .ok (.istore_n 3, 1) := by decide +kernel
theorem dX2_chainPlace_2 : decode cX2_chainPlace 2 = .ok (.iconst 0, 1) := by decide +kernel
theorem dX2_chainPlace_3 : decode cX2_chainPlace 3 = .ok (.istore 4, 2) := by decide +kernel
theorem dX2_chainPlace_5 : decode cX2_chainPlace 5 = .ok (.iload 4, 2) := by decide +kernel
theorem dX2_chainPlace_7 : decode cX2_chainPlace 7 = .ok (.bipush 6, 2) := by decide +kernel
theorem dX2_chainPlace_9 : decode cX2_chainPlace 9 = .ok (.if_icmp .ge 30, 3) := by decide +kernel
theorem dX2_chainPlace_12 : decode cX2_chainPlace 12 = .ok (.iload_n 3, 1) := by decide +kernel
theorem dX2_chainPlace_13 : decode cX2_chainPlace 13 = .ok (.iload_n 2, 1) := by decide +kernel
theorem dX2_chainPlace_14 : decode cX2_chainPlace 14 = .ok (.if_icmp .ne 6, 3) := by decide +kernel
theorem dX2_chainPlace_17 : decode cX2_chainPlace 17 = .ok (.iload 4, 2) := by decide +kernel
theorem dX2_chainPlace_19 : decode cX2_chainPlace 19 = .ok (.ireturn, 1) := by decide +kernel
theorem dX2_chainPlace_20 : decode cX2_chainPlace 20 = .ok (.iload_n 3, 1) := by decide +kernel
theorem dX2_chainPlace_21 : decode cX2_chainPlace 21 = .ok (.ifCond .ne 5, 3) := by decide +kernel
theorem dX2_chainPlace_24 : decode cX2_chainPlace 24 = .ok (.iconst (-1), 1) := by decide +kernel
theorem dX2_chainPlace_25 : decode cX2_chainPlace 25 = .ok (.ireturn, 1) := by decide +kernel
theorem dX2_chainPlace_26 : decode cX2_chainPlace 26 = .ok (.aload_n 0, 1) := by decide +kernel
theorem dX2_chainPlace_27 : decode cX2_chainPlace 27 = .ok (.getfield 9, 3) := by decide +kernel
theorem dX2_chainPlace_30 : decode cX2_chainPlace 30 = .ok (.iload_n 3, 1) := by decide +kernel
theorem dX2_chainPlace_31 : decode cX2_chainPlace 31 = .ok (.iaload, 1) := by decide +kernel
theorem dX2_chainPlace_32 : decode cX2_chainPlace 32 = .ok (.istore_n 3, 1) := by decide +kernel
theorem dX2_chainPlace_33 : decode cX2_chainPlace 33 = .ok (.iinc 4 1, 3) := by decide +kernel
theorem dX2_chainPlace_36 : decode cX2_chainPlace 36 = .ok (.goto (-31), 3) := by decide +kernel
theorem dX2_chainPlace_39 : decode cX2_chainPlace 39 = .ok (.iconst (-1), 1) := by decide +kernel
theorem dX2_chainPlace_40 : decode cX2_chainPlace 40 = .ok (.ireturn, 1) := by decide +kernel
theorem dX2_classOf_0 : decode cX2_classOf 0 = .ok (.iload_n 2, 1) := by decide +kernel
theorem dX2_classOf_1 : decode cX2_classOf 1 = .ok (.ifCond .ne 5, 3) := by decide +kernel
theorem dX2_classOf_4 : decode cX2_classOf 4 = .ok (.iconst 2, 1) := by decide +kernel
theorem dX2_classOf_5 : decode cX2_classOf 5 = .ok (.ireturn, 1) := by decide +kernel
theorem dX2_classOf_6 : decode cX2_classOf 6 = .ok (.iload_n 2, 1) := by decide +kernel
theorem dX2_classOf_7 : decode cX2_classOf 7 = .ok (.aload_n 0, 1) := by decide +kernel
theorem dX2_classOf_8 : decode cX2_classOf 8 = .ok (.getfield 13, 3) := by decide +kernel
theorem dX2_classOf_11 : decode cX2_classOf 11 = .ok (.iload_n 1, 1) := by decide +kernel
theorem dX2_classOf_12 : decode cX2_classOf 12 = .ok (.iaload, 1) := by decide +kernel
theorem dX2_classOf_13 : decode cX2_classOf 13 = .ok (.if_icmp .gt 5, 3) := by decide +kernel
theorem dX2_classOf_16 : decode cX2_classOf 16 = .ok (.iconst 0, 1) := by decide +kernel
theorem dX2_classOf_17 : decode cX2_classOf 17 = .ok (.ireturn, 1) := by decide +kernel
theorem dX2_classOf_18 : decode cX2_classOf 18 = .ok (.iload_n 2, 1) := by decide +kernel
theorem dX2_classOf_19 : decode cX2_classOf 19 = .ok (.aload_n 0, 1) := by decide +kernel
theorem dX2_classOf_20 : decode cX2_classOf 20 = .ok (.getfield 16, 3) := by decide +kernel
theorem dX2_classOf_23 : decode cX2_classOf 23 = .ok (.iload_n 1, 1) := by decide +kernel
theorem dX2_classOf_24 : decode cX2_classOf 24 = .ok (.iaload, 1) := by decide +kernel
theorem dX2_classOf_25 : decode cX2_classOf 25 = .ok (.if_icmp .gt 7, 3) := by decide +kernel
theorem dX2_classOf_28 : decode cX2_classOf 28 = .ok (.iconst 1, 1) := by decide +kernel
theorem dX2_classOf_29 : decode cX2_classOf 29 = .ok (.goto 4, 3) := by decide +kernel
theorem dX2_classOf_32 : decode cX2_classOf 32 = .ok (.iconst 2, 1) := by decide +kernel
theorem dX2_classOf_33 : decode cX2_classOf 33 = .ok (.ireturn, 1) := by decide +kernel
set_option maxRecDepth 20000 in
theorem ggX2_countForms_X2_slotOf : GoodIn wsX2_countForms wsX2_slotOf := goodIn_r _ [5, 6, 7, 4, 8] (by decide +kernel) (by decide +kernel)
set_option maxRecDepth 20000 in
theorem gX2_countForms_X2_slotOf : GoodIn wsX2_countForms (va_wsS RX2 112 yX2_slotOf wsX2_slotOf) := goodIn_app (goodIn_of _ (by decide +kernel)) ggX2_countForms_X2_slotOf
theorem dX2_countForms_0 : decode cX2_countForms 0 = .ok (.iload_n 1, 1) := by decide +kernel
theorem dX2_countForms_1 : decode cX2_countForms 1 = .ok (.iload_n 2, 1) := by decide +kernel
theorem dX2_countForms_2 : decode cX2_countForms 2 = .ok (.iconst 0, 1) := by decide +kernel
theorem dX2_countForms_3 : decode cX2_countForms 3 = .ok (.iconst 0, 1) := by decide +kernel
theorem dX2_countForms_4 : decode cX2_countForms 4 = .ok (.invokestatic 112, 3) := by decide +kernel
theorem dX2_countForms_7 : decode cX2_countForms 7 = .ok (.istore_n 3, 1) := by decide +kernel
theorem dX2_countForms_8 : decode cX2_countForms 8 = .ok (.iconst 0, 1) := by decide +kernel
theorem dX2_countForms_9 : decode cX2_countForms 9 = .ok (.istore 4, 2) := by decide +kernel
theorem dX2_countForms_11 : decode cX2_countForms 11 = .ok (.iconst 0, 1) := by decide +kernel
theorem dX2_countForms_12 : decode cX2_countForms 12 = .ok (.istore 5, 2) := by decide +kernel
theorem dX2_countForms_14 : decode cX2_countForms 14 = .ok (.iload 5, 2) := by decide +kernel
theorem dX2_countForms_16 : decode cX2_countForms 16 = .ok (.bipush 9, 2) := by decide +kernel
theorem dX2_countForms_18 : decode cX2_countForms 18 = .ok (.if_icmp .ge 24, 3) := by decide +kernel
theorem dX2_countForms_21 : decode cX2_countForms 21 = .ok (.aload_n 0, 1) := by decide +kernel
theorem dX2_countForms_22 : decode cX2_countForms 22 = .ok (.getfield 34, 3) := by decide +kernel
theorem dX2_countForms_25 : decode cX2_countForms 25 = .ok (.iload_n 3, 1) := by decide +kernel
theorem dX2_countForms_26 : decode cX2_countForms 26 = .ok (.iload 5, 2) := by decide +kernel
theorem dX2_countForms_28 : decode cX2_countForms 28 = .ok (.iadd, 1) := by decide +kernel
theorem dX2_countForms_29 : decode cX2_countForms 29 = .ok (.aaload, 1) := by decide +kernel
theorem dX2_countForms_30 : decode cX2_countForms 30 = .ok (.ifnull 6, 3) := by decide +kernel
theorem dX2_countForms_33 : decode cX2_countForms 33 = .ok (.iinc 4 1, 3) := by decide +kernel
theorem dX2_countForms_36 : decode cX2_countForms 36 = .ok (.iinc 5 1, 3) := by decide +kernel
theorem dX2_countForms_39 : decode cX2_countForms 39 = .ok (.goto (-25), 3) := by decide +kernel
theorem dX2_countForms_42 : decode cX2_countForms 42 = .ok (.iload 4, 2) := by decide +kernel
theorem dX2_countForms_44 : decode cX2_countForms 44 = .ok (.ireturn, 1) := by decide +kernel
set_option maxRecDepth 20000 in
theorem ggX2_change_X2_slotOf : GoodIn wsX2_change wsX2_slotOf := goodIn_r _ [7, 8, 9, 6, 10] (by decide +kernel) (by decide +kernel)
set_option maxRecDepth 20000 in
theorem gX2_change_X2_slotOf : GoodIn wsX2_change (va_wsS RX2 112 yX2_slotOf wsX2_slotOf) := goodIn_app (goodIn_of _ (by decide +kernel)) ggX2_change_X2_slotOf
set_option maxRecDepth 20000 in
theorem ggX2_change_X2_keepPairs : GoodIn wsX2_change wsX2_keepPairs := goodIn_r _ [14, 1, 15, 16, 17, 4, 5, 6, 7, 8, 9, 10, 18, 19, 20, 21, 22, 23, 24, 25, 26, 27, 28, 29, 30, 31, 32, 33, 34, 35, 36, 37, 38, 39, 40, 41, 42, 43, 44, 45, 46, 47, 48, 49, 50, 51, 52, 53, 54, 55, 56, 57, 58, 59, 60, 61, 62, 63, 64, 65, 66, 67, 68, 69, 70, 71, 72, 73, 74, 75, 76, 77, 78, 79, 80, 81, 82, 83, 84, 85, 86, 87, 88, 89, 90, 91, 92, 93, 94, 95, 96, 97, 98, 99, 100, 101, 102, 103, 104, 105, 106, 107, 108, 109, 110, 111, 112, 113, 114, 115, 116, 117, 118, 119, 120, 121, 122, 123, 124] (by decide +kernel) (by decide +kernel)
set_option maxRecDepth 20000 in
theorem gX2_change_X2_keepPairs : GoodIn wsX2_change (wsV RX2 195 RX2 yX2_keepPairs wsX2_keepPairs) := goodIn_app (goodIn_of _ (by decide +kernel)) ggX2_change_X2_keepPairs
set_option maxRecDepth 20000 in
theorem ggX2_change_X2_textOf : GoodIn wsX2_change wsX2_textOf := goodIn_r _ [10] (by decide +kernel) (by decide +kernel)
set_option maxRecDepth 20000 in
theorem gX2_change_X2_textOf : GoodIn wsX2_change (va_wsS RX2 133 yX2_textOf wsX2_textOf) := goodIn_app (goodIn_of _ (by decide +kernel)) ggX2_change_X2_textOf
theorem dX2_change_0 : decode cX2_change 0 = .ok (.iload_n 1, 1) := by decide +kernel
theorem dX2_change_1 : decode cX2_change 1 = .ok (.iload_n 2, 1) := by decide +kernel
theorem dX2_change_2 : decode cX2_change 2 = .ok (.iload_n 3, 1) := by decide +kernel
theorem dX2_change_3 : decode cX2_change 3 = .ok (.iload 4, 2) := by decide +kernel
theorem dX2_change_5 : decode cX2_change 5 = .ok (.invokestatic 112, 3) := by decide +kernel
theorem dX2_change_8 : decode cX2_change 8 = .ok (.istore 6, 2) := by decide +kernel
theorem dX2_change_10 : decode cX2_change 10 = .ok (.iload_n 2, 1) := by decide +kernel
theorem dX2_change_11 : decode cX2_change 11 = .ok (.ifCond .ne 31, 3) := by decide +kernel
theorem dX2_change_14 : decode cX2_change 14 = .ok (.aload_n 0, 1) := by decide +kernel
theorem dX2_change_15 : decode cX2_change 15 = .ok (.iload_n 1, 1) := by decide +kernel
theorem dX2_change_16 : decode cX2_change 16 = .ok (.iload_n 3, 1) := by decide +kernel
theorem dX2_change_17 : decode cX2_change 17 = .ok (.iload 4, 2) := by decide +kernel
theorem dX2_change_19 : decode cX2_change 19 = .ok (.aload_n 0, 1) := by decide +kernel
theorem dX2_change_20 : decode cX2_change 20 = .ok (.getfield 34, 3) := by decide +kernel
theorem dX2_change_23 : decode cX2_change 23 = .ok (.iload 6, 2) := by decide +kernel
theorem dX2_change_25 : decode cX2_change 25 = .ok (.aaload, 1) := by decide +kernel
theorem dX2_change_26 : decode cX2_change 26 = .ok (.invokevirtual 195, 3) := by decide +kernel
theorem dX2_change_29 : decode cX2_change 29 = .ok (.aload_n 0, 1) := by decide +kernel
theorem dX2_change_30 : decode cX2_change 30 = .ok (.getfield 38, 3) := by decide +kernel
theorem dX2_change_33 : decode cX2_change 33 = .ok (.iload_n 1, 1) := by decide +kernel
theorem dX2_change_34 : decode cX2_change 34 = .ok (.dup2, 1) := by decide +kernel
theorem dX2_change_35 : decode cX2_change 35 = .ok (.iaload, 1) := by decide +kernel
theorem dX2_change_36 : decode cX2_change 36 = .ok (.iconst 1, 1) := by decide +kernel
theorem dX2_change_37 : decode cX2_change 37 = .ok (.iadd, 1) := by decide +kernel
theorem dX2_change_38 : decode cX2_change 38 = .ok (.iastore, 1) := by decide +kernel
theorem dX2_change_39 : decode cX2_change 39 = .ok (.goto 19, 3) := by decide +kernel
theorem dX2_change_42 : decode cX2_change 42 = .ok (.aload_n 0, 1) := by decide +kernel
theorem dX2_change_43 : decode cX2_change 43 = .ok (.getfield 41, 3) := by decide +kernel
theorem dX2_change_46 : decode cX2_change 46 = .ok (.iload_n 1, 1) := by decide +kernel
theorem dX2_change_47 : decode cX2_change 47 = .ok (.iload_n 2, 1) := by decide +kernel
theorem dX2_change_48 : decode cX2_change 48 = .ok (.invokestatic 133, 3) := by decide +kernel
theorem dX2_change_51 : decode cX2_change 51 = .ok (.aload_n 0, 1) := by decide +kernel
theorem dX2_change_52 : decode cX2_change 52 = .ok (.getfield 38, 3) := by decide +kernel
theorem dX2_change_55 : decode cX2_change 55 = .ok (.iload_n 1, 1) := by decide +kernel
theorem dX2_change_56 : decode cX2_change 56 = .ok (.iaload, 1) := by decide +kernel
theorem dX2_change_57 : decode cX2_change 57 = .ok (.iastore, 1) := by decide +kernel
theorem dX2_change_58 : decode cX2_change 58 = .ok (.aload_n 0, 1) := by decide +kernel
theorem dX2_change_59 : decode cX2_change 59 = .ok (.getfield 34, 3) := by decide +kernel
theorem dX2_change_62 : decode cX2_change 62 = .ok (.iload 6, 2) := by decide +kernel
theorem dX2_change_64 : decode cX2_change 64 = .ok (.aload 5, 2) := by decide +kernel
theorem dX2_change_66 : decode cX2_change 66 = .ok (.aastore, 1) := by decide +kernel
theorem dX2_change_67 : decode cX2_change 67 = .ok (.return_, 1) := by decide +kernel
set_option maxRecDepth 20000 in
theorem ggX2_sourcePlaceholders_X2_slotOf : GoodIn wsX2_sourcePlaceholders wsX2_slotOf := goodIn_r _ [6, 7, 8, 5, 9] (by decide +kernel) (by decide +kernel)
set_option maxRecDepth 20000 in
theorem gX2_sourcePlaceholders_X2_slotOf : GoodIn wsX2_sourcePlaceholders (va_wsS RX2 112 yX2_slotOf wsX2_slotOf) := goodIn_app (goodIn_of _ (by decide +kernel)) ggX2_sourcePlaceholders_X2_slotOf
theorem dX2_sourcePlaceholders_0 : decode cX2_sourcePlaceholders 0 = .ok (.iload_n 1, 1) := by decide +kernel
theorem dX2_sourcePlaceholders_1 : decode cX2_sourcePlaceholders 1 = .ok (.iconst 0, 1) := by decide +kernel
theorem dX2_sourcePlaceholders_2 : decode cX2_sourcePlaceholders 2 = .ok (.iconst 0, 1) := by decide +kernel
theorem dX2_sourcePlaceholders_3 : decode cX2_sourcePlaceholders 3 = .ok (.iconst 0, 1) := by decide +kernel
theorem dX2_sourcePlaceholders_4 : decode cX2_sourcePlaceholders 4 = .ok (.invokestatic 112, 3) := by decide +kernel
theorem dX2_sourcePlaceholders_7 : decode cX2_sourcePlaceholders 7 = .ok (.istore_n 2, 1) := by decide +kernel
theorem dX2_sourcePlaceholders_8 : decode cX2_sourcePlaceholders 8 = .ok (.iconst 0, 1) := by decide +kernel
theorem dX2_sourcePlaceholders_9 : decode cX2_sourcePlaceholders 9 = .ok (.istore_n 3, 1) := by decide +kernel
theorem dX2_sourcePlaceholders_10 : decode cX2_sourcePlaceholders 10 = .ok (.iconst 0, 1) := by decide +kernel
theorem dX2_sourcePlaceholders_11 : decode cX2_sourcePlaceholders 11 = .ok (.istore 4, 2) := by decide +kernel
theorem dX2_sourcePlaceholders_13 : decode cX2_sourcePlaceholders 13 = .ok (.iload 4, 2) := by decide +kernel
theorem dX2_sourcePlaceholders_15 : decode cX2_sourcePlaceholders 15 = .ok (.bipush 9, 2) := by decide +kernel
theorem dX2_sourcePlaceholders_17 : decode cX2_sourcePlaceholders 17 = .ok (.if_icmp .ge 33, 3) := by decide +kernel
theorem dX2_sourcePlaceholders_20 : decode cX2_sourcePlaceholders 20 = .ok (.aload_n 0, 1) := by decide +kernel
theorem dX2_sourcePlaceholders_21 : decode cX2_sourcePlaceholders 21 = .ok (.getfield 34, 3) := by decide +kernel
theorem dX2_sourcePlaceholders_24 : decode cX2_sourcePlaceholders 24 = .ok (.iload_n 2, 1) := by decide +kernel
theorem dX2_sourcePlaceholders_25 : decode cX2_sourcePlaceholders 25 = .ok (.iload 4, 2) := by decide +kernel
theorem dX2_sourcePlaceholders_27 : decode cX2_sourcePlaceholders 27 = .ok (.iadd, 1) := by decide +kernel
theorem dX2_sourcePlaceholders_28 : decode cX2_sourcePlaceholders 28 = .ok (.aaload, 1) := by decide +kernel
theorem dX2_sourcePlaceholders_29 : decode cX2_sourcePlaceholders 29 = .ok (.astore 5, 2) := by decide +kernel
theorem dX2_sourcePlaceholders_31 : decode cX2_sourcePlaceholders 31 = .ok (.aload 5, 2) := by decide +kernel
theorem dX2_sourcePlaceholders_33 : decode cX2_sourcePlaceholders 33 = .ok (.ifnull 11, 3) := by decide +kernel
theorem dX2_sourcePlaceholders_36 : decode cX2_sourcePlaceholders 36 = .ok (.iload_n 3, 1) := by decide +kernel
theorem dX2_sourcePlaceholders_37 : decode cX2_sourcePlaceholders 37 = .ok (.aload 5, 2) := by decide +kernel
theorem dX2_sourcePlaceholders_39 : decode cX2_sourcePlaceholders 39 = .ok (.getfield 199, 3) := by decide +kernel
theorem dX2_sourcePlaceholders_42 : decode cX2_sourcePlaceholders 42 = .ok (.ior, 1) := by decide +kernel
theorem dX2_sourcePlaceholders_43 : decode cX2_sourcePlaceholders 43 = .ok (.istore_n 3, 1) := by decide +kernel
theorem dX2_sourcePlaceholders_44 : decode cX2_sourcePlaceholders 44 = .ok (.iinc 4 1, 3) := by decide +kernel
theorem dX2_sourcePlaceholders_47 : decode cX2_sourcePlaceholders 47 = .ok (.goto (-34), 3) := by decide +kernel
theorem dX2_sourcePlaceholders_50 : decode cX2_sourcePlaceholders 50 = .ok (.iload_n 3, 1) := by decide +kernel
theorem dX2_sourcePlaceholders_51 : decode cX2_sourcePlaceholders 51 = .ok (.ireturn, 1) := by decide +kernel
set_option maxRecDepth 20000 in
theorem ggX2_isFitting_X2_sourcePlaceholders : GoodIn wsX2_isFitting wsX2_sourcePlaceholders := goodIn_r _ [7, 8, 1, 9, 10, 6, 11, 12, 13, 14, 18, 19, 20, 21, 22, 23, 24, 25, 26, 27, 15, 16, 17] (by decide +kernel) (by decide +kernel)
set_option maxRecDepth 20000 in
theorem gX2_isFitting_X2_sourcePlaceholders : GoodIn wsX2_isFitting (wsV RX2 202 RX2 yX2_sourcePlaceholders wsX2_sourcePlaceholders) := goodIn_app (goodIn_of _ (by decide +kernel)) ggX2_isFitting_X2_sourcePlaceholders
theorem dX2_isFitting_0 : decode cX2_isFitting 0 = .ok (.aload_n 2, 1) := by decide +kernel
theorem dX2_isFitting_1 : decode cX2_isFitting 1 = .ok (.ifnonnull 5, 3) := by decide +kernel
theorem dX2_isFitting_4 : decode cX2_isFitting 4 = .ok (.iconst 0, 1) := by decide +kernel
theorem dX2_isFitting_5 : decode cX2_isFitting 5 = .ok (.ireturn, 1) := by decide +kernel
theorem dX2_isFitting_6 : decode cX2_isFitting 6 = .ok (.aload_n 0, 1) := by decide +kernel
theorem dX2_isFitting_7 : decode cX2_isFitting 7 = .ok (.iload_n 1, 1) := by decide +kernel
theorem dX2_isFitting_8 : decode cX2_isFitting 8 = .ok (.invokevirtual 202, 3) := by decide +kernel
theorem dX2_isFitting_11 : decode cX2_isFitting 11 = .ok (.istore_n 3, 1) := by decide +kernel
theorem dX2_isFitting_12 : decode cX2_isFitting 12 = .ok (.aload_n 2, 1) := by decide +kernel
theorem dX2_isFitting_13 : decode cX2_isFitting 13 = .ok (.getfield 199, 3) := by decide +kernel
theorem dX2_isFitting_16 : decode cX2_isFitting 16 = .ok (.iload_n 3, 1) := by decide +kernel
theorem dX2_isFitting_17 : decode cX2_isFitting 17 = .ok (.iconst (-1), 1) := by decide +kernel
theorem dX2_isFitting_18 : decode cX2_isFitting 18 = .ok (.ixor, 1) := by decide +kernel
theorem dX2_isFitting_19 : decode cX2_isFitting 19 = .ok (.iand, 1) := by decide +kernel
theorem dX2_isFitting_20 : decode cX2_isFitting 20 = .ok (.ifCond .eq 7, 3) := by decide +kernel
theorem dX2_isFitting_23 : decode cX2_isFitting 23 = .ok (.iconst 1, 1) := by decide +kernel
theorem dX2_isFitting_24 : decode cX2_isFitting 24 = .ok (.goto 4, 3) := by decide +kernel
theorem dX2_isFitting_27 : decode cX2_isFitting 27 = .ok (.iconst 0, 1) := by decide +kernel
theorem dX2_isFitting_28 : decode cX2_isFitting 28 = .ok (.istore 4, 2) := by decide +kernel
theorem dX2_isFitting_30 : decode cX2_isFitting 30 = .ok (.iload_n 3, 1) := by decide +kernel
theorem dX2_isFitting_31 : decode cX2_isFitting 31 = .ok (.aload_n 2, 1) := by decide +kernel
theorem dX2_isFitting_32 : decode cX2_isFitting 32 = .ok (.getfield 199, 3) := by decide +kernel
theorem dX2_isFitting_35 : decode cX2_isFitting 35 = .ok (.iconst (-1), 1) := by decide +kernel
theorem dX2_isFitting_36 : decode cX2_isFitting 36 = .ok (.ixor, 1) := by decide +kernel
theorem dX2_isFitting_37 : decode cX2_isFitting 37 = .ok (.iand, 1) := by decide +kernel
theorem dX2_isFitting_38 : decode cX2_isFitting 38 = .ok (.ifCond .eq 7, 3) := by decide +kernel
theorem dX2_isFitting_41 : decode cX2_isFitting 41 = .ok (.iconst 1, 1) := by decide +kernel
theorem dX2_isFitting_42 : decode cX2_isFitting 42 = .ok (.goto 4, 3) := by decide +kernel
theorem dX2_isFitting_45 : decode cX2_isFitting 45 = .ok (.iconst 0, 1) := by decide +kernel
theorem dX2_isFitting_46 : decode cX2_isFitting 46 = .ok (.istore 5, 2) := by decide +kernel
theorem dX2_isFitting_48 : decode cX2_isFitting 48 = .ok (.iload 4, 2) := by decide +kernel
theorem dX2_isFitting_50 : decode cX2_isFitting 50 = .ok (.ifCond .ne 19, 3) := by decide +kernel
theorem dX2_isFitting_53 : decode cX2_isFitting 53 = .ok (.iload 5, 2) := by decide +kernel
theorem dX2_isFitting_55 : decode cX2_isFitting 55 = .ok (.ifCond .eq 10, 3) := by decide +kernel
theorem dX2_isFitting_58 : decode cX2_isFitting 58 = .ok (.aload_n 2, 1) := by decide +kernel
theorem dX2_isFitting_59 : decode cX2_isFitting 59 = .ok (.getfield 205, 3) := by decide +kernel
theorem dX2_isFitting_62 : decode cX2_isFitting 62 = .ok (.ifCond .eq 7, 3) := by decide +kernel
theorem dX2_isFitting_65 : decode cX2_isFitting 65 = .ok (.iconst 1, 1) := by decide +kernel
theorem dX2_isFitting_66 : decode cX2_isFitting 66 = .ok (.goto 4, 3) := by decide +kernel
theorem dX2_isFitting_69 : decode cX2_isFitting 69 = .ok (.iconst 0, 1) := by decide +kernel
theorem dX2_isFitting_70 : decode cX2_isFitting 70 = .ok (.ireturn, 1) := by decide +kernel
set_option maxRecDepth 20000 in
theorem ggX2_findAlongChain_X2_findInLanguage : GoodIn wsX2_findAlongChain wsX2_findInLanguage := goodIn_r _ [6, 7, 8, 9, 5, 10, 11, 12, 13, 14, 15, 16, 17, 18, 19, 20, 21, 22, 23, 24, 25, 26, 27, 28, 29, 30, 31, 32, 33, 34, 35, 36, 37, 38, 39, 40, 41, 42, 43, 44, 45, 46] (by decide +kernel) (by decide +kernel)
set_option maxRecDepth 20000 in
theorem gX2_findAlongChain_X2_findInLanguage : GoodIn wsX2_findAlongChain (wsV RX2 209 RX2 yX2_findInLanguage wsX2_findInLanguage) := goodIn_app (goodIn_of _ (by decide +kernel)) ggX2_findAlongChain_X2_findInLanguage
theorem dX2_findAlongChain_0 : decode cX2_findAlongChain 0 = .ok (.iload_n 2, 1) := by decide +kernel
theorem dX2_findAlongChain_1 : decode cX2_findAlongChain 1 = .ok (.istore 5, 2) := by decide +kernel
theorem dX2_findAlongChain_3 : decode cX2_findAlongChain 3 = .ok (.iconst 0, 1) := by decide +kernel
theorem dX2_findAlongChain_4 : decode cX2_findAlongChain 4 = .ok (.istore 6, 2) := by decide +kernel
theorem dX2_findAlongChain_6 : decode cX2_findAlongChain 6 = .ok (.iload 6, 2) := by decide +kernel
theorem dX2_findAlongChain_8 : decode cX2_findAlongChain 8 = .ok (.bipush 6, 2) := by decide +kernel
theorem dX2_findAlongChain_10 : decode cX2_findAlongChain 10 = .ok (.if_icmp .ge 44, 3) := by decide +kernel
theorem dX2_findAlongChain_13 : decode cX2_findAlongChain 13 = .ok (.aload_n 0, 1) := by decide +kernel
theorem dX2_findAlongChain_14 : decode cX2_findAlongChain 14 = .ok (.iload_n 1, 1) := by decide +kernel
theorem dX2_findAlongChain_15 : decode cX2_findAlongChain 15 = .ok (.iload 5, 2) := by decide +kernel
theorem dX2_findAlongChain_17 : decode cX2_findAlongChain 17 = .ok (.iload_n 3, 1) := by decide +kernel
theorem dX2_findAlongChain_18 : decode cX2_findAlongChain 18 = .ok (.iload 4, 2) := by decide +kernel
theorem dX2_findAlongChain_20 : decode cX2_findAlongChain 20 = .ok (.invokevirtual 209, 3) := by decide +kernel
theorem dX2_findAlongChain_23 : decode cX2_findAlongChain 23 = .ok (.istore 7, 2) := by decide +kernel
theorem dX2_findAlongChain_25 : decode cX2_findAlongChain 25 = .ok (.iload 7, 2) := by decide +kernel
theorem dX2_findAlongChain_27 : decode cX2_findAlongChain 27 = .ok (.iconst (-1), 1) := by decide +kernel
theorem dX2_findAlongChain_28 : decode cX2_findAlongChain 28 = .ok (.if_icmp .ne 8, 3) := by decide +kernel
theorem dX2_findAlongChain_31 : decode cX2_findAlongChain 31 = .ok (.iload 5, 2) := by decide +kernel
theorem dX2_findAlongChain_33 : decode cX2_findAlongChain 33 = .ok (.ifCond .ne 6, 3) := by decide +kernel
theorem dX2_findAlongChain_36 : decode cX2_findAlongChain 36 = .ok (.iload 7, 2) := by decide +kernel
theorem dX2_findAlongChain_38 : decode cX2_findAlongChain 38 = .ok (.ireturn, 1) := by decide +kernel
theorem dX2_findAlongChain_39 : decode cX2_findAlongChain 39 = .ok (.aload_n 0, 1) := by decide +kernel
theorem dX2_findAlongChain_40 : decode cX2_findAlongChain 40 = .ok (.getfield 9, 3) := by decide +kernel
theorem dX2_findAlongChain_43 : decode cX2_findAlongChain 43 = .ok (.iload 5, 2) := by decide +kernel
theorem dX2_findAlongChain_45 : decode cX2_findAlongChain 45 = .ok (.iaload, 1) := by decide +kernel
theorem dX2_findAlongChain_46 : decode cX2_findAlongChain 46 = .ok (.istore 5, 2) := by decide +kernel
theorem dX2_findAlongChain_48 : decode cX2_findAlongChain 48 = .ok (.iinc 6 1, 3) := by decide +kernel
theorem dX2_findAlongChain_51 : decode cX2_findAlongChain 51 = .ok (.goto (-45), 3) := by decide +kernel
theorem dX2_findAlongChain_54 : decode cX2_findAlongChain 54 = .ok (.iconst (-1), 1) := by decide +kernel
theorem dX2_findAlongChain_55 : decode cX2_findAlongChain 55 = .ok (.ireturn, 1) := by decide +kernel
set_option maxRecDepth 20000 in
theorem ggX2_findInLanguage_X2_classOf : GoodIn wsX2_findInLanguage wsX2_classOf := goodIn_r _ [5, 6, 7, 29, 30, 31, 32, 33, 34, 35, 36, 37, 38] (by decide +kernel) (by decide +kernel)
set_option maxRecDepth 20000 in
theorem gX2_findInLanguage_X2_classOf : GoodIn wsX2_findInLanguage (wsV RX2 124 RX2 yX2_classOf wsX2_classOf) := goodIn_app (goodIn_of _ (by decide +kernel)) ggX2_findInLanguage_X2_classOf
set_option maxRecDepth 20000 in
theorem ggX2_findInLanguage_X2_findInClass : GoodIn wsX2_findInLanguage wsX2_findInClass := goodIn_r _ [11, 12, 13, 14, 4, 15, 16, 17, 18, 19, 20, 21, 22, 23, 24, 25, 26, 27, 28, 29, 30, 31, 32, 33, 34, 35, 36, 37, 38, 39, 40, 41] (by decide +kernel) (by decide +kernel)
set_option maxRecDepth 20000 in
theorem gX2_findInLanguage_X2_findInClass : GoodIn wsX2_findInLanguage (wsV RX2 212 RX2 yX2_findInClass wsX2_findInClass) := goodIn_app (goodIn_of _ (by decide +kernel)) ggX2_findInLanguage_X2_findInClass
theorem dX2_findInLanguage_0 : decode cX2_findInLanguage 0 = .ok (.aload_n 0, 1) := by decide +kernel
theorem dX2_findInLanguage_1 : decode cX2_findInLanguage 1 = .ok (.iload_n 1, 1) := by decide +kernel
theorem dX2_findInLanguage_2 : decode cX2_findInLanguage 2 = .ok (.iload_n 2, 1) := by decide +kernel
theorem dX2_findInLanguage_3 : decode cX2_findInLanguage 3 = .ok (.aload_n 0, 1) := by decide +kernel
theorem dX2_findInLanguage_4 : decode cX2_findInLanguage 4 = .ok (.iload_n 2, 1) := by decide +kernel
theorem dX2_findInLanguage_5 : decode cX2_findInLanguage 5 = .ok (.iload_n 3, 1) := by decide +kernel
theorem dX2_findInLanguage_6 : decode cX2_findInLanguage 6 = .ok (.invokevirtual 124, 3) := by decide +kernel
theorem dX2_findInLanguage_9 : decode cX2_findInLanguage 9 = .ok (.iload 4, 2) := by decide +kernel
theorem dX2_findInLanguage_11 : decode cX2_findInLanguage 11 = .ok (.invokevirtual 212, 3) := by decide +kernel
theorem dX2_findInLanguage_14 : decode cX2_findInLanguage 14 = .ok (.istore 5, 2) := by decide +kernel
theorem dX2_findInLanguage_16 : decode cX2_findInLanguage 16 = .ok (.iload 5, 2) := by decide +kernel
theorem dX2_findInLanguage_18 : decode cX2_findInLanguage 18 = .ok (.iconst (-1), 1) := by decide +kernel
theorem dX2_findInLanguage_19 : decode cX2_findInLanguage 19 = .ok (.if_icmp .eq 8, 3) := by decide +kernel
theorem dX2_findInLanguage_22 : decode cX2_findInLanguage 22 = .ok (.iload 5, 2) := by decide +kernel
theorem dX2_findInLanguage_24 : decode cX2_findInLanguage 24 = .ok (.goto 12, 3) := by decide +kernel
theorem dX2_findInLanguage_27 : decode cX2_findInLanguage 27 = .ok (.aload_n 0, 1) := by decide +kernel
theorem dX2_findInLanguage_28 : decode cX2_findInLanguage 28 = .ok (.iload_n 1, 1) := by decide +kernel
theorem dX2_findInLanguage_29 : decode cX2_findInLanguage 29 = .ok (.iload_n 2, 1) := by decide +kernel
theorem dX2_findInLanguage_30 : decode cX2_findInLanguage 30 = .ok (.iconst 2, 1) := by decide +kernel
theorem dX2_findInLanguage_31 : decode cX2_findInLanguage 31 = .ok (.iload 4, 2) := by decide +kernel
theorem dX2_findInLanguage_33 : decode cX2_findInLanguage 33 = .ok (.invokevirtual 212, 3) := by decide +kernel
theorem dX2_findInLanguage_36 : decode cX2_findInLanguage 36 = .ok (.ireturn, 1) := by decide +kernel
set_option maxRecDepth 20000 in
theorem ggX2_findInClass_X2_slotOf : GoodIn wsX2_findInClass wsX2_slotOf := goodIn_r _ [5, 6, 7, 4, 8] (by decide +kernel) (by decide +kernel)
set_option maxRecDepth 20000 in
theorem gX2_findInClass_X2_slotOf : GoodIn wsX2_findInClass (va_wsS RX2 112 yX2_slotOf wsX2_slotOf) := goodIn_app (goodIn_of _ (by decide +kernel)) ggX2_findInClass_X2_slotOf
set_option maxRecDepth 20000 in
theorem ggX2_findInClass_X2_isFitting : GoodIn wsX2_findInClass wsX2_isFitting := goodIn_r _ [12, 13, 14, 15, 16, 17, 4, 18, 1, 2, 3, 5, 6, 7, 8, 29, 30, 31, 19, 20, 21, 22, 23, 24, 25, 26, 27, 28] (by decide +kernel) (by decide +kernel)
set_option maxRecDepth 20000 in
theorem gX2_findInClass_X2_isFitting : GoodIn wsX2_findInClass (wsV RX2 136 RX2 yX2_isFitting wsX2_isFitting) := goodIn_app (goodIn_of _ (by decide +kernel)) ggX2_findInClass_X2_isFitting
theorem dX2_findInClass_0 : decode cX2_findInClass 0 = .ok (.iload_n 1, 1) := by decide +kernel
theorem dX2_findInClass_1 : decode cX2_findInClass 1 = .ok (.iload_n 2, 1) := by decide +kernel
theorem dX2_findInClass_2 : decode cX2_findInClass 2 = .ok (.iload_n 3, 1) := by decide +kernel
theorem dX2_findInClass_3 : decode cX2_findInClass 3 = .ok (.iload 4, 2) := by decide +kernel
theorem dX2_findInClass_5 : decode cX2_findInClass 5 = .ok (.invokestatic 112, 3) := by decide +kernel
theorem dX2_findInClass_8 : decode cX2_findInClass 8 = .ok (.istore 5, 2) := by decide +kernel
theorem dX2_findInClass_10 : decode cX2_findInClass 10 = .ok (.aload_n 0, 1) := by decide +kernel
theorem dX2_findInClass_11 : decode cX2_findInClass 11 = .ok (.iload_n 1, 1) := by decide +kernel
theorem dX2_findInClass_12 : decode cX2_findInClass 12 = .ok (.aload_n 0, 1) := by decide +kernel
theorem dX2_findInClass_13 : decode cX2_findInClass 13 = .ok (.getfield 34, 3) := by decide +kernel
theorem dX2_findInClass_16 : decode cX2_findInClass 16 = .ok (.iload 5, 2) := by decide +kernel
theorem dX2_findInClass_18 : decode cX2_findInClass 18 = .ok (.aaload, 1) := by decide +kernel
theorem dX2_findInClass_19 : decode cX2_findInClass 19 = .ok (.invokevirtual 136, 3) := by decide +kernel
theorem dX2_findInClass_22 : decode cX2_findInClass 22 = .ok (.ifCond .eq 6, 3) := by decide +kernel
theorem dX2_findInClass_25 : decode cX2_findInClass 25 = .ok (.iload 5, 2) := by decide +kernel
theorem dX2_findInClass_27 : decode cX2_findInClass 27 = .ok (.ireturn, 1) := by decide +kernel
theorem dX2_findInClass_28 : decode cX2_findInClass 28 = .ok (.iload_n 1, 1) := by decide +kernel
theorem dX2_findInClass_29 : decode cX2_findInClass 29 = .ok (.iload_n 2, 1) := by decide +kernel
theorem dX2_findInClass_30 : decode cX2_findInClass 30 = .ok (.iload_n 3, 1) := by decide +kernel
theorem dX2_findInClass_31 : decode cX2_findInClass 31 = .ok (.iconst 0, 1) := by decide +kernel
theorem dX2_findInClass_32 : decode cX2_findInClass 32 = .ok (.invokestatic 112, 3) := by decide +kernel
theorem dX2_findInClass_35 : decode cX2_findInClass 35 = .ok (.istore 6, 2) := by decide +kernel
theorem dX2_findInClass_37 : decode cX2_findInClass 37 = .ok (.aload_n 0, 1) := by decide +kernel
theorem dX2_findInClass_38 : decode cX2_findInClass 38 = .ok (.iload_n 1, 1) := by decide +kernel
theorem dX2_findInClass_39 : decode cX2_findInClass 39 = .ok (.aload_n 0, 1) := by decide +kernel
theorem dX2_findInClass_40 : decode cX2_findInClass 40 = .ok (.getfield 34, 3) := by decide +kernel
theorem dX2_findInClass_43 : decode cX2_findInClass 43 = .ok (.iload 6, 2) := by decide +kernel
theorem dX2_findInClass_45 : decode cX2_findInClass 45 = .ok (.aaload, 1) := by decide +kernel
theorem dX2_findInClass_46 : decode cX2_findInClass 46 = .ok (.invokevirtual 136, 3) := by decide +kernel
theorem dX2_findInClass_49 : decode cX2_findInClass 49 = .ok (.ifCond .eq 8, 3) := by decide +kernel
theorem dX2_findInClass_52 : decode cX2_findInClass 52 = .ok (.iload 6, 2) := by decide +kernel
theorem dX2_findInClass_54 : decode cX2_findInClass 54 = .ok (.goto 4, 3) := by decide +kernel
theorem dX2_findInClass_57 : decode cX2_findInClass 57 = .ok (.iconst (-1), 1) := by decide +kernel
theorem dX2_findInClass_58 : decode cX2_findInClass 58 = .ok (.ireturn, 1) := by decide +kernel
set_option maxRecDepth 20000 in
theorem ggX2_findByLooking_X2_slotOf : GoodIn wsX2_findByLooking wsX2_slotOf := goodIn_r _ [5, 6, 7, 4, 8] (by decide +kernel) (by decide +kernel)
set_option maxRecDepth 20000 in
theorem gX2_findByLooking_X2_slotOf : GoodIn wsX2_findByLooking (va_wsS RX2 112 yX2_slotOf wsX2_slotOf) := goodIn_app (goodIn_of _ (by decide +kernel)) ggX2_findByLooking_X2_slotOf
set_option maxRecDepth 20000 in
theorem ggX2_findByLooking_X2_turnOf : GoodIn wsX2_findByLooking wsX2_turnOf := goodIn_r _ [12, 13, 14, 4, 15, 16, 17, 18, 19, 20, 21, 22, 23, 24, 25, 26, 27, 28, 29, 40, 41, 42, 43, 44, 45, 46, 47, 48, 49] (by decide +kernel) (by decide +kernel)
set_option maxRecDepth 20000 in
theorem gX2_findByLooking_X2_turnOf : GoodIn wsX2_findByLooking (wsV RX2 215 RX2 yX2_turnOf wsX2_turnOf) := goodIn_app (goodIn_of _ (by decide +kernel)) ggX2_findByLooking_X2_turnOf
set_option maxRecDepth 20000 in
theorem ggX2_findByLooking_X2_isFitting : GoodIn wsX2_findByLooking wsX2_isFitting := goodIn_r _ [33, 34, 35, 36, 37, 38, 4, 39, 1, 2, 3, 5, 6, 7, 8, 50, 51, 52, 40, 41, 42, 43, 44, 45, 46, 47, 48, 49] (by decide +kernel) (by decide +kernel)
set_option maxRecDepth 20000 in
theorem gX2_findByLooking_X2_isFitting : GoodIn wsX2_findByLooking (wsV RX2 136 RX2 yX2_isFitting wsX2_isFitting) := goodIn_app (goodIn_of _ (by decide +kernel)) ggX2_findByLooking_X2_isFitting
theorem dX2_findByLooking_0 : decode cX2_findByLooking 0 = .ok (.iconst (-1), 1) := by decide +kernel
theorem dX2_findByLooking_1 : decode cX2_findByLooking 1 = .ok (.istore 5, 2) := by decide +kernel
theorem dX2_findByLooking_3 : decode cX2_findByLooking 3 = .ok (.bipush 24, 2) := by decide +kernel
theorem dX2_findByLooking_5 : decode cX2_findByLooking 5 = .ok (.istore 6, 2) := by decide +kernel
theorem dX2_findByLooking_7 : decode cX2_findByLooking 7 = .ok (.iload_n 1, 1) := by decide +kernel
theorem dX2_findByLooking_8 : decode cX2_findByLooking 8 = .ok (.iconst 0, 1) := by decide +kernel
theorem dX2_findByLooking_9 : decode cX2_findByLooking 9 = .ok (.iconst 0, 1) := by decide +kernel
theorem dX2_findByLooking_10 : decode cX2_findByLooking 10 = .ok (.iconst 0, 1) := by decide +kernel
theorem dX2_findByLooking_11 : decode cX2_findByLooking 11 = .ok (.invokestatic 112, 3) := by decide +kernel
theorem dX2_findByLooking_14 : decode cX2_findByLooking 14 = .ok (.istore 7, 2) := by decide +kernel
theorem dX2_findByLooking_16 : decode cX2_findByLooking 16 = .ok (.iconst 0, 1) := by decide +kernel
theorem dX2_findByLooking_17 : decode cX2_findByLooking 17 = .ok (.istore 8, 2) := by decide +kernel
theorem dX2_findByLooking_19 : decode cX2_findByLooking 19 = .ok (.iload 8, 2) := by decide +kernel
theorem dX2_findByLooking_21 : decode cX2_findByLooking 21 = .ok (.bipush 54, 2) := by decide +kernel
theorem dX2_findByLooking_23 : decode cX2_findByLooking 23 = .ok (.if_icmp .ge 66, 3) := by decide +kernel
theorem dX2_findByLooking_26 : decode cX2_findByLooking 26 = .ok (.aload_n 0, 1) := by decide +kernel
theorem dX2_findByLooking_27 : decode cX2_findByLooking 27 = .ok (.iload 7, 2) := by decide +kernel
theorem dX2_findByLooking_29 : decode cX2_findByLooking 29 = .ok (.iload 8, 2) := by decide +kernel
theorem dX2_findByLooking_31 : decode cX2_findByLooking 31 = .ok (.iadd, 1) := by decide +kernel
theorem dX2_findByLooking_32 : decode cX2_findByLooking 32 = .ok (.iload_n 2, 1) := by decide +kernel
theorem dX2_findByLooking_33 : decode cX2_findByLooking 33 = .ok (.iload_n 3, 1) := by decide +kernel
theorem dX2_findByLooking_34 : decode cX2_findByLooking 34 = .ok (.iload 4, 2) := by decide +kernel
theorem dX2_findByLooking_36 : decode cX2_findByLooking 36 = .ok (.invokevirtual 215, 3) := by decide +kernel
theorem dX2_findByLooking_39 : decode cX2_findByLooking 39 = .ok (.istore 9, 2) := by decide +kernel
theorem dX2_findByLooking_41 : decode cX2_findByLooking 41 = .ok (.iload 9, 2) := by decide +kernel
theorem dX2_findByLooking_43 : decode cX2_findByLooking 43 = .ok (.iconst (-1), 1) := by decide +kernel
theorem dX2_findByLooking_44 : decode cX2_findByLooking 44 = .ok (.if_icmp .eq 39, 3) := by decide +kernel
theorem dX2_findByLooking_47 : decode cX2_findByLooking 47 = .ok (.iload 9, 2) := by decide +kernel
theorem dX2_findByLooking_49 : decode cX2_findByLooking 49 = .ok (.iload 6, 2) := by decide +kernel
theorem dX2_findByLooking_51 : decode cX2_findByLooking 51 = .ok (.if_icmp .ge 32, 3) := by decide +kernel
theorem dX2_findByLooking_54 : decode cX2_findByLooking 54 = .ok (.aload_n 0, 1) := by decide +kernel
theorem dX2_findByLooking_55 : decode cX2_findByLooking 55 = .ok (.iload_n 1, 1) := by decide +kernel
theorem dX2_findByLooking_56 : decode cX2_findByLooking 56 = .ok (.aload_n 0, 1) := by decide +kernel
theorem dX2_findByLooking_57 : decode cX2_findByLooking 57 = .ok (.getfield 34, 3) := by decide +kernel
theorem dX2_findByLooking_60 : decode cX2_findByLooking 60 = .ok (.iload 7, 2) := by decide +kernel
theorem dX2_findByLooking_62 : decode cX2_findByLooking 62 = .ok (.iload 8, 2) := by decide +kernel
theorem dX2_findByLooking_64 : decode cX2_findByLooking 64 = .ok (.iadd, 1) := by decide +kernel
theorem dX2_findByLooking_65 : decode cX2_findByLooking 65 = .ok (.aaload, 1) := by decide +kernel
theorem dX2_findByLooking_66 : decode cX2_findByLooking 66 = .ok (.invokevirtual 136, 3) := by decide +kernel
theorem dX2_findByLooking_69 : decode cX2_findByLooking 69 = .ok (.ifCond .eq 14, 3) := by decide +kernel
theorem dX2_findByLooking_72 : decode cX2_findByLooking 72 = .ok (.iload 7, 2) := by decide +kernel
theorem dX2_findByLooking_74 : decode cX2_findByLooking 74 = .ok (.iload 8, 2) := by decide +kernel
theorem dX2_findByLooking_76 : decode cX2_findByLooking 76 = .ok (.iadd, 1) := by decide +kernel
theorem dX2_findByLooking_77 : decode cX2_findByLooking 77 = .ok (.istore 5, 2) := by decide +kernel
theorem dX2_findByLooking_79 : decode cX2_findByLooking 79 = .ok (.iload 9, 2) := by decide +kernel
theorem dX2_findByLooking_81 : decode cX2_findByLooking 81 = .ok (.istore 6, 2) := by decide +kernel
theorem dX2_findByLooking_83 : decode cX2_findByLooking 83 = .ok (.iinc 8 1, 3) := by decide +kernel
theorem dX2_findByLooking_86 : decode cX2_findByLooking 86 = .ok (.goto (-67), 3) := by decide +kernel
theorem dX2_findByLooking_89 : decode cX2_findByLooking 89 = .ok (.iload 5, 2) := by decide +kernel
theorem dX2_findByLooking_91 : decode cX2_findByLooking 91 = .ok (.ireturn, 1) := by decide +kernel
set_option maxRecDepth 20000 in
theorem ggX2_turnOf_X2_languageOfSlot : GoodIn wsX2_turnOf wsX2_languageOfSlot := goodIn_r _ [4] (by decide +kernel) (by decide +kernel)
set_option maxRecDepth 20000 in
theorem gX2_turnOf_X2_languageOfSlot : GoodIn wsX2_turnOf (va_wsS RX2 146 yX2_languageOfSlot wsX2_languageOfSlot) := goodIn_app (goodIn_of _ (by decide +kernel)) ggX2_turnOf_X2_languageOfSlot
set_option maxRecDepth 20000 in
theorem ggX2_turnOf_X2_chainPlace : GoodIn wsX2_turnOf wsX2_chainPlace := goodIn_r _ [8, 9, 19, 20, 21, 22, 23, 24, 25, 26, 27, 28] (by decide +kernel) (by decide +kernel)
set_option maxRecDepth 20000 in
theorem gX2_turnOf_X2_chainPlace : GoodIn wsX2_turnOf (wsV RX2 65 RX2 yX2_chainPlace wsX2_chainPlace) := goodIn_app (goodIn_of _ (by decide +kernel)) ggX2_turnOf_X2_chainPlace
