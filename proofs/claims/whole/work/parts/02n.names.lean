set_option maxRecDepth 20000 in
theorem ggL_toldByLooking_X2_toldByLooking : GoodIn wsL_toldByLooking wsX2_toldByLooking := goodIn_ca (goodIn_ca (goodIn_r _ [7, 8, 9, 6, 10, 11, 12, 13, 14, 15, 16, 17, 18, 19, 20, 21, 22, 23, 24, 25, 26, 27, 28, 29, 30, 31, 32, 33, 34, 35, 36, 37, 38, 39, 40, 41, 42, 43, 44, 45, 46, 47, 48, 49, 50, 51, 52, 53, 54, 55, 56, 57, 58, 59, 60, 61, 62, 63, 64, 65, 66, 67, 68, 69, 70, 71, 72, 73, 74, 75, 76, 77, 78, 79, 80, 81] (by decide +kernel) (by decide +kernel)) (goodIn_sub (fun _ h => List.mem_cons_of_mem _ (List.mem_append_left _ (List.mem_append_right _ h))) (by decide +kernel))) (goodIn_sub (fun _ h => List.mem_cons_of_mem _ (List.mem_append_right _ h)) (by decide +kernel))
set_option maxRecDepth 20000 in
theorem gL_toldByLooking_X2_toldByLooking : GoodIn wsL_toldByLooking (wsV RL 57 RX2 yX2_toldByLooking wsX2_toldByLooking) := goodIn_app (goodIn_of _ (by decide +kernel)) ggL_toldByLooking_X2_toldByLooking
theorem dL_toldByLooking_0 : decode cL_toldByLooking 0 = .ok (.aload 5, 2) := by decide +kernel
theorem dL_toldByLooking_2 : decode cL_toldByLooking 2 = .ok (.iconst 0, 1) := by decide +kernel
theorem dL_toldByLooking_3 : decode cL_toldByLooking 3 = .ok (.aload_n 0, 1) := by decide +kernel
theorem dL_toldByLooking_4 : decode cL_toldByLooking 4 = .ok (.iload_n 1, 1) := by decide +kernel
theorem dL_toldByLooking_5 : decode cL_toldByLooking 5 = .ok (.iload_n 2, 1) := by decide +kernel
theorem dL_toldByLooking_6 : decode cL_toldByLooking 6 = .ok (.iload_n 3, 1) := by decide +kernel
theorem dL_toldByLooking_7 : decode cL_toldByLooking 7 = .ok (.iload 4, 2) := by decide +kernel
theorem dL_toldByLooking_9 : decode cL_toldByLooking 9 = .ok (.invokevirtual 57, 3) := by decide +kernel
theorem dL_toldByLooking_12 : decode cL_toldByLooking 12 = .ok (.i2l, 1) := by decide +kernel
theorem dL_toldByLooking_13 : decode cL_toldByLooking 13 = .ok (.lastore, 1) := by decide +kernel
theorem dL_toldByLooking_14 : decode cL_toldByLooking 14 = .ok (.goto 11, 3) := by decide +kernel
theorem dL_toldByLooking_17 : decode cL_toldByLooking 17 = .ok (.astore 6, 2) := by decide +kernel
theorem dL_toldByLooking_19 : decode cL_toldByLooking 19 = .ok (.iconst 1, 1) := by decide +kernel
theorem dL_toldByLooking_20 : decode cL_toldByLooking 20 = .ok (.ireturn, 1) := by decide +kernel
theorem dL_toldByLooking_21 : decode cL_toldByLooking 21 = .ok (.astore 6, 2) := by decide +kernel
theorem dL_toldByLooking_23 : decode cL_toldByLooking 23 = .ok (.iconst 2, 1) := by decide +kernel
theorem dL_toldByLooking_24 : decode cL_toldByLooking 24 = .ok (.ireturn, 1) := by decide +kernel
theorem dL_toldByLooking_25 : decode cL_toldByLooking 25 = .ok (.iconst 0, 1) := by decide +kernel
theorem dL_toldByLooking_26 : decode cL_toldByLooking 26 = .ok (.ireturn, 1) := by decide +kernel
set_option maxRecDepth 20000 in
theorem ggL_toldForm_X2_toldForm : GoodIn wsL_toldForm wsX2_toldForm := goodIn_ca (goodIn_ca (goodIn_r _ [7, 8, 9, 6, 10, 11, 12, 13, 14, 15, 16, 17, 18, 19, 20, 21, 22, 23, 24, 25, 26, 27, 28, 29, 30, 31, 32, 33, 34, 35, 36, 37, 38, 39, 40, 41, 42, 43, 44, 45, 46, 47, 48, 49, 50, 51, 52, 53, 54, 55, 56, 57, 58, 59, 60, 61, 62, 63, 64, 65, 66, 67, 68, 69, 70, 71, 72, 73, 74, 75] (by decide +kernel) (by decide +kernel)) (goodIn_sub (fun _ h => List.mem_cons_of_mem _ (List.mem_append_left _ (List.mem_append_right _ h))) (by decide +kernel))) (goodIn_sub (fun _ h => List.mem_cons_of_mem _ (List.mem_append_right _ h)) (by decide +kernel))
set_option maxRecDepth 20000 in
theorem gL_toldForm_X2_toldForm : GoodIn wsL_toldForm (wsV RL 60 RX2 yX2_toldForm wsX2_toldForm) := goodIn_app (goodIn_of _ (by decide +kernel)) ggL_toldForm_X2_toldForm
theorem dL_toldForm_0 : decode cL_toldForm 0 = .ok (.aload 5, 2) := by decide +kernel
theorem dL_toldForm_2 : decode cL_toldForm 2 = .ok (.iconst 0, 1) := by decide +kernel
theorem dL_toldForm_3 : decode cL_toldForm 3 = .ok (.aload_n 0, 1) := by decide +kernel
theorem dL_toldForm_4 : decode cL_toldForm 4 = .ok (.iload_n 1, 1) := by decide +kernel
theorem dL_toldForm_5 : decode cL_toldForm 5 = .ok (.iload_n 2, 1) := by decide +kernel
theorem dL_toldForm_6 : decode cL_toldForm 6 = .ok (.iload_n 3, 1) := by decide +kernel
theorem dL_toldForm_7 : decode cL_toldForm 7 = .ok (.iload 4, 2) := by decide +kernel
theorem dL_toldForm_9 : decode cL_toldForm 9 = .ok (.invokevirtual 60, 3) := by decide +kernel
theorem dL_toldForm_12 : decode cL_toldForm 12 = .ok (.i2l, 1) := by decide +kernel
theorem dL_toldForm_13 : decode cL_toldForm 13 = .ok (.lastore, 1) := by decide +kernel
theorem dL_toldForm_14 : decode cL_toldForm 14 = .ok (.goto 11, 3) := by decide +kernel
theorem dL_toldForm_17 : decode cL_toldForm 17 = .ok (.astore 6, 2) := by decide +kernel
theorem dL_toldForm_19 : decode cL_toldForm 19 = .ok (.iconst 1, 1) := by decide +kernel
theorem dL_toldForm_20 : decode cL_toldForm 20 = .ok (.ireturn, 1) := by decide +kernel
theorem dL_toldForm_21 : decode cL_toldForm 21 = .ok (.astore 6, 2) := by decide +kernel
theorem dL_toldForm_23 : decode cL_toldForm 23 = .ok (.iconst 2, 1) := by decide +kernel
theorem dL_toldForm_24 : decode cL_toldForm 24 = .ok (.ireturn, 1) := by decide +kernel
theorem dL_toldForm_25 : decode cL_toldForm 25 = .ok (.iconst 0, 1) := by decide +kernel
theorem dL_toldForm_26 : decode cL_toldForm 26 = .ok (.ireturn, 1) := by decide +kernel
set_option maxRecDepth 20000 in
theorem ggL_toldSign_X2_toldSign : GoodIn wsL_toldSign wsX2_toldSign := goodIn_ca (goodIn_ca (goodIn_r _ [7, 8, 9, 10, 11, 12, 13, 6, 14, 15, 16, 17, 18, 19, 20, 21, 22, 23, 24, 25, 26, 27, 28, 29, 30, 31, 32, 33, 34, 35, 36, 37, 38, 39, 40, 41, 42, 43, 44, 45, 46, 47, 48, 49, 50, 51, 52, 53, 54, 55, 56, 57, 58, 59, 60, 61, 62, 63, 64, 65, 66, 67, 68, 69, 70, 71, 72, 73, 74, 75, 76] (by decide +kernel) (by decide +kernel)) (goodIn_sub (fun _ h => List.mem_cons_of_mem _ (List.mem_append_left _ (List.mem_append_right _ h))) (by decide +kernel))) (goodIn_sub (fun _ h => List.mem_cons_of_mem _ (List.mem_append_right _ h)) (by decide +kernel))
set_option maxRecDepth 20000 in
theorem gL_toldSign_X2_toldSign : GoodIn wsL_toldSign (wsV RL 63 RX2 yX2_toldSign wsX2_toldSign) := goodIn_app (goodIn_of _ (by decide +kernel)) ggL_toldSign_X2_toldSign
theorem dL_toldSign_0 : decode cL_toldSign 0 = .ok (.aload 6, 2) := by decide +kernel
theorem dL_toldSign_2 : decode cL_toldSign 2 = .ok (.iconst 0, 1) := by decide +kernel
theorem dL_toldSign_3 : decode cL_toldSign 3 = .ok (.aload_n 0, 1) := by decide +kernel
theorem dL_toldSign_4 : decode cL_toldSign 4 = .ok (.iload_n 1, 1) := by decide +kernel
theorem dL_toldSign_5 : decode cL_toldSign 5 = .ok (.iload_n 2, 1) := by decide +kernel
theorem dL_toldSign_6 : decode cL_toldSign 6 = .ok (.iload_n 3, 1) := by decide +kernel
theorem dL_toldSign_7 : decode cL_toldSign 7 = .ok (.iload 4, 2) := by decide +kernel
theorem dL_toldSign_9 : decode cL_toldSign 9 = .ok (.iload 5, 2) := by decide +kernel
theorem dL_toldSign_11 : decode cL_toldSign 11 = .ok (.invokevirtual 63, 3) := by decide +kernel
theorem dL_toldSign_14 : decode cL_toldSign 14 = .ok (.i2l, 1) := by decide +kernel
theorem dL_toldSign_15 : decode cL_toldSign 15 = .ok (.lastore, 1) := by decide +kernel
theorem dL_toldSign_16 : decode cL_toldSign 16 = .ok (.goto 11, 3) := by decide +kernel
theorem dL_toldSign_19 : decode cL_toldSign 19 = .ok (.astore 7, 2) := by decide +kernel
theorem dL_toldSign_21 : decode cL_toldSign 21 = .ok (.iconst 1, 1) := by decide +kernel
theorem dL_toldSign_22 : decode cL_toldSign 22 = .ok (.ireturn, 1) := by decide +kernel
theorem dL_toldSign_23 : decode cL_toldSign 23 = .ok (.astore 7, 2) := by decide +kernel
theorem dL_toldSign_25 : decode cL_toldSign 25 = .ok (.iconst 2, 1) := by decide +kernel
theorem dL_toldSign_26 : decode cL_toldSign 26 = .ok (.ireturn, 1) := by decide +kernel
theorem dL_toldSign_27 : decode cL_toldSign 27 = .ok (.iconst 0, 1) := by decide +kernel
theorem dL_toldSign_28 : decode cL_toldSign 28 = .ok (.ireturn, 1) := by decide +kernel
set_option maxRecDepth 20000 in
theorem ggL_nearDistance_X2_nearDistance : GoodIn wsL_nearDistance wsX2_nearDistance := goodIn_ca (goodIn_r _ [6, 7, 8, 9, 10, 5, 11, 12, 13, 14, 15, 16, 17, 18, 19, 20, 21, 22, 23, 24, 25, 26, 27, 28, 29, 30, 31, 32, 33, 34, 35, 36, 37, 38, 39, 40, 41, 42, 43, 44, 45, 46, 47, 48, 49, 50, 51, 52, 53, 54, 55, 56, 57, 58, 59, 60, 61, 62, 63, 64, 65, 66, 67, 68, 69, 70, 71, 72, 73, 74, 75, 76, 77, 78, 79, 80, 81, 82, 83, 84, 85, 86, 87] (by decide +kernel) (by decide +kernel)) (goodIn_sub (fun _ h => List.mem_cons_of_mem _ (List.mem_append_right _ h)) (by decide +kernel))
set_option maxRecDepth 20000 in
theorem gL_nearDistance_X2_nearDistance : GoodIn wsL_nearDistance (wsV RL 67 RX2 yX2_nearDistance wsX2_nearDistance) := goodIn_app (goodIn_of _ (by decide +kernel)) ggL_nearDistance_X2_nearDistance
theorem dL_nearDistance_0 : decode cL_nearDistance 0 = .ok (.aload 5, 2) := by decide +kernel
theorem dL_nearDistance_2 : decode cL_nearDistance 2 = .ok (.iconst 0, 1) := by decide +kernel
theorem dL_nearDistance_3 : decode cL_nearDistance 3 = .ok (.aload_n 0, 1) := by decide +kernel
theorem dL_nearDistance_4 : decode cL_nearDistance 4 = .ok (.iload_n 1, 1) := by decide +kernel
theorem dL_nearDistance_5 : decode cL_nearDistance 5 = .ok (.iload_n 2, 1) := by decide +kernel
theorem dL_nearDistance_6 : decode cL_nearDistance 6 = .ok (.iload_n 3, 1) := by decide +kernel
theorem dL_nearDistance_7 : decode cL_nearDistance 7 = .ok (.iload 4, 2) := by decide +kernel
theorem dL_nearDistance_9 : decode cL_nearDistance 9 = .ok (.invokevirtual 67, 3) := by decide +kernel
theorem dL_nearDistance_12 : decode cL_nearDistance 12 = .ok (.i2l, 1) := by decide +kernel
theorem dL_nearDistance_13 : decode cL_nearDistance 13 = .ok (.lastore, 1) := by decide +kernel
theorem dL_nearDistance_14 : decode cL_nearDistance 14 = .ok (.goto 7, 3) := by decide +kernel
theorem dL_nearDistance_17 : decode cL_nearDistance 17 = .ok (.astore 6, 2) := by decide +kernel
theorem dL_nearDistance_19 : decode cL_nearDistance 19 = .ok (.iconst 1, 1) := by decide +kernel
theorem dL_nearDistance_20 : decode cL_nearDistance 20 = .ok (.ireturn, 1) := by decide +kernel
theorem dL_nearDistance_21 : decode cL_nearDistance 21 = .ok (.iconst 0, 1) := by decide +kernel
theorem dL_nearDistance_22 : decode cL_nearDistance 22 = .ok (.ireturn, 1) := by decide +kernel
set_option maxRecDepth 20000 in
theorem ggL_nearSign_X2_nearSign : GoodIn wsL_nearSign wsX2_nearSign := goodIn_ca (goodIn_r _ [6, 7, 8, 9, 10, 11, 12, 13, 5, 14, 15, 16, 17, 18, 19, 20, 21, 22, 23, 24, 25, 26, 27, 28, 29, 30, 31, 32, 33, 34, 35, 36, 37, 38, 39, 40, 41, 42, 43, 44, 45, 46, 47, 48, 49, 50, 51, 52, 53, 54, 55, 56, 57, 58, 59, 60, 61, 62, 63, 64, 65, 66, 67, 68, 69, 70, 71, 72, 73, 74, 75, 76, 77, 78, 79, 80, 81, 82, 83, 84, 85, 86, 87, 88] (by decide +kernel) (by decide +kernel)) (goodIn_sub (fun _ h => List.mem_cons_of_mem _ (List.mem_append_right _ h)) (by decide +kernel))
set_option maxRecDepth 20000 in
theorem gL_nearSign_X2_nearSign : GoodIn wsL_nearSign (wsV RL 70 RX2 yX2_nearSign wsX2_nearSign) := goodIn_app (goodIn_of _ (by decide +kernel)) ggL_nearSign_X2_nearSign
theorem dL_nearSign_0 : decode cL_nearSign 0 = .ok (.aload 6, 2) := by decide +kernel
theorem dL_nearSign_2 : decode cL_nearSign 2 = .ok (.iconst 0, 1) := by decide +kernel
theorem dL_nearSign_3 : decode cL_nearSign 3 = .ok (.aload_n 0, 1) := by decide +kernel
theorem dL_nearSign_4 : decode cL_nearSign 4 = .ok (.iload_n 1, 1) := by decide +kernel
theorem dL_nearSign_5 : decode cL_nearSign 5 = .ok (.iload_n 2, 1) := by decide +kernel
theorem dL_nearSign_6 : decode cL_nearSign 6 = .ok (.iload_n 3, 1) := by decide +kernel
theorem dL_nearSign_7 : decode cL_nearSign 7 = .ok (.iload 4, 2) := by decide +kernel
theorem dL_nearSign_9 : decode cL_nearSign 9 = .ok (.iload 5, 2) := by decide +kernel
theorem dL_nearSign_11 : decode cL_nearSign 11 = .ok (.invokevirtual 70, 3) := by decide +kernel
theorem dL_nearSign_14 : decode cL_nearSign 14 = .ok (.i2l, 1) := by decide +kernel
theorem dL_nearSign_15 : decode cL_nearSign 15 = .ok (.lastore, 1) := by decide +kernel
theorem dL_nearSign_16 : decode cL_nearSign 16 = .ok (.goto 7, 3) := by decide +kernel
theorem dL_nearSign_19 : decode cL_nearSign 19 = .ok (.astore 7, 2) := by decide +kernel
theorem dL_nearSign_21 : decode cL_nearSign 21 = .ok (.iconst 1, 1) := by decide +kernel
theorem dL_nearSign_22 : decode cL_nearSign 22 = .ok (.ireturn, 1) := by decide +kernel
theorem dL_nearSign_23 : decode cL_nearSign 23 = .ok (.iconst 0, 1) := by decide +kernel
theorem dL_nearSign_24 : decode cL_nearSign 24 = .ok (.ireturn, 1) := by decide +kernel
set_option maxRecDepth 20000 in
theorem ggL_law_X2_init : GoodIn wsL_law wsX2_init := goodIn_r _ [9, 10, 11, 12, 13, 14, 15, 16, 17, 18, 19, 20, 21, 22, 23, 24, 25, 26, 27, 28, 29, 30, 31, 32, 33, 34, 35, 36, 37, 38, 39, 40, 41, 42, 43, 44, 45, 46, 580, 581, 582, 583, 584, 585, 586, 587, 588, 589, 611, 612, 613] (by decide +kernel) (by decide +kernel)
set_option maxRecDepth 20000 in
theorem gL_law_X2_init : GoodIn wsL_law (wsX2_init) := ggL_law_X2_init
set_option maxRecDepth 20000 in
theorem ggL_law_X3_init : GoodIn wsL_law wsX3_init := goodIn_r _ [49, 50, 11, 12, 13, 51, 52, 53, 54, 55, 56, 57, 58, 59, 60, 61, 62, 63, 64, 65, 66, 67, 590, 591, 592, 593, 594, 595, 596, 597, 598, 599, 600, 601, 602, 603, 604, 605, 606, 607, 608, 609, 610] (by decide +kernel) (by decide +kernel)
set_option maxRecDepth 20000 in
theorem gL_law_X3_init : GoodIn wsL_law (wsX3_init) := ggL_law_X3_init
set_option maxRecDepth 20000 in
theorem ggL_law_L_setFallback : GoodIn wsL_law wsL_setFallback := goodIn_ca (goodIn_ca (goodIn_r _ [71, 72, 73, 74, 75, 76, 2, 77, 78, 79, 80, 81, 14, 82, 83, 84, 85, 86, 87, 88, 580, 581, 582, 583, 584, 585, 586, 587, 588, 589] (by decide +kernel) (by decide +kernel)) (goodIn_sub (fun _ h => List.mem_append_left _ (List.mem_append_left _ (List.mem_append_right _ h))) (by decide +kernel))) (goodIn_sub (fun _ h => List.mem_append_left _ (List.mem_append_right _ h)) (by decide +kernel))
set_option maxRecDepth 20000 in
theorem gL_law_L_setFallback : GoodIn wsL_law (va_wsS RL 77 yL_setFallback wsL_setFallback) := goodIn_app (goodIn_of _ (by decide +kernel)) ggL_law_L_setFallback
set_option maxRecDepth 20000 in
theorem ggL_law_X3_setFallback : GoodIn wsL_law wsX3_setFallback := goodIn_r _ [92, 51, 93, 94, 5, 95, 96, 97, 98, 99, 100, 101, 102, 103, 104, 105, 106, 107, 590, 591, 592, 593, 594, 595, 596, 597, 598, 599, 600, 601, 602, 603, 604, 605, 606, 607, 608, 609, 610] (by decide +kernel) (by decide +kernel)
set_option maxRecDepth 20000 in
theorem gL_law_X3_setFallback : GoodIn wsL_law (wsV RL 82 RX3 yX3_setFallback wsX3_setFallback) := goodIn_app (goodIn_of _ (by decide +kernel)) ggL_law_X3_setFallback
set_option maxRecDepth 20000 in
theorem ggL_law_X3_thrown : GoodIn wsL_law wsX3_thrown := goodIn_r _ [111, 107, 590, 591, 592, 593, 594, 595, 596, 597, 598, 599, 600, 601, 602, 603, 604, 605, 606, 607, 608, 609, 610] (by decide +kernel) (by decide +kernel)
set_option maxRecDepth 20000 in
theorem gL_law_X3_thrown : GoodIn wsL_law (wsV RL 83 RX3 yX3_thrown wsX3_thrown) := goodIn_app (goodIn_of _ (by decide +kernel)) ggL_law_X3_thrown
set_option maxRecDepth 20000 in
theorem ggL_law_L_setNumbers : GoodIn wsL_law wsL_setNumbers := goodIn_ca (goodIn_ca (goodIn_r _ [114, 72, 73, 115, 116, 117, 2, 118, 15, 16, 82, 83, 84, 78, 79, 119, 120, 121, 80, 81, 580, 581, 582, 583, 584, 585, 586, 587, 588, 589] (by decide +kernel) (by decide +kernel)) (goodIn_sub (fun _ h => List.mem_append_left _ (List.mem_append_left _ (List.mem_append_right _ h))) (by decide +kernel))) (goodIn_sub (fun _ h => List.mem_append_left _ (List.mem_append_right _ h)) (by decide +kernel))
set_option maxRecDepth 20000 in
theorem gL_law_L_setNumbers : GoodIn wsL_law (va_wsS RL 87 yL_setNumbers wsL_setNumbers) := goodIn_app (goodIn_of _ (by decide +kernel)) ggL_law_L_setNumbers
set_option maxRecDepth 20000 in
theorem ggL_law_X3_setNumbers : GoodIn wsL_law wsX3_setNumbers := goodIn_r _ [125, 52, 53, 96, 97, 5, 98, 93, 94, 95, 103, 104, 105, 106, 107, 590, 591, 592, 593, 594, 595, 596, 597, 598, 599, 600, 601, 602, 603, 604, 605, 606, 607, 608, 609, 610] (by decide +kernel) (by decide +kernel)
set_option maxRecDepth 20000 in
theorem gL_law_X3_setNumbers : GoodIn wsL_law (wsV RL 90 RX3 yX3_setNumbers wsX3_setNumbers) := goodIn_app (goodIn_of _ (by decide +kernel)) ggL_law_X3_setNumbers
set_option maxRecDepth 20000 in
theorem ggL_law_L_sign : GoodIn wsL_law wsL_sign := goodIn_ca (goodIn_ca (goodIn_r _ [128, 73, 129, 130, 131, 132, 2, 133, 80, 81, 134, 135, 18, 17, 136, 137, 138, 139, 140, 141, 580, 581, 582, 583, 584, 585, 586, 587, 588, 589] (by decide +kernel) (by decide +kernel)) (goodIn_sub (fun _ h => List.mem_append_left _ (List.mem_append_right _ h)) (by decide +kernel))) (goodIn_sub (fun _ h => List.mem_append_right _ h) (by decide +kernel))
set_option maxRecDepth 20000 in
theorem gL_law_L_sign : GoodIn wsL_law (va_wsS RL 91 yL_sign wsL_sign) := goodIn_app (goodIn_of _ (by decide +kernel)) ggL_law_L_sign
set_option maxRecDepth 20000 in
theorem ggL_law_X3_sign : GoodIn wsL_law wsX3_sign := goodIn_r _ [145, 146, 54, 93, 94, 5, 95, 103, 104, 105, 106, 107, 590, 591, 592, 593, 594, 595, 596, 597, 598, 599, 600, 601, 602, 603, 604, 605, 606, 607, 608, 609, 610] (by decide +kernel) (by decide +kernel)
set_option maxRecDepth 20000 in
theorem gL_law_X3_sign : GoodIn wsL_law (wsV RL 94 RX3 yX3_sign wsX3_sign) := goodIn_app (goodIn_of _ (by decide +kernel)) ggL_law_X3_sign
set_option maxRecDepth 20000 in
theorem ggL_law_L_set : GoodIn wsL_law wsL_set := goodIn_ca (goodIn_ca (goodIn_r _ [149, 72, 129, 150, 151, 152, 2, 153, 134, 135, 18, 17, 19, 154, 155, 21, 156, 157, 158, 78, 79, 159, 160, 161, 82, 83, 84, 162, 163, 164, 165, 166, 30, 167, 168, 169, 170, 171, 172, 173, 13, 174, 175, 176, 177, 178, 179, 180, 181, 182, 183, 184, 139, 140, 141, 185, 186, 187, 188, 11, 12, 189, 190, 191, 192, 193, 194, 195, 20, 22, 196, 197, 198, 199, 200, 201, 202, 203, 204, 205, 206, 207, 208, 209, 210, 211, 212, 213, 214, 215, 216, 217, 218, 219, 26, 220, 221, 222, 25, 223, 224, 225, 226, 227, 228, 36, 229, 230, 231, 232, 233, 234, 235, 236, 237, 238, 239, 240, 241, 242, 243, 244, 245, 246, 247, 248, 249, 250, 251, 252, 253, 254, 255, 256, 257, 258, 259, 35, 260, 261, 262, 263, 264, 265, 266, 267, 268, 269, 270, 271, 272, 273, 274, 275, 276, 277, 278, 279, 280, 281, 282, 283, 284, 580, 581, 582, 583, 584, 585, 586, 587, 588, 589, 614, 615, 616, 617, 618, 619, 611, 612, 613] (by decide +kernel) (by decide +kernel)) (goodIn_sub (fun _ h => List.mem_append_right _ h) (by decide +kernel))) (goodIn_sub (fun _ h => List.mem_append_left _ (List.mem_append_left _ (List.mem_append_right _ h))) (by decide +kernel))
set_option maxRecDepth 20000 in
theorem gL_law_L_set : GoodIn wsL_law (va_wsS RL 95 yL_set wsL_set) := goodIn_app (goodIn_of _ (by decide +kernel)) ggL_law_L_set
set_option maxRecDepth 20000 in
theorem ggL_law_X3_set : GoodIn wsL_law wsX3_set := goodIn_r _ [288, 146, 58, 54, 55, 57, 59, 289, 290, 5, 291, 292, 293, 294, 93, 94, 95, 96, 97, 98, 295, 296, 297, 103, 104, 105, 106, 107, 298, 299, 300, 301, 302, 303, 304, 60, 305, 306, 307, 308, 309, 61, 62, 63, 64, 65, 310, 311, 312, 313, 590, 591, 592, 593, 594, 595, 596, 597, 598, 599, 600, 601, 602, 603, 604, 605, 606, 607, 608, 609, 610] (by decide +kernel) (by decide +kernel)
set_option maxRecDepth 20000 in
theorem gL_law_X3_set : GoodIn wsL_law (wsV RL 98 RX3 yX3_set wsX3_set) := goodIn_app (goodIn_of _ (by decide +kernel)) ggL_law_X3_set
set_option maxRecDepth 20000 in
theorem ggL_law_L_remove : GoodIn wsL_law wsL_remove := goodIn_ca (goodIn_ca (goodIn_r _ [316, 72, 129, 317, 318, 319, 2, 320, 134, 135, 20, 321, 156, 157, 158, 78, 79, 159, 160, 161, 82, 83, 84, 162, 163, 164, 196, 197, 198, 199, 200, 201, 192, 193, 194, 195, 21, 22, 202, 203, 204, 205, 206, 207, 208, 209, 210, 211, 212, 11, 12, 213, 214, 215, 216, 217, 218, 219, 26, 220, 221, 222, 25, 223, 224, 225, 226, 227, 228, 36, 229, 230, 231, 232, 233, 234, 235, 236, 237, 238, 239, 240, 241, 242, 243, 179, 180, 181, 244, 245, 246, 247, 248, 249, 250, 251, 252, 253, 254, 255, 256, 257, 258, 259, 35, 260, 261, 176, 262, 263, 264, 265, 266, 267, 268, 269, 270, 271, 272, 273, 274, 30, 275, 276, 277, 278, 279, 280, 281, 282, 283, 284, 174, 175, 177, 178, 580, 581, 582, 583, 584, 585, 586, 587, 588, 589, 614, 615, 616, 617, 618, 619, 611, 612, 613] (by decide +kernel) (by decide +kernel)) (goodIn_sub (fun _ h => List.mem_append_right _ h) (by decide +kernel))) (goodIn_sub (fun _ h => List.mem_append_left _ (List.mem_append_left _ (List.mem_append_right _ h))) (by decide +kernel))
set_option maxRecDepth 20000 in
theorem gL_law_L_remove : GoodIn wsL_law (va_wsS RL 99 yL_remove wsL_remove) := goodIn_app (goodIn_of _ (by decide +kernel)) ggL_law_L_remove
set_option maxRecDepth 20000 in
theorem ggL_law_X3_remove : GoodIn wsL_law wsX3_remove := goodIn_r _ [325, 55, 289, 290, 5, 291, 292, 293, 294, 93, 94, 95, 96, 97, 98, 295, 296, 297, 298, 299, 300, 103, 104, 105, 106, 107, 301, 302, 303, 304, 59, 60, 305, 306, 307, 308, 309, 61, 62, 63, 64, 58, 65, 310, 311, 312, 313, 590, 591, 592, 593, 594, 595, 596, 597, 598, 599, 600, 601, 602, 603, 604, 605, 606, 607, 608, 609, 610] (by decide +kernel) (by decide +kernel)
set_option maxRecDepth 20000 in
theorem gL_law_X3_remove : GoodIn wsL_law (wsV RL 102 RX3 yX3_remove wsX3_remove) := goodIn_app (goodIn_of _ (by decide +kernel)) ggL_law_X3_remove
set_option maxRecDepth 20000 in
theorem ggL_law_X2_draft : GoodIn wsL_law wsX2_draft := goodIn_r _ [329, 18, 580, 581, 582, 583, 584, 585, 586, 587, 588, 589] (by decide +kernel) (by decide +kernel)
set_option maxRecDepth 20000 in
theorem gL_law_X2_draft : GoodIn wsL_law (wsV RL 103 RX2 yX2_draft wsX2_draft) := goodIn_app (goodIn_of _ (by decide +kernel)) ggL_law_X2_draft
set_option maxRecDepth 20000 in
theorem ggL_law_X3_draft : GoodIn wsL_law wsX3_draft := goodIn_r _ [333, 107, 146, 590, 591, 592, 593, 594, 595, 596, 597, 598, 599, 600, 601, 602, 603, 604, 605, 606, 607, 608, 609, 610] (by decide +kernel) (by decide +kernel)
set_option maxRecDepth 20000 in
theorem gL_law_X3_draft : GoodIn wsL_law (wsV RL 106 RX3 yX3_draft wsX3_draft) := goodIn_app (goodIn_of _ (by decide +kernel)) ggL_law_X3_draft
set_option maxRecDepth 20000 in
theorem ggL_law_L_kindOf : GoodIn wsL_law wsL_kindOf := goodIn_ca (goodIn_ca (goodIn_r _ [336, 72, 73, 337, 338, 339, 2, 340, 82, 83, 84, 78, 79, 341, 342, 343, 80, 81, 344, 345, 346, 347, 15, 16, 580, 581, 582, 583, 584, 585, 586, 587, 588, 589] (by decide +kernel) (by decide +kernel)) (goodIn_sub (fun _ h => List.mem_append_left _ (List.mem_append_left _ (List.mem_append_right _ h))) (by decide +kernel))) (goodIn_sub (fun _ h => List.mem_append_left _ (List.mem_append_right _ h)) (by decide +kernel))
set_option maxRecDepth 20000 in
theorem gL_law_L_kindOf : GoodIn wsL_law (va_wsS RL 107 yL_kindOf wsL_kindOf) := goodIn_app (goodIn_of _ (by decide +kernel)) ggL_law_L_kindOf
set_option maxRecDepth 20000 in
theorem ggL_law_X3_kindOf : GoodIn wsL_law wsX3_kindOf := goodIn_r _ [351, 96, 97, 5, 98, 93, 94, 95, 103, 104, 105, 106, 107, 352, 353, 354, 355, 52, 53, 590, 591, 592, 593, 594, 595, 596, 597, 598, 599, 600, 601, 602, 603, 604, 605, 606, 607, 608, 609, 610] (by decide +kernel) (by decide +kernel)
set_option maxRecDepth 20000 in
theorem gL_law_X3_kindOf : GoodIn wsL_law (wsV RL 109 RX3 yX3_kindOf wsX3_kindOf) := goodIn_app (goodIn_of _ (by decide +kernel)) ggL_law_X3_kindOf
set_option maxRecDepth 20000 in
theorem ggL_law_L_forms : GoodIn wsL_law wsL_forms := goodIn_ca (goodIn_r _ [358, 72, 359, 360, 361, 2, 362, 159, 160, 161, 78, 79, 82, 83, 84, 363, 364, 365, 366, 20, 196, 197, 198, 199, 200, 201, 580, 581, 582, 583, 584, 585, 586, 587, 588, 589] (by decide +kernel) (by decide +kernel)) (goodIn_sub (fun _ h => List.mem_append_left _ (List.mem_append_left _ (List.mem_append_right _ h))) (by decide +kernel))
set_option maxRecDepth 20000 in
theorem gL_law_L_forms : GoodIn wsL_law (va_wsS RL 110 yL_forms wsL_forms) := goodIn_app (goodIn_of _ (by decide +kernel)) ggL_law_L_forms
set_option maxRecDepth 20000 in
theorem ggL_law_X3_forms : GoodIn wsL_law wsX3_forms := goodIn_r _ [370, 292, 293, 5, 294, 93, 94, 95, 96, 97, 98, 103, 104, 105, 106, 107, 371, 372, 373, 374, 55, 590, 591, 592, 593, 594, 595, 596, 597, 598, 599, 600, 601, 602, 603, 604, 605, 606, 607, 608, 609, 610] (by decide +kernel) (by decide +kernel)
set_option maxRecDepth 20000 in
theorem gL_law_X3_forms : GoodIn wsL_law (wsV RL 112 RX3 yX3_forms wsX3_forms) := goodIn_app (goodIn_of _ (by decide +kernel)) ggL_law_X3_forms
set_option maxRecDepth 20000 in
theorem ggL_law_L_version : GoodIn wsL_law wsL_version := goodIn_ca (goodIn_r _ [377, 72, 378, 379, 380, 2, 381, 21, 159, 160, 161, 78, 79, 580, 581, 582, 583, 584, 585, 586, 587, 588, 589] (by decide +kernel) (by decide +kernel)) (goodIn_sub (fun _ h => List.mem_append_left _ (List.mem_append_left _ (List.mem_append_right _ h))) (by decide +kernel))
set_option maxRecDepth 20000 in
theorem gL_law_L_version : GoodIn wsL_law (va_wsS RL 113 yL_version wsL_version) := goodIn_app (goodIn_of _ (by decide +kernel)) ggL_law_L_version
set_option maxRecDepth 20000 in
theorem ggL_law_X3_version : GoodIn wsL_law wsX3_version := goodIn_r _ [385, 59, 292, 293, 5, 294, 93, 94, 95, 103, 104, 105, 106, 107, 590, 591, 592, 593, 594, 595, 596, 597, 598, 599, 600, 601, 602, 603, 604, 605, 606, 607, 608, 609, 610] (by decide +kernel) (by decide +kernel)
set_option maxRecDepth 20000 in
theorem gL_law_X3_version : GoodIn wsL_law (wsV RL 115 RX3 yX3_version wsX3_version) := goodIn_app (goodIn_of _ (by decide +kernel)) ggL_law_X3_version
set_option maxRecDepth 20000 in
theorem ggL_law_L_staleBy : GoodIn wsL_law wsL_staleBy := goodIn_ca (goodIn_r _ [388, 72, 389, 390, 391, 2, 392, 21, 22, 159, 160, 161, 78, 79, 82, 83, 84, 363, 364, 365, 366, 20, 196, 197, 198, 199, 200, 201, 580, 581, 582, 583, 584, 585, 586, 587, 588, 589] (by decide +kernel) (by decide +kernel)) (goodIn_sub (fun _ h => List.mem_append_left _ (List.mem_append_left _ (List.mem_append_right _ h))) (by decide +kernel))
set_option maxRecDepth 20000 in
theorem gL_law_L_staleBy : GoodIn wsL_law (va_wsS RL 116 yL_staleBy wsL_staleBy) := goodIn_app (goodIn_of _ (by decide +kernel)) ggL_law_L_staleBy
set_option maxRecDepth 20000 in
theorem ggL_law_X3_staleBy : GoodIn wsL_law wsX3_staleBy := goodIn_r _ [396, 59, 60, 292, 293, 5, 294, 93, 94, 95, 96, 97, 98, 103, 104, 105, 106, 107, 371, 372, 373, 374, 55, 590, 591, 592, 593, 594, 595, 596, 597, 598, 599, 600, 601, 602, 603, 604, 605, 606, 607, 608, 609, 610] (by decide +kernel) (by decide +kernel)
set_option maxRecDepth 20000 in
theorem gL_law_X3_staleBy : GoodIn wsL_law (wsV RL 118 RX3 yX3_staleBy wsX3_staleBy) := goodIn_app (goodIn_of _ (by decide +kernel)) ggL_law_X3_staleBy
set_option maxRecDepth 20000 in
theorem ggL_law_L_missing : GoodIn wsL_law wsL_missing := goodIn_ca (goodIn_r _ [399, 72, 400, 401, 402, 2, 403, 82, 83, 84, 78, 79, 363, 364, 365, 366, 20, 196, 197, 198, 199, 200, 201, 580, 581, 582, 583, 584, 585, 586, 587, 588, 589] (by decide +kernel) (by decide +kernel)) (goodIn_sub (fun _ h => List.mem_append_left _ (List.mem_append_left _ (List.mem_append_right _ h))) (by decide +kernel))
set_option maxRecDepth 20000 in
theorem gL_law_L_missing : GoodIn wsL_law (va_wsS RL 119 yL_missing wsL_missing) := goodIn_app (goodIn_of _ (by decide +kernel)) ggL_law_L_missing
set_option maxRecDepth 20000 in
theorem ggL_law_X3_missing : GoodIn wsL_law wsX3_missing := goodIn_r _ [407, 96, 97, 5, 98, 93, 94, 95, 103, 104, 105, 106, 107, 371, 372, 373, 374, 55, 590, 591, 592, 593, 594, 595, 596, 597, 598, 599, 600, 601, 602, 603, 604, 605, 606, 607, 608, 609, 610] (by decide +kernel) (by decide +kernel)
set_option maxRecDepth 20000 in
theorem gL_law_X3_missing : GoodIn wsL_law (wsV RL 121 RX3 yX3_missing wsX3_missing) := goodIn_app (goodIn_of _ (by decide +kernel)) ggL_law_X3_missing
set_option maxRecDepth 20000 in
theorem ggL_law_L_fits : GoodIn wsL_law wsL_fits := goodIn_ca (goodIn_r _ [410, 72, 411, 412, 413, 2, 414, 20, 156, 157, 158, 78, 79, 159, 160, 161, 82, 83, 84, 162, 163, 164, 196, 197, 198, 199, 200, 201, 415, 416, 417, 418, 419, 420, 421, 422, 423, 424, 580, 581, 582, 583, 584, 585, 586, 587, 588, 589, 614, 615, 616] (by decide +kernel) (by decide +kernel)) (goodIn_sub (fun _ h => List.mem_append_left _ (List.mem_append_left _ (List.mem_append_right _ h))) (by decide +kernel))
set_option maxRecDepth 20000 in
theorem gL_law_L_fits : GoodIn wsL_law (va_wsS RL 122 yL_fits wsL_fits) := goodIn_app (goodIn_of _ (by decide +kernel)) ggL_law_L_fits
set_option maxRecDepth 20000 in
theorem ggL_law_X3_fits : GoodIn wsL_law wsX3_fits := goodIn_r _ [428, 289, 290, 5, 291, 292, 293, 294, 93, 94, 95, 96, 97, 98, 295, 296, 297, 103, 104, 105, 106, 107, 298, 299, 300, 429, 430, 431, 432, 55, 57, 433, 434, 435, 436, 58, 590, 591, 592, 593, 594, 595, 596, 597, 598, 599, 600, 601, 602, 603, 604, 605, 606, 607, 608, 609, 610] (by decide +kernel) (by decide +kernel)
set_option maxRecDepth 20000 in
theorem gL_law_X3_fits : GoodIn wsL_law (wsV RL 124 RX3 yX3_fits wsX3_fits) := goodIn_app (goodIn_of _ (by decide +kernel)) ggL_law_X3_fits
set_option maxRecDepth 20000 in
theorem ggL_law_L_toldBy : GoodIn wsL_law wsL_toldBy := goodIn_ca (goodIn_ca (goodIn_r _ [439, 72, 73, 440, 441, 442, 2, 443, 444, 445, 446, 159, 160, 161, 78, 79, 82, 83, 84, 162, 163, 164, 341, 342, 343, 80, 81, 447, 448, 449, 450, 14, 451, 452, 453, 454, 344, 345, 346, 347, 15, 16, 455, 456, 457, 458, 20, 196, 197, 198, 199, 200, 201, 415, 416, 417, 418, 419, 420, 421, 422, 423, 424, 459, 460, 461, 580, 581, 582, 583, 584, 585, 586, 587, 588, 589, 614, 615, 616] (by decide +kernel) (by decide +kernel)) (goodIn_sub (fun _ h => List.mem_append_left _ (List.mem_append_left _ (List.mem_append_right _ h))) (by decide +kernel))) (goodIn_sub (fun _ h => List.mem_append_left _ (List.mem_append_right _ h)) (by decide +kernel))
set_option maxRecDepth 20000 in
theorem gL_law_L_toldBy : GoodIn wsL_law (va_wsS RL 125 yL_toldBy wsL_toldBy) := goodIn_app (goodIn_of _ (by decide +kernel)) ggL_law_L_toldBy
set_option maxRecDepth 20000 in
theorem ggL_law_X3_toldBy : GoodIn wsL_law wsX3_toldBy := goodIn_r _ [465, 466, 467, 468, 469, 470, 5, 471, 292, 293, 294, 93, 94, 95, 96, 97, 98, 295, 296, 297, 103, 104, 105, 106, 107, 472, 473, 474, 475, 51, 352, 353, 354, 355, 52, 53, 298, 299, 300, 429, 430, 431, 432, 55, 57, 433, 434, 435, 436, 58, 590, 591, 592, 593, 594, 595, 596, 597, 598, 599, 600, 601, 602, 603, 604, 605, 606, 607, 608, 609, 610] (by decide +kernel) (by decide +kernel)
set_option maxRecDepth 20000 in
theorem gL_law_X3_toldBy : GoodIn wsL_law (wsV RL 127 RX3 yX3_toldBy wsX3_toldBy) := goodIn_app (goodIn_of _ (by decide +kernel)) ggL_law_X3_toldBy
set_option maxRecDepth 20000 in
theorem ggL_law_L_toldByLooking : GoodIn wsL_law wsL_toldByLooking := goodIn_ca (goodIn_ca (goodIn_r _ [478, 72, 73, 479, 480, 481, 2, 482, 444, 445, 446, 159, 160, 161, 78, 79, 82, 83, 84, 162, 163, 164, 341, 342, 343, 80, 81, 483, 484, 485, 486, 20, 196, 197, 198, 199, 200, 201, 487, 488, 489, 490, 459, 460, 461, 85, 86, 87, 88, 14, 344, 345, 346, 347, 15, 16, 491, 492, 493, 415, 416, 417, 418, 419, 420, 421, 422, 423, 424, 580, 581, 582, 583, 584, 585, 586, 587, 588, 589, 614, 615, 616] (by decide +kernel) (by decide +kernel)) (goodIn_sub (fun _ h => List.mem_append_left _ (List.mem_append_left _ (List.mem_append_right _ h))) (by decide +kernel))) (goodIn_sub (fun _ h => List.mem_append_left _ (List.mem_append_right _ h)) (by decide +kernel))
set_option maxRecDepth 20000 in
theorem gL_law_L_toldByLooking : GoodIn wsL_law (va_wsS RL 128 yL_toldByLooking wsL_toldByLooking) := goodIn_app (goodIn_of _ (by decide +kernel)) ggL_law_L_toldByLooking
set_option maxRecDepth 20000 in
theorem ggL_law_X3_toldByLooking : GoodIn wsL_law wsX3_toldByLooking := goodIn_r _ [497, 498, 463, 464, 5, 465, 466, 467, 468, 469, 470, 471, 292, 293, 294, 93, 94, 95, 96, 97, 98, 295, 296, 297, 103, 104, 105, 106, 107, 472, 473, 474, 475, 51, 352, 353, 354, 355, 52, 53, 298, 299, 300, 429, 430, 431, 432, 55, 57, 433, 434, 435, 436, 58, 590, 591, 592, 593, 594, 595, 596, 597, 598, 599, 600, 601, 602, 603, 604, 605, 606, 607, 608, 609, 610] (by decide +kernel) (by decide +kernel)
set_option maxRecDepth 20000 in
theorem gL_law_X3_toldByLooking : GoodIn wsL_law (wsV RL 130 RX3 yX3_toldByLooking wsX3_toldByLooking) := goodIn_app (goodIn_of _ (by decide +kernel)) ggL_law_X3_toldByLooking
set_option maxRecDepth 20000 in
theorem ggL_law_L_toldForm : GoodIn wsL_law wsL_toldForm := goodIn_ca (goodIn_ca (goodIn_r _ [501, 72, 73, 502, 503, 504, 2, 505, 444, 445, 446, 159, 160, 161, 78, 79, 82, 83, 84, 162, 163, 164, 341, 342, 343, 80, 81, 447, 448, 449, 450, 14, 451, 452, 453, 454, 344, 345, 346, 347, 15, 16, 455, 456, 457, 458, 20, 196, 197, 198, 199, 200, 201, 415, 416, 417, 418, 419, 420, 421, 422, 423, 424, 580, 581, 582, 583, 584, 585, 586, 587, 588, 589, 614, 615, 616] (by decide +kernel) (by decide +kernel)) (goodIn_sub (fun _ h => List.mem_append_left _ (List.mem_append_left _ (List.mem_append_right _ h))) (by decide +kernel))) (goodIn_sub (fun _ h => List.mem_append_left _ (List.mem_append_right _ h)) (by decide +kernel))
set_option maxRecDepth 20000 in
theorem gL_law_L_toldForm : GoodIn wsL_law (va_wsS RL 131 yL_toldForm wsL_toldForm) := goodIn_app (goodIn_of _ (by decide +kernel)) ggL_law_L_toldForm
set_option maxRecDepth 20000 in
theorem ggL_law_X3_toldForm : GoodIn wsL_law wsX3_toldForm := goodIn_r _ [509, 466, 468, 469, 470, 5, 471, 292, 293, 294, 93, 94, 95, 96, 97, 98, 295, 296, 297, 103, 104, 105, 106, 107, 472, 473, 474, 475, 467, 51, 352, 353, 354, 355, 52, 53, 298, 299, 300, 429, 430, 431, 432, 55, 57, 433, 434, 435, 436, 58, 590, 591, 592, 593, 594, 595, 596, 597, 598, 599, 600, 601, 602, 603, 604, 605, 606, 607, 608, 609, 610] (by decide +kernel) (by decide +kernel)
set_option maxRecDepth 20000 in
theorem gL_law_X3_toldForm : GoodIn wsL_law (wsV RL 133 RX3 yX3_toldForm wsX3_toldForm) := goodIn_app (goodIn_of _ (by decide +kernel)) ggL_law_X3_toldForm
set_option maxRecDepth 20000 in
theorem ggL_law_L_toldSign : GoodIn wsL_law wsL_toldSign := goodIn_ca (goodIn_ca (goodIn_r _ [512, 72, 73, 513, 514, 515, 2, 516, 78, 79, 20, 321, 444, 445, 446, 159, 160, 161, 82, 83, 84, 162, 163, 164, 341, 342, 343, 80, 81, 447, 448, 449, 450, 14, 451, 452, 453, 454, 344, 345, 346, 347, 15, 16, 455, 456, 457, 458, 196, 197, 198, 199, 200, 201, 415, 416, 417, 418, 419, 420, 421, 422, 423, 424, 580, 581, 582, 583, 584, 585, 586, 587, 588, 589, 614, 615, 616] (by decide +kernel) (by decide +kernel)) (goodIn_sub (fun _ h => List.mem_append_left _ (List.mem_append_left _ (List.mem_append_right _ h))) (by decide +kernel))) (goodIn_sub (fun _ h => List.mem_append_left _ (List.mem_append_right _ h)) (by decide +kernel))
set_option maxRecDepth 20000 in
theorem gL_law_L_toldSign : GoodIn wsL_law (va_wsS RL 134 yL_toldSign wsL_toldSign) := goodIn_app (goodIn_of _ (by decide +kernel)) ggL_law_L_toldSign
set_option maxRecDepth 20000 in
theorem ggL_law_X3_toldSign : GoodIn wsL_law wsX3_toldSign := goodIn_r _ [520, 466, 55, 58, 468, 469, 470, 5, 471, 292, 293, 294, 93, 94, 95, 96, 97, 98, 295, 296, 297, 103, 104, 105, 106, 107, 472, 473, 474, 475, 467, 51, 352, 353, 354, 355, 52, 53, 298, 299, 300, 429, 430, 431, 432, 57, 433, 434, 435, 436, 590, 591, 592, 593, 594, 595, 596, 597, 598, 599, 600, 601, 602, 603, 604, 605, 606, 607, 608, 609, 610] (by decide +kernel) (by decide +kernel)
set_option maxRecDepth 20000 in
theorem gL_law_X3_toldSign : GoodIn wsL_law (wsV RL 137 RX3 yX3_toldSign wsX3_toldSign) := goodIn_app (goodIn_of _ (by decide +kernel)) ggL_law_X3_toldSign
set_option maxRecDepth 20000 in
theorem ggL_law_X2_pairs : GoodIn wsL_law wsX2_pairs := goodIn_r _ [524, 26, 220, 221, 222, 25, 223, 224, 580, 581, 582, 583, 584, 585, 586, 587, 588, 589, 611, 612, 613] (by decide +kernel) (by decide +kernel)
set_option maxRecDepth 20000 in
theorem gL_law_X2_pairs : GoodIn wsL_law (wsV RL 138 RX2 yX2_pairs wsX2_pairs) := goodIn_app (goodIn_of _ (by decide +kernel)) ggL_law_X2_pairs
set_option maxRecDepth 20000 in
theorem ggL_law_X3_pairs : GoodIn wsL_law wsX3_pairs := goodIn_r _ [528, 107, 309, 590, 591, 592, 593, 594, 595, 596, 597, 598, 599, 600, 601, 602, 603, 604, 605, 606, 607, 608, 609, 610] (by decide +kernel) (by decide +kernel)
set_option maxRecDepth 20000 in
theorem gL_law_X3_pairs : GoodIn wsL_law (wsV RL 141 RX3 yX3_pairs wsX3_pairs) := goodIn_app (goodIn_of _ (by decide +kernel)) ggL_law_X3_pairs
set_option maxRecDepth 20000 in
theorem ggL_law_L_nearDistance : GoodIn wsL_law wsL_nearDistance := goodIn_ca (goodIn_r _ [531, 72, 532, 533, 534, 2, 535, 20, 536, 156, 157, 158, 78, 79, 159, 160, 161, 82, 83, 84, 162, 163, 164, 196, 197, 198, 199, 200, 201, 537, 538, 539, 540, 321, 26, 541, 542, 220, 221, 222, 25, 223, 224, 543, 544, 545, 546, 229, 230, 231, 232, 233, 234, 235, 236, 547, 548, 549, 550, 36, 551, 552, 553, 554, 27, 555, 175, 176, 177, 580, 581, 582, 583, 584, 585, 586, 587, 588, 589, 617, 618, 619, 614, 615, 616, 611, 612, 613] (by decide +kernel) (by decide +kernel)) (goodIn_sub (fun _ h => List.mem_append_left _ (List.mem_append_left _ (List.mem_append_right _ h))) (by decide +kernel))
set_option maxRecDepth 20000 in
theorem gL_law_L_nearDistance : GoodIn wsL_law (va_wsS RL 142 yL_nearDistance wsL_nearDistance) := goodIn_app (goodIn_of _ (by decide +kernel)) ggL_law_L_nearDistance
set_option maxRecDepth 20000 in
theorem ggL_law_X3_nearDistance : GoodIn wsL_law wsX3_nearDistance := goodIn_r _ [559, 289, 290, 5, 291, 292, 293, 294, 93, 94, 95, 96, 97, 98, 295, 296, 297, 103, 104, 105, 106, 107, 560, 561, 562, 563, 309, 55, 61, 298, 299, 300, 564, 565, 566, 567, 67, 62, 66, 58, 64, 590, 591, 592, 593, 594, 595, 596, 597, 598, 599, 600, 601, 602, 603, 604, 605, 606, 607, 608, 609, 610] (by decide +kernel) (by decide +kernel)
set_option maxRecDepth 20000 in
theorem gL_law_X3_nearDistance : GoodIn wsL_law (wsV RL 144 RX3 yX3_nearDistance wsX3_nearDistance) := goodIn_app (goodIn_of _ (by decide +kernel)) ggL_law_X3_nearDistance
set_option maxRecDepth 20000 in
theorem ggL_law_L_nearSign : GoodIn wsL_law wsL_nearSign := goodIn_ca (goodIn_r _ [570, 72, 571, 572, 573, 2, 574, 78, 79, 20, 575, 321, 156, 157, 158, 159, 160, 161, 82, 83, 84, 162, 163, 164, 196, 197, 198, 199, 200, 201, 537, 538, 539, 540, 26, 541, 542, 536, 220, 221, 222, 25, 223, 224, 543, 544, 545, 546, 229, 230, 231, 232, 233, 234, 235, 236, 547, 548, 549, 550, 36, 551, 552, 553, 554, 27, 555, 175, 176, 177, 580, 581, 582, 583, 584, 585, 586, 587, 588, 589, 617, 618, 619, 614, 615, 616, 611, 612, 613] (by decide +kernel) (by decide +kernel)) (goodIn_sub (fun _ h => List.mem_append_left _ (List.mem_append_left _ (List.mem_append_right _ h))) (by decide +kernel))
set_option maxRecDepth 20000 in
theorem gL_law_L_nearSign : GoodIn wsL_law (va_wsS RL 145 yL_nearSign wsL_nearSign) := goodIn_app (goodIn_of _ (by decide +kernel)) ggL_law_L_nearSign
set_option maxRecDepth 20000 in
theorem ggL_law_X3_nearSign : GoodIn wsL_law wsX3_nearSign := goodIn_r _ [579, 63, 65, 289, 290, 5, 291, 292, 293, 294, 93, 94, 95, 96, 97, 98, 295, 296, 297, 103, 104, 105, 106, 107, 560, 561, 562, 563, 309, 55, 61, 298, 299, 300, 564, 565, 566, 567, 67, 62, 66, 58, 64, 590, 591, 592, 593, 594, 595, 596, 597, 598, 599, 600, 601, 602, 603, 604, 605, 606, 607, 608, 609, 610] (by decide +kernel) (by decide +kernel)
set_option maxRecDepth 20000 in
theorem gL_law_X3_nearSign : GoodIn wsL_law (wsV RL 147 RX3 yX3_nearSign wsX3_nearSign) := goodIn_app (goodIn_of _ (by decide +kernel)) ggL_law_X3_nearSign
