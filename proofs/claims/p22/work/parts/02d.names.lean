set_option maxRecDepth 20000 in
theorem in_wsL_law0_r10 : ∀ w ∈ wsL_law0_r10, w ∈ lw_tbl := fun w h => (goodIn_p wsL_law0_r10 [390, 393, 407, 415, 418] (by decide +kernel) (by decide +kernel) w h).1
set_option maxRecDepth 20000 in
theorem in_wsL_law0_r11 : ∀ w ∈ wsL_law0_r11, w ∈ lw_tbl := fun w h => (goodIn_p wsL_law0_r11 [425, 430, 433, 441, 446] (by decide +kernel) (by decide +kernel) w h).1
def zz_r12 : List Cond := [Cond.methodLink RL 60 yL_told, Cond.static yL_told, Cond.code yL_told cL_told 15 (some .int), Cond.methodLink RL 15 yL_kind, Cond.static yL_kind, Cond.code yL_kind cL_kind 3 (some .int), Cond.methodLink RL 19 yL_fits, Cond.static yL_fits, Cond.code yL_fits cL_fits 11 (some .boolean), Cond.methodLink RL 9 yL_has, Cond.static yL_has, Cond.code yL_has cL_has 4 (some .boolean), Cond.methodLink RL 64 yX2_toldBy, Cond.instanceMethod yX2_toldBy, Cond.selects RX2 yX2_toldBy yX2_toldBy, Cond.code yX2_toldBy cX2_toldBy 5 (some .int), Cond.methodLink RX2 140 yX2_requireQuestion, Cond.static yX2_requireQuestion, Cond.code yX2_requireQuestion cX2_requireQuestion 4 none, Cond.methodLink RX2 121 yX2_requireNumber, Cond.static yX2_requireNumber, Cond.code yX2_requireNumber cX2_requireNumber 1 none, Cond.methodLink RX2 143 yX2_findAlongChain]
set_option maxRecDepth 20000 in
theorem in_zz_r12 : ∀ w ∈ zz_r12, w ∈ lw_tbl := fun w h => (goodIn_p zz_r12 [453, 456, 459, 462, 466, 469, 472] (by decide +kernel) (by decide +kernel) w h).1
set_option maxRecDepth 20000 in
theorem in_zz_told : (Cond.code yL_isTold cL_isTold 22 (some .boolean)) ∈ lw_tbl := List.mem_append_right _ (List.mem_of_getElem? (i := 430) rfl)
theorem in_wsL_law0_r12 : ∀ w ∈ wsL_law0_r12, w ∈ lw_tbl := fun w h => (List.mem_cons.mp (show w ∈ (Cond.code yL_isTold cL_isTold 22 (some .boolean)) :: zz_r12 from h)).elim (fun z => by rw [z]; exact in_zz_told) (fun z => in_zz_r12 w z)
set_option maxRecDepth 20000 in
theorem in_wsL_law0_r13 : ∀ w ∈ wsL_law0_r13, w ∈ lw_tbl := fun w h => (goodIn_p wsL_law0_r13 [477, 481, 485, 489, 493] (by decide +kernel) (by decide +kernel) w h).1
set_option maxRecDepth 20000 in
theorem in_wsL_law0_r14 : ∀ w ∈ wsL_law0_r14, w ∈ lw_tbl := fun w h => (goodIn_p wsL_law0_r14 [497, 500, 504, 508, 512, 515, 519] (by decide +kernel) (by decide +kernel) w h).1
set_option maxRecDepth 20000 in
theorem in_wsL_law0_r15 : ∀ w ∈ wsL_law0_r15, w ∈ lw_tbl := fun w h => (goodIn_p wsL_law0_r15 [526, 531, 534, 537, 541, 545] (by decide +kernel) (by decide +kernel) w h).1
