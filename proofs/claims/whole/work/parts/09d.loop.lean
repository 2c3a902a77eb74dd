theorem law_room {L i : Nat} (hL : L ≤ 3072) (hi : i < 2147483648) (h : ¬ nI L - nI 6 < nI i) : i + 6 ≤ L := by
  by_cases h6 : 6 ≤ L
  · rw [pk_sub h6] at h
    have h9 : ¬ (L - 6 < i) := fun q => h ((nI_ltI (by omega) hi).mpr q)
    omega
  · refine absurd (Int32.lt_iff_toInt_lt.mpr ?_) h
    rw [nI_toInt hi]
    have : (nI L - nI 6).toInt < 0 := by
      rcases (show L = 0 ∨ L = 1 ∨ L = 2 ∨ L = 3 ∨ L = 4 ∨ L = 5 by omega) with rfl | rfl | rfl | rfl | rfl | rfl <;> decide
    omega
set_option maxHeartbeats 4000000 in
set_option maxRecDepth 100000 in
theorem law_loop {p : Program} {l : Launch} {e : Env} {s : State} {m : MethodId} {below : List Frame} {meth : Method} {c : Code} {b L : Nat} {xs : Nat → Int32} (hl0 : l.stackTraces = false) (hL : L ≤ 3072) (C0 : lw_At p s m meth c b L xs) (K : m_K) (hE : ENV K (fun q => s.heap.size ≤ q) s) (o : Nat) (ad : Nat → Nat) (om : Nat) (adm : Nat → Nat) (out : Nat) (hNo : s.heap.size ≤ om) (hoo : om ≤ out) :
    ∀ (n j : Nat) (H : Heap) (locs : List Loc) (ls : Array Slot), 6 * j ≤ L → L + 1 ≤ 6 * j + n → LSt K s.heap.size o ad om adm out H → va_S (fun q => s.heap.size ≤ q) s.heap H locs → lv_has ls 7 [(4, .int (nI (6 * j))), (0, .ref b), (1, .ref o), (2, .ref om), (3, .ref out)] → W p l e room_1 s m #[Value.ref b] below meth c H locs (64 + 18 * j) (7000 + 220 * j) (lw_Z below #[Value.ref b] s) (F0 m 23 ls []) := by
  obtain ⟨hx, hb, hr, hml, hown, hts0, hX, hbl, hlocks, hgv⟩ := id C0
  have hbA : ¬ (fun q : Nat => s.heap.size ≤ q) b := Nat.not_le.mpr hbl
  intro n
  induction n with
  | zero =>
    intro j H locs ls h1 h2
    exact absurd h2 (by omega)
  | succ n ih =>
    intro j H locs ls hj hn hSt hS hl
    refine lv_iload hx hb dL_law_23 (lv_at hl 0 rfl) ?_
    refine lv_aload_n hx hb dL_law_25 rfl (lv_at hl 1 rfl) ?_
    refine va_slen hx hb hX hbl hbA hS dL_law_26 ?_
    refine lv_bipush (v := nI 6) hx hb dL_law_27 (by decide) ?_
    refine lv_isub hx hb dL_law_29 ?_
    refine lv_icmp_gt (tgt := 1551) hx hb dL_law_30 (by decide) (fun c_30 => ?_) (fun c_30 => ?_)
    · refine lv_iconst (v := 1) hx hb dL_law_1551 (by decide) ?_
      refine va_forget (fun q hq => hS.2.2 q hq) ?_
      refine W.widen (k := 601024) (n := 7293034) (by omega) (by omega) ?_
      exact lw_ret hx hb hr hlocks dL_law_1552
    · have hj6 : 6 * j + 6 ≤ L := law_room hL (by omega) c_30
      have kk : ∀ (H1 : Heap) (locs1 : List Loc) (ls1 : Array Slot), LSt K s.heap.size o ad om adm out H1 → va_S (fun q => s.heap.size ≤ q) s.heap H1 locs1 → lv_has ls1 7 [(4, .int (nI (6 * j))), (0, .ref b), (1, .ref o), (2, .ref om), (3, .ref out)] → W p l e room_1 s m #[Value.ref b] below meth c H1 locs1 (64 + 18 * (j + 1)) (7000 + 220 * (j + 1)) (lw_Z below #[Value.ref b] s) (F0 m 1545 ls1 []) := by
        intro H1 locs1 ls1 hSt1 hS1 hl1
        refine lv_iinc (v := nI (6 * j + 6)) (lv' := [(4, .int (nI (6 * j + 6))), (0, .ref b), (1, .ref o), (2, .ref om), (3, .ref out)]) hx hb dL_law_1545 hl1 (k := 0) rfl (nI_add _ 6) (by decide) rfl (fun ls hl => ?_)
        refine lv_goto (tgt := 23) hx hb dL_law_1548 (by decide) ?_
        exact ih (j + 1) H1 locs1 ls (by omega) (by omega) hSt1 hS1 hl
      refine lv_aload_n hx hb dL_law_33 rfl (lv_at hl 1 rfl) ?_
      refine lv_iload hx hb dL_law_34 (lv_at hl 0 rfl) ?_
      refine m_sld hx hb hX hbl hbA hS (by omega) (by omega) dL_law_36 ?_
      refine lv_bipush (v := nI 31) hx hb dL_law_37 (by decide) ?_
      refine lv_iand hx hb dL_law_39 ?_
      obtain ⟨t, ht, et⟩ := pk_andE (xs (6 * j)) (m := nI 31) 5 (by decide)
      rw [et]
      by_cases h0 : t = 0
      · subst h0
        refine lv_tableIn (off := 92) (tgt := 132) hx hb dL_law_40 (by decide) (by decide) (by decide) (by decide) ?_
        refine W.widen (k := 64 + 18 * j) (n := 7000 + 220 * j) (Nat.le_refl _) (Nat.le_refl _) ?_
        exact lc_setFallback hl0 hL C0 K hE o ad om adm out hNo hoo j hj6 hSt hS hl kk
      by_cases h1 : t = 1
      · subst h1
        refine lv_tableIn (off := 160) (tgt := 200) hx hb dL_law_40 (by decide) (by decide) (by decide) (by decide) ?_
        refine W.widen (k := 64 + 18 * j) (n := 7000 + 220 * j) (Nat.le_refl _) (Nat.le_refl _) ?_
        exact lc_setNumbers hl0 hL C0 K hE o ad om adm out hNo hoo j hj6 hSt hS hl kk
      by_cases h2 : t = 2
      · subst h2
        refine lv_tableIn (off := 220) (tgt := 260) hx hb dL_law_40 (by decide) (by decide) (by decide) (by decide) ?_
        refine W.widen (k := 64 + 18 * j) (n := 7000 + 220 * j) (Nat.le_refl _) (Nat.le_refl _) ?_
        exact lc_sign hl0 hL C0 K hE o ad om adm out hNo hoo j hj6 hSt hS hl kk
      by_cases h3 : t = 3
      · subst h3
        refine lv_tableIn (off := 276) (tgt := 316) hx hb dL_law_40 (by decide) (by decide) (by decide) (by decide) ?_
        refine W.widen (k := 64 + 18 * j) (n := 7000 + 220 * j) (Nat.le_refl _) (Nat.le_refl _) ?_
        exact lc_set hl0 hL C0 K hE o ad om adm out hNo hoo j hj6 hSt hS hl kk
      by_cases h4 : t = 4
      · subst h4
        refine lv_tableIn (off := 396) (tgt := 436) hx hb dL_law_40 (by decide) (by decide) (by decide) (by decide) ?_
        refine W.widen (k := 64 + 18 * j) (n := 7000 + 220 * j) (Nat.le_refl _) (Nat.le_refl _) ?_
        exact lc_remove hl0 hL C0 K hE o ad om adm out hNo hoo j hj6 hSt hS hl kk
      by_cases h5 : t = 5
      · subst h5
        refine lv_tableIn (off := 488) (tgt := 528) hx hb dL_law_40 (by decide) (by decide) (by decide) (by decide) ?_
        refine W.widen (k := 64 + 18 * j) (n := 7000 + 220 * j) (Nat.le_refl _) (Nat.le_refl _) ?_
        exact lc_draft hl0 hL C0 K hE o ad om adm out hNo hoo j hj6 hSt hS hl kk
      by_cases h6 : t = 6
      · subst h6
        refine lv_tableIn (off := 501) (tgt := 541) hx hb dL_law_40 (by decide) (by decide) (by decide) (by decide) ?_
        refine W.widen (k := 64 + 18 * j) (n := 7000 + 220 * j) (Nat.le_refl _) (Nat.le_refl _) ?_
        exact lc_kindOf hl0 hL C0 K hE o ad om adm out hNo hoo j hj6 hSt hS hl kk
      by_cases h7 : t = 7
      · subst h7
        refine lv_tableIn (off := 569) (tgt := 609) hx hb dL_law_40 (by decide) (by decide) (by decide) (by decide) ?_
        refine W.widen (k := 64 + 18 * j) (n := 7000 + 220 * j) (Nat.le_refl _) (Nat.le_refl _) ?_
        exact lc_forms hl0 hL C0 K hE o ad om adm out hNo hoo j hj6 hSt hS hl kk
      by_cases h8 : t = 8
      · subst h8
        refine lv_tableIn (off := 637) (tgt := 677) hx hb dL_law_40 (by decide) (by decide) (by decide) (by decide) ?_
        refine W.widen (k := 64 + 18 * j) (n := 7000 + 220 * j) (Nat.le_refl _) (Nat.le_refl _) ?_
        exact lc_version hl0 hL C0 K hE o ad om adm out hNo hoo j hj6 hSt hS hl kk
      by_cases h9 : t = 9
      · subst h9
        refine lv_tableIn (off := 693) (tgt := 733) hx hb dL_law_40 (by decide) (by decide) (by decide) (by decide) ?_
        refine W.widen (k := 64 + 18 * j) (n := 7000 + 220 * j) (Nat.le_refl _) (Nat.le_refl _) ?_
        exact lc_staleBy hl0 hL C0 K hE o ad om adm out hNo hoo j hj6 hSt hS hl kk
      by_cases h10 : t = 10
      · subst h10
        refine lv_tableIn (off := 761) (tgt := 801) hx hb dL_law_40 (by decide) (by decide) (by decide) (by decide) ?_
        refine W.widen (k := 64 + 18 * j) (n := 7000 + 220 * j) (Nat.le_refl _) (Nat.le_refl _) ?_
        exact lc_missing hl0 hL C0 K hE o ad om adm out hNo hoo j hj6 hSt hS hl kk
      by_cases h11 : t = 11
      · subst h11
        refine lv_tableIn (off := 817) (tgt := 857) hx hb dL_law_40 (by decide) (by decide) (by decide) (by decide) ?_
        refine W.widen (k := 64 + 18 * j) (n := 7000 + 220 * j) (Nat.le_refl _) (Nat.le_refl _) ?_
        exact lc_fits hl0 hL C0 K hE o ad om adm out hNo hoo j hj6 hSt hS hl kk
      by_cases h12 : t = 12
      · subst h12
        refine lv_tableIn (off := 916) (tgt := 956) hx hb dL_law_40 (by decide) (by decide) (by decide) (by decide) ?_
        refine W.widen (k := 64 + 18 * j) (n := 7000 + 220 * j) (Nat.le_refl _) (Nat.le_refl _) ?_
        exact lc_toldBy hl0 hL C0 K hE o ad om adm out hNo hoo j hj6 hSt hS hl kk
      by_cases h13 : t = 13
      · subst h13
        refine lv_tableIn (off := 1008) (tgt := 1048) hx hb dL_law_40 (by decide) (by decide) (by decide) (by decide) ?_
        refine W.widen (k := 64 + 18 * j) (n := 7000 + 220 * j) (Nat.le_refl _) (Nat.le_refl _) ?_
        exact lc_toldByLooking hl0 hL C0 K hE o ad om adm out hNo hoo j hj6 hSt hS hl kk
      by_cases h14 : t = 14
      · subst h14
        refine lv_tableIn (off := 1100) (tgt := 1140) hx hb dL_law_40 (by decide) (by decide) (by decide) (by decide) ?_
        refine W.widen (k := 64 + 18 * j) (n := 7000 + 220 * j) (Nat.le_refl _) (Nat.le_refl _) ?_
        exact lc_toldForm hl0 hL C0 K hE o ad om adm out hNo hoo j hj6 hSt hS hl kk
      by_cases h15 : t = 15
      · subst h15
        refine lv_tableIn (off := 1192) (tgt := 1232) hx hb dL_law_40 (by decide) (by decide) (by decide) (by decide) ?_
        refine W.widen (k := 64 + 18 * j) (n := 7000 + 220 * j) (Nat.le_refl _) (Nat.le_refl _) ?_
        exact lc_toldSign hl0 hL C0 K hE o ad om adm out hNo hoo j hj6 hSt hS hl kk
      by_cases h16 : t = 16
      · subst h16
        refine lv_tableIn (off := 1296) (tgt := 1336) hx hb dL_law_40 (by decide) (by decide) (by decide) (by decide) ?_
        refine W.widen (k := 64 + 18 * j) (n := 7000 + 220 * j) (Nat.le_refl _) (Nat.le_refl _) ?_
        exact lc_pairs hl0 hL C0 K hE o ad om adm out hNo hoo j hj6 hSt hS hl kk
      by_cases h17 : t = 17
      · subst h17
        refine lv_tableIn (off := 1309) (tgt := 1349) hx hb dL_law_40 (by decide) (by decide) (by decide) (by decide) ?_
        refine W.widen (k := 64 + 18 * j) (n := 7000 + 220 * j) (Nat.le_refl _) (Nat.le_refl _) ?_
        exact lc_nearDistance hl0 hL C0 K hE o ad om adm out hNo hoo j hj6 hSt hS hl kk
      by_cases h18 : t = 18
      · subst h18
        refine lv_tableIn (off := 1401) (tgt := 1441) hx hb dL_law_40 (by decide) (by decide) (by decide) (by decide) ?_
        refine W.widen (k := 64 + 18 * j) (n := 7000 + 220 * j) (Nat.le_refl _) (Nat.le_refl _) ?_
        exact lc_nearSign hl0 hL C0 K hE o ad om adm out hNo hoo j hj6 hSt hS hl kk
      refine lv_tableOut (tgt := 1545) hx hb dL_law_40 (Or.inr (by rw [nI_toInt (by omega)]; omega)) (by decide) ?_
      refine W.widen (k := 64 + 18 * (j + 1)) (n := 7000 + 220 * (j + 1)) (by omega) (by omega) ?_
      exact kk _ _ _ hSt hS hl
