
theorem miss_0 {fm : Nat → Option Frm} {g k n : Nat} (h : n = missS fm g k) (z : cntF fm (54 * k + 9 * 0) ≤ 0) : n + 0 = missS fm g (k + 1) := by
  subst h
  show _ = missS fm g k + (if (decide (0 < cntF fm (54 * k + 9 * 0)) && _) then 1 else 0)
  rw [decide_eq_false (by omega)]
  rfl
theorem miss_1 {fm : Nat → Option Frm} {g k n : Nat} (h : n = missS fm g k) (z : ¬ cntF fm (54 * k + 9 * g) = 0) : n + 0 = missS fm g (k + 1) := by
  subst h
  show _ = missS fm g k + (if (_ && decide (cntF fm (54 * k + 9 * g) = 0)) then 1 else 0)
  rw [decide_eq_false z, Bool.and_false]
  rfl
theorem miss_2 {fm : Nat → Option Frm} {g k n : Nat} (h : n = missS fm g k) (y : ¬ cntF fm (54 * k + 9 * 0) ≤ 0) (z : cntF fm (54 * k + 9 * g) = 0) : n + 1 = missS fm g (k + 1) := by
  subst h
  show _ = missS fm g k + (if (decide (0 < cntF fm (54 * k + 9 * 0)) && decide (cntF fm (54 * k + 9 * g) = 0)) then 1 else 0)
  rw [decide_eq_true (by omega), decide_eq_true z]
  rfl

set_option maxHeartbeats 4000000 in
set_option maxRecDepth 100000 in
theorem kX3_missing (l : Launch) (K : m_K) (A : Nat → Prop) (H0 : Heap) (o : Nat) (ad : Nat → Nat) (fb : Nat → Nat) (on fw : Nat → Int32) (dr : List Int32) (fm : Nat → Option Frm) (vs ch : Nat → Int32) (ps : List Pr) (la : Int32) (hm9 : mOK K A H0 o ad fb on fw dr fm vs ch ps la) (x : Int32) : Met l yX3_missing wsX3_missing ({ frames := 2, cells := 0, slots := 0, locals := 42 } : Room) (m_Pc K A H0 [.ref o, .int x]) (va_Qi (fun r H1 => ∃ k9, R3 (okN x 6) (True) k9 (r = nI (missS fm (tN x) 10) ∧ mOK K A H1 o ad fb on fw dr fm vs ch ps k9) (mOK K A H1 o ad fb on fw dr fm vs ch ps k9)) m_B A) 0 0 A := by
  refine m_ofW (by decide) rfl (Nat.le_of_ble_eq_true rfl) ?_
  intro p e s m args below meth c ls hx hb hr hml hown hts hlk hnm hE hsz hS hl
  have hl : lv_has ls 5 [(0, .ref o), (1, .int x)] := hl
  obtain ⟨f, d, pr, ta, ti, hP, hD, hR⟩ := hm9
  obtain ⟨hfb, hon, hfw, ⟨rfl, hdl, hdj⟩, hfm, hvs, hch, ⟨rfl, hps⟩, ⟨rk, hRK, hr5⟩, hin⟩ := id hR
  have hps20 := hps.1
  refine lv_iconst (v := nI 0) hx hb dX3_missing_0 (by decide) ?_
  refine lv_istore_n (lv' := [(2, .int (nI 0)), (0, .ref o), (1, .int x)]) hx hb dX3_missing_1 rfl hl (by decide) rfl (fun ls hl => ?_)
  refine lv_aload_n hx hb dX3_missing_2 rfl (lv_at hl 1 rfl) ?_
  refine lv_iload_n hx hb dX3_missing_3 rfl (lv_at hl 2 rfl) ?_
  refine m_cSi (rest := [.ref o]) ⟨hx, hb, hml, hown, hts⟩ hE hS (fun _ h => h) (kX3_isLanguage l K A _ x) (va_cwS 1 hts gX3_missing_X3_isLanguage rfl rfl rfl (by decide +kernel) ⟨Nat.le_of_ble_eq_true rfl, Nat.le_of_ble_eq_true rfl⟩) rfl rfl hl.1 rfl (Nat.le_of_ble_eq_true rfl) dX3_missing_4 ⟨Nat.le_of_ble_eq_true rfl, Nat.le_of_ble_eq_true rfl⟩ (fun r H1 locs hp hS hk => ?_)
  obtain ⟨rfl, rfl⟩ := hp
  cases e_4 : okB x 6 with
  | true =>
    have h1 := (okB_iff (x := x) (n := 6)).mp e_4
    refine lv_iconst (v := nI 1) hx hb dX3_missing_7 (by decide) ?_
    refine lv_iconst (v := nI 1) hx hb dX3_missing_8 (by decide) ?_
    refine m_cVi (rest := []) ⟨hx, hb, hml, hown, hts⟩ hE hS (fun _ h => h) (kX3_goes l K A _ o ad f (nI dr.length) (nI ps.length) ta ti la hP hD true true true) (cwV 3 hts gX3_missing_X3_goes rfl rfl rfl (by decide +kernel) ⟨Nat.le_of_ble_eq_true rfl, Nat.le_of_ble_eq_true rfl⟩) (va_recv hE.k hP (ci := 4) (q0 := 0) rfl rfl) rfl rfl hl.1 rfl (Nat.le_of_ble_eq_true rfl) dX3_missing_9 ⟨Nat.le_of_ble_eq_true rfl, Nat.le_of_ble_eq_true rfl⟩ (fun r H locs hp hS hk => ?_)
    obtain ⟨rfl, hP, hD⟩ := hp
    refine lv_istore_n (lv' := [(3, .int (bI true)), (2, .int (nI 0)), (0, .ref o), (1, .int x)]) hx hb dX3_missing_12 rfl hl (by decide) rfl (fun ls hl => ?_)
    refine lv_iconst (v := nI 0) hx hb dX3_missing_13 (by decide) ?_
    refine lv_istore (lv' := [(4, .int (nI 0)), (3, .int (bI true)), (2, .int (nI 0)), (0, .ref o), (1, .int x)]) hx hb dX3_missing_14 hl (by decide) rfl (fun ls hl => ?_)
    obtain ⟨g, hk_g, rfl⟩ := okN_of h1 (by decide)
    have hl : lv_has ls 5 [(4, .int (nI 0)), (3, .int (bI true)), (2, .int (nI 0)), (0, .ref o), (1, .int (nI g))] := hl
    refine (?_ : ∀ (n9 : Nat) (k : Nat) (n : Nat) (H : Heap) (locs : List Loc) (ls : Array Slot), k ≤ 10 → 10 < k + n9 → n = missS fm g k → va_P K.1 vwCl (mW K o ad f (nI dr.length) (nI ps.length) ta ti (nI (goL true true true))) H → va_D A (mW K o ad f (nI dr.length) (nI ps.length) ta ti (nI (goL true true true))) → va_S A s.heap H locs → lv_has ls 5 [(4, .int (nI k)), (2, .int (nI n)), (3, .int (bI true)), (0, .ref o), (1, .int (nI g))] → W p l e _ s m args below meth c H locs 0 0 _ (F0 m 16 ls [])) (10 + 1) 0 0 _ _ ls (by omega) (by omega) rfl hP hD hS (lv_sub hl [0, 2, 1, 3, 4] rfl)
    clear hS hl hP hD
    intro n9
    induction n9 with
    | zero => intro k n H locs ls hi9 hn9; exact absurd hn9 (by omega)
    | succ n9 ih =>
      intro k n H locs ls hi9 hn9 hinv hP hD hS hl
      refine lv_iload hx hb dX3_missing_16 (lv_at hl 0 rfl) ?_
      refine lv_bipush (v := nI 10) hx hb dX3_missing_18 (by decide) ?_
      refine m_icmp_ge (tgt := 61) hx hb (by omega) (by omega) dX3_missing_20 (by decide) (fun c_20 => ?_) (fun c_20 => ?_)
      · refine lv_iload_n hx hb dX3_missing_61 rfl (lv_at hl 1 rfl) ?_
        exact m_iret hx hb hr hlk hS (Nat.le_of_ble_eq_true rfl) (Nat.le_of_ble_eq_true rfl) dX3_missing_62 (⟨_, r3_0 (h1) (trivial) ⟨by rw [tN_nI (by omega), hinv, show k = 10 by omega], ⟨f, _, _, _, _, hP, hD, hR⟩⟩⟩)
      · have hnb := cntN_le (fun k => decide (0 < cntF fm (54 * k)) && decide (cntF fm (54 * k + 9 * g) = 0)) k
        refine lv_iload_n hx hb dX3_missing_23 rfl (lv_at hl 2 rfl) ?_
        refine m_if_eq_b (tgt := 61) hx hb dX3_missing_24 (by decide) (fun c_24 => ?_) (fun c_24 => ?_)
        · exact absurd c_24 (by first | decide | exact (show ¬ false = true by decide) | exact (show ¬ true = false by decide))
        · refine lv_iload_n hx hb dX3_missing_27 rfl (lv_at hl 1 rfl) ?_
          refine lv_aload_n hx hb dX3_missing_28 rfl (lv_at hl 3 rfl) ?_
          refine lv_iload hx hb dX3_missing_29 (lv_at hl 0 rfl) ?_
          refine lv_iconst (v := nI 0) hx hb dX3_missing_31 (by decide) ?_
          refine m_cVi (rest := [.int (nI n)]) ⟨hx, hb, hml, hown, hts⟩ hE hS (fun _ h => h) (kX3_count l K A _ o ad f (nI dr.length) (nI ps.length) ta ti (nI (goL true true true)) hP fm hfm k 0 (by omega) (by omega)) (cwV 2 hts gX3_missing_X3_count rfl rfl rfl (by decide +kernel) ⟨Nat.le_of_ble_eq_true rfl, Nat.le_of_ble_eq_true rfl⟩) (va_recv hE.k hP (ci := 4) (q0 := 0) rfl rfl) rfl rfl hl.1 rfl (Nat.le_of_ble_eq_true rfl) dX3_missing_32 ⟨Nat.le_of_ble_eq_true rfl, Nat.le_of_ble_eq_true rfl⟩ (fun r H1 locs hp hS hk => ?_)
          obtain ⟨rfl, rfl⟩ := hp
          have hc32 := cntF_le fm (54 * k + 9 * 0)
          refine m_if_le (tgt := 52) hx hb (by omega) dX3_missing_35 (by decide) (fun c_35 => ?_) (fun c_35 => ?_)
          · refine lv_iconst (v := nI 0) hx hb dX3_missing_52 (by decide) ?_
            refine m_iadd hx hb dX3_missing_53 ?_
            refine lv_istore_n (lv' := [(2, .int (nI (n + 0))), (4, .int (nI k)), (3, .int (bI true)), (0, .ref o), (1, .int (nI g))]) hx hb dX3_missing_54 rfl hl (by decide) rfl (fun ls hl => ?_)
            refine lv_iinc (v := nI (k + 1)) (lv' := [(4, .int (nI (k + 1))), (2, .int (nI (n + 0))), (3, .int (bI true)), (0, .ref o), (1, .int (nI g))]) hx hb dX3_missing_55 hl (k := 1) rfl (m_inc _) (by decide) rfl (fun ls hl => ?_)
            refine lv_goto (tgt := 16) hx hb dX3_missing_58 (by decide) ?_
            exact ih (k + 1) (n + 0) _ _ ls (by omega) (by omega) (miss_0 hinv c_35) hP hD hS (lv_sub hl [0, 1, 2, 3, 4] rfl)
          · refine lv_aload_n hx hb dX3_missing_38 rfl (lv_at hl 3 rfl) ?_
            refine lv_iload hx hb dX3_missing_39 (lv_at hl 0 rfl) ?_
            refine lv_iload_n hx hb dX3_missing_41 rfl (lv_at hl 4 rfl) ?_
            refine m_cVi (rest := [.int (nI n)]) ⟨hx, hb, hml, hown, hts⟩ hE hS (fun _ h => h) (kX3_count l K A _ o ad f (nI dr.length) (nI ps.length) ta ti (nI (goL true true true)) hP fm hfm k g (by omega) (by omega)) (cwV 2 hts gX3_missing_X3_count rfl rfl rfl (by decide +kernel) ⟨Nat.le_of_ble_eq_true rfl, Nat.le_of_ble_eq_true rfl⟩) (va_recv hE.k hP (ci := 4) (q0 := 0) rfl rfl) rfl rfl hl.1 rfl (Nat.le_of_ble_eq_true rfl) dX3_missing_42 ⟨Nat.le_of_ble_eq_true rfl, Nat.le_of_ble_eq_true rfl⟩ (fun r H1 locs hp hS hk => ?_)
            obtain ⟨rfl, rfl⟩ := hp
            have hc42 := cntF_le fm (54 * k + 9 * g)
            refine m_if_ne (tgt := 52) hx hb (by omega) dX3_missing_45 (by decide) (fun c_45 => ?_) (fun c_45 => ?_)
            · refine lv_iconst (v := nI 0) hx hb dX3_missing_52 (by decide) ?_
              refine m_iadd hx hb dX3_missing_53 ?_
              refine lv_istore_n (lv' := [(2, .int (nI (n + 0))), (4, .int (nI k)), (3, .int (bI true)), (0, .ref o), (1, .int (nI g))]) hx hb dX3_missing_54 rfl hl (by decide) rfl (fun ls hl => ?_)
              refine lv_iinc (v := nI (k + 1)) (lv' := [(4, .int (nI (k + 1))), (2, .int (nI (n + 0))), (3, .int (bI true)), (0, .ref o), (1, .int (nI g))]) hx hb dX3_missing_55 hl (k := 1) rfl (m_inc _) (by decide) rfl (fun ls hl => ?_)
              refine lv_goto (tgt := 16) hx hb dX3_missing_58 (by decide) ?_
              exact ih (k + 1) (n + 0) _ _ ls (by omega) (by omega) (miss_1 hinv c_45) hP hD hS (lv_sub hl [0, 1, 2, 3, 4] rfl)
            · refine lv_iconst (v := nI 1) hx hb dX3_missing_48 (by decide) ?_
              refine lv_goto (tgt := 53) hx hb dX3_missing_49 (by decide) ?_
              refine m_iadd hx hb dX3_missing_53 ?_
              refine lv_istore_n (lv' := [(2, .int (nI (n + 1))), (4, .int (nI k)), (3, .int (bI true)), (0, .ref o), (1, .int (nI g))]) hx hb dX3_missing_54 rfl hl (by decide) rfl (fun ls hl => ?_)
              refine lv_iinc (v := nI (k + 1)) (lv' := [(4, .int (nI (k + 1))), (2, .int (nI (n + 1))), (3, .int (bI true)), (0, .ref o), (1, .int (nI g))]) hx hb dX3_missing_55 hl (k := 1) rfl (m_inc _) (by decide) rfl (fun ls hl => ?_)
              refine lv_goto (tgt := 16) hx hb dX3_missing_58 (by decide) ?_
              exact ih (k + 1) (n + 1) _ _ ls (by omega) (by omega) (miss_2 hinv c_35 c_45) hP hD hS (lv_sub hl [0, 1, 2, 3, 4] rfl)
  | false =>
    have h1 := nB (okB_iff (x := x) (n := 6)) e_4
    refine lv_iconst (v := nI 1) hx hb dX3_missing_7 (by decide) ?_
    refine lv_iconst (v := nI 1) hx hb dX3_missing_8 (by decide) ?_
    refine m_cVi (rest := []) ⟨hx, hb, hml, hown, hts⟩ hE hS (fun _ h => h) (kX3_goes l K A _ o ad f (nI dr.length) (nI ps.length) ta ti la hP hD false true true) (cwV 3 hts gX3_missing_X3_goes rfl rfl rfl (by decide +kernel) ⟨Nat.le_of_ble_eq_true rfl, Nat.le_of_ble_eq_true rfl⟩) (va_recv hE.k hP (ci := 4) (q0 := 0) rfl rfl) rfl rfl hl.1 rfl (Nat.le_of_ble_eq_true rfl) dX3_missing_9 ⟨Nat.le_of_ble_eq_true rfl, Nat.le_of_ble_eq_true rfl⟩ (fun r H locs hp hS hk => ?_)
    obtain ⟨rfl, hP, hD⟩ := hp
    refine lv_istore_n (lv' := [(3, .int (bI false)), (2, .int (nI 0)), (0, .ref o), (1, .int x)]) hx hb dX3_missing_12 rfl hl (by decide) rfl (fun ls hl => ?_)
    refine lv_iconst (v := nI 0) hx hb dX3_missing_13 (by decide) ?_
    refine lv_istore (lv' := [(4, .int (nI 0)), (3, .int (bI false)), (2, .int (nI 0)), (0, .ref o), (1, .int x)]) hx hb dX3_missing_14 hl (by decide) rfl (fun ls hl => ?_)
    refine lv_iload hx hb dX3_missing_16 (lv_at hl 0 rfl) ?_
    refine lv_bipush (v := nI 10) hx hb dX3_missing_18 (by decide) ?_
    refine m_icmp_ge (tgt := 61) hx hb (by omega) (by omega) dX3_missing_20 (by decide) (fun c_20 => ?_) (fun c_20 => ?_)
    · exact absurd c_20 (by decide)
    · refine lv_iload_n hx hb dX3_missing_23 rfl (lv_at hl 1 rfl) ?_
      refine m_if_eq_b (tgt := 61) hx hb dX3_missing_24 (by decide) (fun c_24 => ?_) (fun c_24 => ?_)
      · refine lv_iload_n hx hb dX3_missing_61 rfl (lv_at hl 2 rfl) ?_
        exact m_iret hx hb hr hlk hS (Nat.le_of_ble_eq_true rfl) (Nat.le_of_ble_eq_true rfl) dX3_missing_62 (⟨_, r3_1 (h1) ⟨f, _, _, _, _, hP, hD, hR⟩⟩)
      · exact absurd c_24 (by first | decide | exact (show ¬ false = true by decide) | exact (show ¬ true = false by decide))

set_option maxHeartbeats 4000000 in
set_option maxRecDepth 100000 in
theorem kX3_fits (l : Launch) (K : m_K) (A : Nat → Prop) (H0 : Heap) (o : Nat) (ad : Nat → Nat) (fb : Nat → Nat) (on fw : Nat → Int32) (dr : List Int32) (fm : Nat → Option Frm) (vs ch : Nat → Int32) (ps : List Pr) (la : Int32) (hm9 : mOK K A H0 o ad fb on fw dr fm vs ch ps la) (x y z w : Int32) : Met l yX3_fits wsX3_fits ({ frames := 3, cells := 0, slots := 0, locals := 65 } : Room) (m_Pc K A H0 [.ref o, .int x, .int y, .int z, .int w]) (va_Qi (fun r H1 => ∃ k9, R3 (okF x y z w) (True) k9 (r = bI (fitF fm (tN x) (fm (54 * tN x + 9 * tN y + 3 * tN z + tN w))) ∧ mOK K A H1 o ad fb on fw dr fm vs ch ps k9) (mOK K A H1 o ad fb on fw dr fm vs ch ps k9)) m_B A) 0 0 A := by
  refine m_ofW (by decide) rfl (Nat.le_of_ble_eq_true rfl) ?_
  intro p e s m args below meth c ls hx hb hr hml hown hts hlk hnm hE hsz hS hl
  have hl : lv_has ls 6 [(0, .ref o), (1, .int x), (2, .int y), (3, .int z), (4, .int w)] := hl
  obtain ⟨f, d, pr, ta, ti, hP, hD, hR⟩ := hm9
  obtain ⟨hfb, hon, hfw, ⟨rfl, hdl, hdj⟩, hfm, hvs, hch, ⟨rfl, hps⟩, ⟨rk, hRK, hr5⟩, hin⟩ := id hR
  have hps20 := hps.1
  refine lv_aload_n hx hb dX3_fits_0 rfl (lv_at hl 0 rfl) ?_
  refine lv_iload_n hx hb dX3_fits_1 rfl (lv_at hl 1 rfl) ?_
  refine lv_iload_n hx hb dX3_fits_2 rfl (lv_at hl 2 rfl) ?_
  refine lv_iload_n hx hb dX3_fits_3 rfl (lv_at hl 3 rfl) ?_
  refine lv_iload hx hb dX3_fits_4 (lv_at hl 4 rfl) ?_
  refine m_cSi (rest := [.ref o]) ⟨hx, hb, hml, hown, hts⟩ hE hS (fun _ h => h) (kX3_isForm l K A _ x y z w) (va_cwS 4 hts gX3_fits_X3_isForm rfl rfl rfl (by decide +kernel) ⟨Nat.le_of_ble_eq_true rfl, Nat.le_of_ble_eq_true rfl⟩) rfl rfl hl.1 rfl (Nat.le_of_ble_eq_true rfl) dX3_fits_6 ⟨Nat.le_of_ble_eq_true rfl, Nat.le_of_ble_eq_true rfl⟩ (fun r H1 locs hp hS hk => ?_)
  obtain ⟨rfl, rfl⟩ := hp
  cases e_6 : okFB x y z w with
  | true =>
    have h1 := (okFB_iff (x := x) (y := y) (z := z) (w := w)).mp e_6
    obtain ⟨k, hk_k, rfl⟩ := okN_of h1.1 (by decide)
    obtain ⟨g, hk_g, rfl⟩ := okN_of h1.2.1 (by decide)
    obtain ⟨i, hk_i, rfl⟩ := okN_of h1.2.2.1 (by decide)
    obtain ⟨u, hk_u, rfl⟩ := okN_of h1.2.2.2 (by decide)
    have hl : lv_has ls 6 [(0, .ref o), (1, .int (nI k)), (2, .int (nI g)), (3, .int (nI i)), (4, .int (nI u))] := hl
    refine lv_iconst (v := nI 1) hx hb dX3_fits_9 (by decide) ?_
    refine lv_iconst (v := nI 1) hx hb dX3_fits_10 (by decide) ?_
    refine m_cVi (rest := []) ⟨hx, hb, hml, hown, hts⟩ hE hS (fun _ h => h) (kX3_goes l K A _ o ad f (nI dr.length) (nI ps.length) ta ti la hP hD true true true) (cwV 3 hts gX3_fits_X3_goes rfl rfl rfl (by decide +kernel) ⟨Nat.le_of_ble_eq_true rfl, Nat.le_of_ble_eq_true rfl⟩) (va_recv hE.k hP (ci := 4) (q0 := 0) rfl rfl) rfl rfl hl.1 rfl (Nat.le_of_ble_eq_true rfl) dX3_fits_11 ⟨Nat.le_of_ble_eq_true rfl, Nat.le_of_ble_eq_true rfl⟩ (fun r H locs hp hS hk => ?_)
    obtain ⟨rfl, hP, hD⟩ := hp
    refine lv_istore (lv' := [(5, .int (bI true)), (0, .ref o), (1, .int (nI k)), (2, .int (nI g)), (3, .int (nI i)), (4, .int (nI u))]) hx hb dX3_fits_14 hl (by decide) rfl (fun ls hl => ?_)
    refine lv_iload hx hb dX3_fits_16 (lv_at hl 0 rfl) ?_
    refine m_if_eq_b (tgt := 41) hx hb dX3_fits_18 (by decide) (fun c_18 => ?_) (fun c_18 => ?_)
    · exact absurd c_18 (by first | decide | exact (show ¬ false = true by decide) | exact (show ¬ true = false by decide))
    · refine lv_aload_n hx hb dX3_fits_21 rfl (lv_at hl 1 rfl) ?_
      refine lv_iload_n hx hb dX3_fits_22 rfl (lv_at hl 2 rfl) ?_
      refine lv_iload_n hx hb dX3_fits_23 rfl (lv_at hl 2 rfl) ?_
      refine lv_iload_n hx hb dX3_fits_24 rfl (lv_at hl 3 rfl) ?_
      refine lv_iload_n hx hb dX3_fits_25 rfl (lv_at hl 4 rfl) ?_
      refine lv_iload hx hb dX3_fits_26 (lv_at hl 5 rfl) ?_
      refine m_cSi (rest := [.int (nI k), .ref o]) ⟨hx, hb, hml, hown, hts⟩ hE hS (fun _ h => h) (kX3_at l K A _ k g i u) (va_cwS 4 hts gX3_fits_X3_at rfl rfl rfl (by decide +kernel) ⟨Nat.le_of_ble_eq_true rfl, Nat.le_of_ble_eq_true rfl⟩) rfl rfl hl.1 rfl (Nat.le_of_ble_eq_true rfl) dX3_fits_28 ⟨Nat.le_of_ble_eq_true rfl, Nat.le_of_ble_eq_true rfl⟩ (fun r H1 locs hp hS hk => ?_)
      obtain ⟨rfl, rfl⟩ := hp
      refine m_cVi (rest := []) ⟨hx, hb, hml, hown, hts⟩ hE hS (fun _ h => h) (kX3_isFit l K A _ o ad f (nI dr.length) (nI ps.length) ta ti (nI (goL true true true)) hP fm hfm k (54 * k + 9 * g + 3 * i + u) (by omega) (by omega)) (cwV 2 hts gX3_fits_X3_isFit rfl rfl rfl (by decide +kernel) ⟨Nat.le_of_ble_eq_true rfl, Nat.le_of_ble_eq_true rfl⟩) (va_recv hE.k hP (ci := 4) (q0 := 0) rfl rfl) rfl rfl hl.1 rfl (Nat.le_of_ble_eq_true rfl) dX3_fits_31 ⟨Nat.le_of_ble_eq_true rfl, Nat.le_of_ble_eq_true rfl⟩ (fun r H1 locs hp hS hk => ?_)
      obtain ⟨rfl, rfl⟩ := hp
      refine m_if_eq_b (tgt := 41) hx hb dX3_fits_34 (by decide) (fun c_34 => ?_) (fun c_34 => ?_)
      · refine lv_iconst (v := nI 0) hx hb dX3_fits_41 (by decide) ?_
        refine W.eq (g2 := F0 m 42 ls [.int (bI false)]) (by rfl) ?_
        exact m_zret hx hb hr hlk hS (Nat.le_of_ble_eq_true rfl) (Nat.le_of_ble_eq_true rfl) dX3_fits_42 (⟨_, r3_0 (h1) (trivial) ⟨by rw [tN_nI (by omega), tN_nI (by omega), tN_nI (by omega), tN_nI (by omega), c_34], ⟨f, _, _, _, _, hP, hD, hR⟩⟩⟩)
      · refine lv_iconst (v := nI 1) hx hb dX3_fits_37 (by decide) ?_
        refine lv_goto (tgt := 42) hx hb dX3_fits_38 (by decide) ?_
        refine W.eq (g2 := F0 m 42 ls [.int (bI true)]) (by rfl) ?_
        exact m_zret hx hb hr hlk hS (Nat.le_of_ble_eq_true rfl) (Nat.le_of_ble_eq_true rfl) dX3_fits_42 (⟨_, r3_0 (h1) (trivial) ⟨by rw [tN_nI (by omega), tN_nI (by omega), tN_nI (by omega), tN_nI (by omega), c_34], ⟨f, _, _, _, _, hP, hD, hR⟩⟩⟩)
  | false =>
    have h1 := nB (okFB_iff (x := x) (y := y) (z := z) (w := w)) e_6
    refine lv_iconst (v := nI 1) hx hb dX3_fits_9 (by decide) ?_
    refine lv_iconst (v := nI 1) hx hb dX3_fits_10 (by decide) ?_
    refine m_cVi (rest := []) ⟨hx, hb, hml, hown, hts⟩ hE hS (fun _ h => h) (kX3_goes l K A _ o ad f (nI dr.length) (nI ps.length) ta ti la hP hD false true true) (cwV 3 hts gX3_fits_X3_goes rfl rfl rfl (by decide +kernel) ⟨Nat.le_of_ble_eq_true rfl, Nat.le_of_ble_eq_true rfl⟩) (va_recv hE.k hP (ci := 4) (q0 := 0) rfl rfl) rfl rfl hl.1 rfl (Nat.le_of_ble_eq_true rfl) dX3_fits_11 ⟨Nat.le_of_ble_eq_true rfl, Nat.le_of_ble_eq_true rfl⟩ (fun r H locs hp hS hk => ?_)
    obtain ⟨rfl, hP, hD⟩ := hp
    refine lv_istore (lv' := [(5, .int (bI false)), (0, .ref o), (1, .int x), (2, .int y), (3, .int z), (4, .int w)]) hx hb dX3_fits_14 hl (by decide) rfl (fun ls hl => ?_)
    refine lv_iload hx hb dX3_fits_16 (lv_at hl 0 rfl) ?_
    refine m_if_eq_b (tgt := 41) hx hb dX3_fits_18 (by decide) (fun c_18 => ?_) (fun c_18 => ?_)
    · refine lv_iconst (v := nI 0) hx hb dX3_fits_41 (by decide) ?_
      refine W.eq (g2 := F0 m 42 ls [.int (bI false)]) (by rfl) ?_
      exact m_zret hx hb hr hlk hS (Nat.le_of_ble_eq_true rfl) (Nat.le_of_ble_eq_true rfl) dX3_fits_42 (⟨_, r3_1 (h1) ⟨f, _, _, _, _, hP, hD, hR⟩⟩)
    · exact absurd c_18 (by first | decide | exact (show ¬ false = true by decide) | exact (show ¬ true = false by decide))

theorem sg_up1 {g : Nat → Int32} {n s i : Nat} {L : List Int32} {v : Int32} (h : ∀ t, t < i → t < n → g (8 * s + t) = L.getD t 0) (hv : i < n → v = L.getD i 0) : ∀ t, t < i + 1 → t < n → upd g (8 * s + i) v (8 * s + t) = L.getD t 0 := fun t ht hn => by
  by_cases e : t = i
  · subst e
    exact upd_at.trans (hv hn)
  · exact (upd_ne (by omega)).trans (h t (by omega) hn)
theorem sg_up2 {g g0 : Nat → Int32} {s i : Nat} {v : Int32} (h : ∀ t, t < 8 * s ∨ 8 * s + 8 ≤ t → g t = g0 t) (hi : i < 8) : ∀ t, t < 8 * s ∨ 8 * s + 8 ≤ t → upd g (8 * s + i) v t = g0 t := fun t ht => (upd_ne (by omega)).trans (h t ht)

set_option maxHeartbeats 4000000 in
set_option maxRecDepth 100000 in
theorem kX3_set (l : Launch) (K : m_K) (A : Nat → Prop) (H0 : Heap) (o : Nat) (ad : Nat → Nat) (fb : Nat → Nat) (on fw : Nat → Int32) (dr : List Int32) (fm : Nat → Option Frm) (vs ch : Nat → Int32) (ps : List Pr) (la : Int32) (hm9 : mOK K A H0 o ad fb on fw dr fm vs ch ps la) (x y z w : Int32) (b9 : Bool) : Met l yX3_set wsX3_set ({ frames := 3, cells := 0, slots := 0, locals := 70 } : Room) (m_Pc K A H0 [.ref o, .int x, .int y, .int z, .int w, .int (bI b9)]) (va_Qi (fun r H1 => ∃ k9, R3 (okF x y z w) (0 < dr.length) k9 (r = vsC vs (tN x) (tN y) (tN x) ∧ mOK K A H1 o ad fb on fw ([]) (va_up fm (54 * tN x + 9 * tN y + 3 * tN z + tN w) (some (dr, b9))) (vsC vs (tN x) (tN y)) (chC ch vs (tN x) (tN y)) (psC fm ps (tN x) (tN y) (3 * tN z + tN w)) k9) (mOK K A H1 o ad fb on fw dr fm vs ch ps k9)) m_B A) 0 0 A := by
  refine m_ofW (by decide) rfl (Nat.le_of_ble_eq_true rfl) ?_
  intro p e s m args below meth c ls hx hb hr hml hown hts hlk hnm hE hsz hS hl
  have hl : lv_has ls 8 [(0, .ref o), (1, .int x), (2, .int y), (3, .int z), (4, .int w), (5, .int (bI b9))] := hl
  obtain ⟨f, d, pr, ta, ti, hP, hD, hR⟩ := hm9
  obtain ⟨hfb, hon, hfw, ⟨rfl, hdl, hdj⟩, hfm, hvs, hch, ⟨rfl, hps⟩, ⟨rk, hRK, hr5⟩, hin⟩ := id hR
  have hps20 := hps.1
  have iX3 : ∀ w ∈ wsX30, w ∈ wsX3_set := by decide +kernel
  have f85 := hts (.fieldLink RX3 85 "PhraseCatalogueModel" "draft" "I") (by decide +kernel)
  have f22 := hts (.fieldLink RX3 22 "PhraseCatalogueModel" "lengths" "[I") (by decide +kernel)
  have f25 := hts (.fieldLink RX3 25 "PhraseCatalogueModel" "lax" "[Z") (by decide +kernel)
  have f32 := hts (.fieldLink RX3 32 "PhraseCatalogueModel" "versions" "[I") (by decide +kernel)
  have f29 := hts (.fieldLink RX3 29 "PhraseCatalogueModel" "signs" "[I") (by decide +kernel)
  have f19 := hts (.fieldLink RX3 19 "PhraseCatalogueModel" "drafted" "[I") (by decide +kernel)
  refine lv_aload_n hx hb dX3_set_0 rfl (lv_at hl 0 rfl) ?_
  refine lv_iload_n hx hb dX3_set_1 rfl (lv_at hl 1 rfl) ?_
  refine lv_iload_n hx hb dX3_set_2 rfl (lv_at hl 2 rfl) ?_
  refine lv_iload_n hx hb dX3_set_3 rfl (lv_at hl 3 rfl) ?_
  refine lv_iload hx hb dX3_set_4 (lv_at hl 4 rfl) ?_
  refine m_cSi (rest := [.ref o]) ⟨hx, hb, hml, hown, hts⟩ hE hS (fun _ h => h) (kX3_isForm l K A _ x y z w) (va_cwS 4 hts gX3_set_X3_isForm rfl rfl rfl (by decide +kernel) ⟨Nat.le_of_ble_eq_true rfl, Nat.le_of_ble_eq_true rfl⟩) rfl rfl hl.1 rfl (Nat.le_of_ble_eq_true rfl) dX3_set_6 ⟨Nat.le_of_ble_eq_true rfl, Nat.le_of_ble_eq_true rfl⟩ (fun r H1 locs hp hS hk => ?_)
  obtain ⟨rfl, rfl⟩ := hp
  cases e_6 : okFB x y z w with
  | true =>
    have h1 := (okFB_iff (x := x) (y := y) (z := z) (w := w)).mp e_6
    obtain ⟨k, hk_k, rfl⟩ := okN_of h1.1 (by decide)
    obtain ⟨g, hk_g, rfl⟩ := okN_of h1.2.1 (by decide)
    obtain ⟨i, hk_i, rfl⟩ := okN_of h1.2.2.1 (by decide)
    obtain ⟨u, hk_u, rfl⟩ := okN_of h1.2.2.2 (by decide)
    have hl : lv_has ls 8 [(0, .ref o), (1, .int (nI k)), (2, .int (nI g)), (3, .int (nI i)), (4, .int (nI u)), (5, .int (bI b9))] := hl
    refine lv_aload_n hx hb dX3_set_9 rfl (lv_at hl 0 rfl) ?_
    refine va_get (D := K.1) (ci := 4) (v := .int (nI dr.length)) (C := RX3) (T := TX3) (N := 21) hx hb hts iX3 hown hE.k hP 0 rfl rfl 4 (by decide) f85 (fun _ h9 => h9) rfl dX3_set_10 ?_
    refine m_if_le (tgt := 20) hx hb (by omega) dX3_set_13 (by decide) (fun c_13 => ?_) (fun c_13 => ?_)
    · refine lv_iconst (v := nI 0) hx hb dX3_set_20 (by decide) ?_
      refine lv_iconst (v := nI 1) hx hb dX3_set_21 (by decide) ?_
      refine m_cVi (rest := []) ⟨hx, hb, hml, hown, hts⟩ hE hS (fun _ h => h) (kX3_goes l K A _ o ad f (nI dr.length) (nI ps.length) ta ti la hP hD true false true) (cwV 3 hts gX3_set_X3_goes rfl rfl rfl (by decide +kernel) ⟨Nat.le_of_ble_eq_true rfl, Nat.le_of_ble_eq_true rfl⟩) (va_recv hE.k hP (ci := 4) (q0 := 0) rfl rfl) rfl rfl hl.1 rfl (Nat.le_of_ble_eq_true rfl) dX3_set_22 ⟨Nat.le_of_ble_eq_true rfl, Nat.le_of_ble_eq_true rfl⟩ (fun r H locs hp hS hk => ?_)
      obtain ⟨rfl, hP, hD⟩ := hp
      refine m_if_ne_b (tgt := 30) hx hb dX3_set_25 (by decide) (fun c_25 => ?_) (fun c_25 => ?_)
      · exact absurd c_25 (by first | decide | exact (show ¬ false = true by decide) | exact (show ¬ true = false by decide))
      · refine lv_iconst (v := nI 0) hx hb dX3_set_28 (by decide) ?_
        exact m_iret hx hb hr hlk hS (Nat.le_of_ble_eq_true rfl) (Nat.le_of_ble_eq_true rfl) dX3_set_29 (⟨_, r3_2 (h1) (by omega) ⟨f, _, _, _, _, hP, hD, hR⟩⟩)
    · refine lv_iconst (v := nI 1) hx hb dX3_set_16 (by decide) ?_
      refine lv_goto (tgt := 21) hx hb dX3_set_17 (by decide) ?_
      refine lv_iconst (v := nI 1) hx hb dX3_set_21 (by decide) ?_
      refine m_cVi (rest := []) ⟨hx, hb, hml, hown, hts⟩ hE hS (fun _ h => h) (kX3_goes l K A _ o ad f (nI dr.length) (nI ps.length) ta ti la hP hD true true true) (cwV 3 hts gX3_set_X3_goes rfl rfl rfl (by decide +kernel) ⟨Nat.le_of_ble_eq_true rfl, Nat.le_of_ble_eq_true rfl⟩) (va_recv hE.k hP (ci := 4) (q0 := 0) rfl rfl) rfl rfl hl.1 rfl (Nat.le_of_ble_eq_true rfl) dX3_set_22 ⟨Nat.le_of_ble_eq_true rfl, Nat.le_of_ble_eq_true rfl⟩ (fun r H locs hp hS hk => ?_)
      obtain ⟨rfl, hP, hD⟩ := hp
      refine m_if_ne_b (tgt := 30) hx hb dX3_set_25 (by decide) (fun c_25 => ?_) (fun c_25 => ?_)
      · refine lv_iload_n hx hb dX3_set_30 rfl (lv_at hl 1 rfl) ?_
        refine lv_iload_n hx hb dX3_set_31 rfl (lv_at hl 2 rfl) ?_
        refine lv_iload_n hx hb dX3_set_32 rfl (lv_at hl 3 rfl) ?_
        refine lv_iload hx hb dX3_set_33 (lv_at hl 4 rfl) ?_
        refine m_cSi (rest := []) ⟨hx, hb, hml, hown, hts⟩ hE hS (fun _ h => h) (kX3_at l K A _ k g i u) (va_cwS 4 hts gX3_set_X3_at rfl rfl rfl (by decide +kernel) ⟨Nat.le_of_ble_eq_true rfl, Nat.le_of_ble_eq_true rfl⟩) rfl rfl hl.1 rfl (Nat.le_of_ble_eq_true rfl) dX3_set_35 ⟨Nat.le_of_ble_eq_true rfl, Nat.le_of_ble_eq_true rfl⟩ (fun r H1 locs hp hS hk => ?_)
        obtain ⟨rfl, rfl⟩ := hp
        refine lv_istore (lv' := [(6, .int (nI (54 * k + 9 * g + 3 * i + u))), (0, .ref o), (1, .int (nI k)), (2, .int (nI g)), (3, .int (nI i)), (4, .int (nI u)), (5, .int (bI b9))]) hx hb dX3_set_38 hl (by decide) rfl (fun ls hl => ?_)
        refine lv_aload_n hx hb dX3_set_40 rfl (lv_at hl 1 rfl) ?_
        refine lv_iload_n hx hb dX3_set_41 rfl (lv_at hl 2 rfl) ?_
        refine lv_iload_n hx hb dX3_set_42 rfl (lv_at hl 3 rfl) ?_
        refine lv_iconst (v := nI 3) hx hb dX3_set_43 (by decide) ?_
        refine lv_iload_n hx hb dX3_set_44 rfl (lv_at hl 4 rfl) ?_
        refine m_imul hx hb dX3_set_45 ?_
        refine lv_iload hx hb dX3_set_46 (lv_at hl 5 rfl) ?_
        refine m_iadd hx hb dX3_set_48 ?_
        refine m_cVv (rest := []) ⟨hx, hb, hml, hown, hts⟩ hE hS (fun _ h => h) (kX3_changes l K A _ o ad f (nI dr.length) ta ti ((nI (goL true true true))) fm hfm ps hps hP hD k g (3 * i + u) hk_k hk_g (by omega)) (cwV 3 hts gX3_set_X3_changes rfl rfl rfl (by decide +kernel) ⟨Nat.le_of_ble_eq_true rfl, Nat.le_of_ble_eq_true rfl⟩) (va_recv hE.k hP (ci := 4) (q0 := 0) rfl rfl) rfl rfl hl.1 rfl (Nat.le_of_ble_eq_true rfl) dX3_set_49 ⟨Nat.le_of_ble_eq_true rfl, Nat.le_of_ble_eq_true rfl⟩ (fun H locs hp hS hk => ?_)
        obtain ⟨f', ps9, hP, hD, hs9, rfl, hm9', h8, h9⟩ := hp
        obtain ⟨rb, ro, rw9, ⟨-, rdl, rdj⟩, rm, rv, rc, -, rr, ri⟩ := mRep_chg hR hk_k hk_g hs9 hm9' h8 h9
        refine lv_iconst (v := nI 0) hx hb dX3_set_52 (by decide) ?_
        refine lv_istore (lv' := [(7, .int (nI 0)), (6, .int (nI (54 * k + 9 * g + 3 * i + u))), (0, .ref o), (1, .int (nI k)), (2, .int (nI g)), (3, .int (nI i)), (4, .int (nI u)), (5, .int (bI b9))]) hx hb dX3_set_53 hl (by decide) rfl (fun ls hl => ?_)
        refine (?_ : ∀ (n9 : Nat) (i9 : Nat) (g7 : Nat → Int32) (H : Heap) (locs : List Loc) (ls : Array Slot), i9 ≤ 8 → 8 < i9 + n9 → (∀ t, t < i9 → t < dr.length → g7 (8 * (54 * k + 9 * g + 3 * i + u) + t) = dr.getD t 0) → (∀ t, t < 8 * (54 * k + 9 * g + 3 * i + u) ∨ 8 * (54 * k + 9 * g + 3 * i + u) + 8 ≤ t → g7 t = f' 7 t) → va_P K.1 vwCl (mW K o ad (va_up f' 7 g7) (nI dr.length) (nI ((psC fm ps k g (3 * i + u)).length)) ta ti (nI (goL true true true))) H → va_D A (mW K o ad (va_up f' 7 g7) (nI dr.length) (nI ((psC fm ps k g (3 * i + u)).length)) ta ti (nI (goL true true true))) → va_S A s.heap H locs → lv_has ls 8 [(7, .int (nI i9)), (6, .int (nI (54 * k + 9 * g + 3 * i + u))), (0, .ref o), (1, .int (nI k)), (2, .int (nI g)), (3, .int (nI i)), (4, .int (nI u)), (5, .int (bI b9))] → W p l e _ s m args below meth c H locs 0 0 _ (F0 m 55 ls [])) (8 + 1) 0 (f' 7) _ _ ls (by omega) (by omega) (fun t ht => absurd ht (Nat.not_lt_zero t)) (fun _ _ => rfl) hP hD hS (lv_sub hl [0, 1, 2, 3, 4, 5, 6, 7] rfl)
        clear hS hl hP hD
        intro n9
        induction n9 with
        | zero => intro i9 g7 H locs ls hi9 hn9; exact absurd hn9 (by omega)
        | succ n9 ih =>
          intro i9 g7 H locs ls hi9 hn9 hg1 hg2 hP hD hS hl
          refine lv_iload hx hb dX3_set_55 (lv_at hl 0 rfl) ?_
          refine lv_bipush (v := nI 8) hx hb dX3_set_57 (by decide) ?_
          refine m_icmp_ge (tgt := 101) hx hb (by omega) (by omega) dX3_set_59 (by decide) (fun c_59 => ?_) (fun c_59 => ?_)
          · refine lv_aload_n hx hb dX3_set_101 rfl (lv_at hl 2 rfl) ?_
            refine va_get (D := K.1) (ci := 4) (v := .ref (ad 5)) (C := RX3) (T := TX3) (N := 21) hx hb hts iX3 hown hE.k hP 0 rfl rfl 5 (by decide) f22 (fun _ h9 => h9) rfl dX3_set_102 ?_
            refine lv_iload hx hb dX3_set_105 (lv_at hl 1 rfl) ?_
            refine lv_aload_n hx hb dX3_set_107 rfl (lv_at hl 2 rfl) ?_
            refine va_get (D := K.1) (ci := 4) (v := .int (nI dr.length)) (C := RX3) (T := TX3) (N := 21) hx hb hts iX3 hown hE.k hP 0 rfl rfl 4 (by decide) f85 (fun _ h9 => h9) rfl dX3_set_108 ?_
            refine m_iast hx hb hE.k hP hD hS 5 rfl (by omega) (by omega) dX3_set_111 (fun H locs hP hD hS => ?_)
            have hP : va_P K.1 vwCl (mW K o ad (va_up (va_up f' 5 (upd (f' 5) (54 * k + 9 * g + 3 * i + u) (nI dr.length))) 7 g7) (nI dr.length) (nI ((psC fm ps k g (3 * i + u)).length)) ta ti (nI (goL true true true))) H := hP
            have hD : va_D A (mW K o ad (va_up (va_up f' 5 (upd (f' 5) (54 * k + 9 * g + 3 * i + u) (nI dr.length))) 7 g7) (nI dr.length) (nI ((psC fm ps k g (3 * i + u)).length)) ta ti (nI (goL true true true))) := hD
            refine lv_aload_n hx hb dX3_set_112 rfl (lv_at hl 2 rfl) ?_
            refine va_get (D := K.1) (ci := 4) (v := .ref (ad 6)) (C := RX3) (T := TX3) (N := 21) hx hb hts iX3 hown hE.k hP 0 rfl rfl 6 (by decide) f25 (fun _ h9 => h9) rfl dX3_set_113 ?_
            refine lv_iload hx hb dX3_set_116 (lv_at hl 1 rfl) ?_
            refine lv_iload hx hb dX3_set_118 (lv_at hl 7 rfl) ?_
            refine m_zast hx hb hE.k hP hD hS 6 rfl (by omega) (by omega) dX3_set_120 (fun H locs hP hD hS => ?_)
            have hP : va_P K.1 vwCl (mW K o ad (va_up (va_up (va_up f' 5 (upd (f' 5) (54 * k + 9 * g + 3 * i + u) (nI dr.length))) 6 (upd (f' 6) (54 * k + 9 * g + 3 * i + u) (bI b9))) 7 g7) (nI dr.length) (nI ((psC fm ps k g (3 * i + u)).length)) ta ti (nI (goL true true true))) H := hP
            have hD : va_D A (mW K o ad (va_up (va_up (va_up f' 5 (upd (f' 5) (54 * k + 9 * g + 3 * i + u) (nI dr.length))) 6 (upd (f' 6) (54 * k + 9 * g + 3 * i + u) (bI b9))) 7 g7) (nI dr.length) (nI ((psC fm ps k g (3 * i + u)).length)) ta ti (nI (goL true true true))) := hD
            refine lv_aload_n hx hb dX3_set_121 rfl (lv_at hl 2 rfl) ?_
            refine lv_iconst (v := nI 0) hx hb dX3_set_122 (by decide) ?_
            refine va_put (D := K.1) (ci := 4) (v := .int (nI 0)) (ty := .int) (C := RX3) (T := TX3) (N := 21) hx hb hts iX3 tyX3 tyX3_ok nmX3 hown hE.k hP hD hS 0 rfl rfl 4 (by decide) f85 (fun _ h9 => h9) rfl (by decide +kernel) rfl rfl (Nat.le_of_ble_eq_true rfl) dX3_set_123 (fun H locs hP hD hS => ?_)
            have hP : va_P K.1 vwCl (mW K o ad (va_up (va_up (va_up f' 5 (upd (f' 5) (54 * k + 9 * g + 3 * i + u) (nI dr.length))) 6 (upd (f' 6) (54 * k + 9 * g + 3 * i + u) (bI b9))) 7 g7) (nI 0) (nI ((psC fm ps k g (3 * i + u)).length)) ta ti (nI (goL true true true))) H := hP
            have hD : va_D A (mW K o ad (va_up (va_up (va_up f' 5 (upd (f' 5) (54 * k + 9 * g + 3 * i + u) (nI dr.length))) 6 (upd (f' 6) (54 * k + 9 * g + 3 * i + u) (bI b9))) 7 g7) (nI 0) (nI ((psC fm ps k g (3 * i + u)).length)) ta ti (nI (goL true true true))) := hD
            refine lv_aload_n hx hb dX3_set_126 rfl (lv_at hl 2 rfl) ?_
            refine va_get (D := K.1) (ci := 4) (v := .ref (ad 8)) (C := RX3) (T := TX3) (N := 21) hx hb hts iX3 hown hE.k hP 0 rfl rfl 8 (by decide) f32 (fun _ h9 => h9) rfl dX3_set_127 ?_
            refine lv_iload_n hx hb dX3_set_130 rfl (lv_at hl 3 rfl) ?_
            refine m_iald hx hb hE.k hP 8 rfl (by omega) (by omega) (rv k hk_k) dX3_set_131 ?_
            exact m_iret hx hb hr hlk hS (Nat.le_of_ble_eq_true rfl) (Nat.le_of_ble_eq_true rfl) dX3_set_132 (⟨_, r3_0 (h1) (by omega) ⟨by rw [tN_nI (by omega), tN_nI (by omega)], _, _, _, _, _, hP, hD, rb, ro, rw9, ⟨rfl, by decide, fun j hj => absurd hj (Nat.not_lt_zero j)⟩, by rw [tN_nI (by omega), tN_nI (by omega), tN_nI (by omega), tN_nI (by omega)]; exact mF_set rm ⟨by omega, hdl⟩ (fun t h8 hn => hg1 t (by omega) hn) hg2, by rw [tN_nI (by omega), tN_nI (by omega)]; exact rv, by rw [tN_nI (by omega), tN_nI (by omega)]; exact rc, ⟨by rw [tN_nI (by omega), tN_nI (by omega), tN_nI (by omega), tN_nI (by omega)], by rw [tN_nI (by omega), tN_nI (by omega), tN_nI (by omega), tN_nI (by omega)]; exact hm9'⟩, rr, by rw [tN_nI (by omega), tN_nI (by omega)]; exact ri⟩⟩)
          · refine lv_aload_n hx hb dX3_set_62 rfl (lv_at hl 2 rfl) ?_
            refine va_get (D := K.1) (ci := 4) (v := .ref (ad 7)) (C := RX3) (T := TX3) (N := 21) hx hb hts iX3 hown hE.k hP 0 rfl rfl 7 (by decide) f29 (fun _ h9 => h9) rfl dX3_set_63 ?_
            refine lv_bipush (v := nI 8) hx hb dX3_set_66 (by decide) ?_
            refine lv_iload hx hb dX3_set_68 (lv_at hl 1 rfl) ?_
            refine m_imul hx hb dX3_set_70 ?_
            refine lv_iload hx hb dX3_set_71 (lv_at hl 0 rfl) ?_
            refine m_iadd hx hb dX3_set_73 ?_
            refine lv_iload hx hb dX3_set_74 (lv_at hl 0 rfl) ?_
            refine lv_aload_n hx hb dX3_set_76 rfl (lv_at hl 2 rfl) ?_
            refine va_get (D := K.1) (ci := 4) (v := .int (nI dr.length)) (C := RX3) (T := TX3) (N := 21) hx hb hts iX3 hown hE.k hP 0 rfl rfl 4 (by decide) f85 (fun _ h9 => h9) rfl dX3_set_77 ?_
            refine m_icmp_ge (tgt := 93) hx hb (by omega) (by omega) dX3_set_80 (by decide) (fun c_80 => ?_) (fun c_80 => ?_)
            · refine lv_iconst (v := nI 0) hx hb dX3_set_93 (by decide) ?_
              refine m_iast hx hb hE.k hP hD hS 7 rfl (by omega) (by omega) dX3_set_94 (fun H locs hP hD hS => ?_)
              have hP : va_P K.1 vwCl (mW K o ad (va_up f' 7 (upd g7 ((8 * (54 * k + 9 * g + 3 * i + u)) + i9) (nI 0))) (nI dr.length) (nI ((psC fm ps k g (3 * i + u)).length)) ta ti (nI (goL true true true))) H := hP
              have hD : va_D A (mW K o ad (va_up f' 7 (upd g7 ((8 * (54 * k + 9 * g + 3 * i + u)) + i9) (nI 0))) (nI dr.length) (nI ((psC fm ps k g (3 * i + u)).length)) ta ti (nI (goL true true true))) := hD
              refine lv_iinc (v := nI (i9 + 1)) (lv' := [(7, .int (nI (i9 + 1))), (6, .int (nI (54 * k + 9 * g + 3 * i + u))), (0, .ref o), (1, .int (nI k)), (2, .int (nI g)), (3, .int (nI i)), (4, .int (nI u)), (5, .int (bI b9))]) hx hb dX3_set_95 hl (k := 0) rfl (m_inc _) (by decide) rfl (fun ls hl => ?_)
              refine lv_goto (tgt := 55) hx hb dX3_set_98 (by decide) ?_
              exact ih (i9 + 1) (upd g7 ((8 * (54 * k + 9 * g + 3 * i + u)) + i9) (nI 0)) _ _ ls (by omega) (by omega) (sg_up1 hg1 (fun z => absurd z (by omega))) (sg_up2 hg2 (by omega)) hP hD hS (lv_sub hl [0, 1, 2, 3, 4, 5, 6, 7] rfl)
            · refine lv_aload_n hx hb dX3_set_83 rfl (lv_at hl 2 rfl) ?_
              refine va_get (D := K.1) (ci := 4) (v := .ref (ad 3)) (C := RX3) (T := TX3) (N := 21) hx hb hts iX3 hown hE.k hP 0 rfl rfl 3 (by decide) f19 (fun _ h9 => h9) rfl dX3_set_84 ?_
              refine lv_iload hx hb dX3_set_87 (lv_at hl 0 rfl) ?_
              refine m_iald hx hb hE.k hP 4 rfl (by omega) (by omega) (rdj i9 (by omega)) dX3_set_89 ?_
              refine lv_goto (tgt := 94) hx hb dX3_set_90 (by decide) ?_
              refine m_iast hx hb hE.k hP hD hS 7 rfl (by omega) (by omega) dX3_set_94 (fun H locs hP hD hS => ?_)
              have hP : va_P K.1 vwCl (mW K o ad (va_up f' 7 (upd g7 ((8 * (54 * k + 9 * g + 3 * i + u)) + i9) (dr.getD i9 0))) (nI dr.length) (nI ((psC fm ps k g (3 * i + u)).length)) ta ti (nI (goL true true true))) H := hP
              have hD : va_D A (mW K o ad (va_up f' 7 (upd g7 ((8 * (54 * k + 9 * g + 3 * i + u)) + i9) (dr.getD i9 0))) (nI dr.length) (nI ((psC fm ps k g (3 * i + u)).length)) ta ti (nI (goL true true true))) := hD
              refine lv_iinc (v := nI (i9 + 1)) (lv' := [(7, .int (nI (i9 + 1))), (6, .int (nI (54 * k + 9 * g + 3 * i + u))), (0, .ref o), (1, .int (nI k)), (2, .int (nI g)), (3, .int (nI i)), (4, .int (nI u)), (5, .int (bI b9))]) hx hb dX3_set_95 hl (k := 0) rfl (m_inc _) (by decide) rfl (fun ls hl => ?_)
              refine lv_goto (tgt := 55) hx hb dX3_set_98 (by decide) ?_
              exact ih (i9 + 1) (upd g7 ((8 * (54 * k + 9 * g + 3 * i + u)) + i9) (dr.getD i9 0)) _ _ ls (by omega) (by omega) (sg_up1 hg1 (fun _ => rfl)) (sg_up2 hg2 (by omega)) hP hD hS (lv_sub hl [0, 1, 2, 3, 4, 5, 6, 7] rfl)
      · exact absurd c_25 (by first | decide | exact (show ¬ false = true by decide) | exact (show ¬ true = false by decide))
  | false =>
    have h1 := nB (okFB_iff (x := x) (y := y) (z := z) (w := w)) e_6
    refine lv_aload_n hx hb dX3_set_9 rfl (lv_at hl 0 rfl) ?_
    refine va_get (D := K.1) (ci := 4) (v := .int (nI dr.length)) (C := RX3) (T := TX3) (N := 21) hx hb hts iX3 hown hE.k hP 0 rfl rfl 4 (by decide) f85 (fun _ h9 => h9) rfl dX3_set_10 ?_
    refine m_if_le (tgt := 20) hx hb (by omega) dX3_set_13 (by decide) (fun c_13 => ?_) (fun c_13 => ?_)
    · refine lv_iconst (v := nI 0) hx hb dX3_set_20 (by decide) ?_
      refine lv_iconst (v := nI 1) hx hb dX3_set_21 (by decide) ?_
      refine m_cVi (rest := []) ⟨hx, hb, hml, hown, hts⟩ hE hS (fun _ h => h) (kX3_goes l K A _ o ad f (nI dr.length) (nI ps.length) ta ti la hP hD false false true) (cwV 3 hts gX3_set_X3_goes rfl rfl rfl (by decide +kernel) ⟨Nat.le_of_ble_eq_true rfl, Nat.le_of_ble_eq_true rfl⟩) (va_recv hE.k hP (ci := 4) (q0 := 0) rfl rfl) rfl rfl hl.1 rfl (Nat.le_of_ble_eq_true rfl) dX3_set_22 ⟨Nat.le_of_ble_eq_true rfl, Nat.le_of_ble_eq_true rfl⟩ (fun r H locs hp hS hk => ?_)
      obtain ⟨rfl, hP, hD⟩ := hp
      refine m_if_ne_b (tgt := 30) hx hb dX3_set_25 (by decide) (fun c_25 => ?_) (fun c_25 => ?_)
      · exact absurd c_25 (by first | decide | exact (show ¬ false = true by decide) | exact (show ¬ true = false by decide))
      · refine lv_iconst (v := nI 0) hx hb dX3_set_28 (by decide) ?_
        exact m_iret hx hb hr hlk hS (Nat.le_of_ble_eq_true rfl) (Nat.le_of_ble_eq_true rfl) dX3_set_29 (⟨_, r3_1 (h1) ⟨f, _, _, _, _, hP, hD, hR⟩⟩)
    · refine lv_iconst (v := nI 1) hx hb dX3_set_16 (by decide) ?_
      refine lv_goto (tgt := 21) hx hb dX3_set_17 (by decide) ?_
      refine lv_iconst (v := nI 1) hx hb dX3_set_21 (by decide) ?_
      refine m_cVi (rest := []) ⟨hx, hb, hml, hown, hts⟩ hE hS (fun _ h => h) (kX3_goes l K A _ o ad f (nI dr.length) (nI ps.length) ta ti la hP hD false true true) (cwV 3 hts gX3_set_X3_goes rfl rfl rfl (by decide +kernel) ⟨Nat.le_of_ble_eq_true rfl, Nat.le_of_ble_eq_true rfl⟩) (va_recv hE.k hP (ci := 4) (q0 := 0) rfl rfl) rfl rfl hl.1 rfl (Nat.le_of_ble_eq_true rfl) dX3_set_22 ⟨Nat.le_of_ble_eq_true rfl, Nat.le_of_ble_eq_true rfl⟩ (fun r H locs hp hS hk => ?_)
      obtain ⟨rfl, hP, hD⟩ := hp
      refine m_if_ne_b (tgt := 30) hx hb dX3_set_25 (by decide) (fun c_25 => ?_) (fun c_25 => ?_)
      · exact absurd c_25 (by first | decide | exact (show ¬ false = true by decide) | exact (show ¬ true = false by decide))
      · refine lv_iconst (v := nI 0) hx hb dX3_set_28 (by decide) ?_
        exact m_iret hx hb hr hlk hS (Nat.le_of_ble_eq_true rfl) (Nat.le_of_ble_eq_true rfl) dX3_set_29 (⟨_, r3_1 (h1) ⟨f, _, _, _, _, hP, hD, hR⟩⟩)

theorem len_no {g5 g6 g7 : Nat → Int32} {k : Nat} {fo : Option Frm} (h : mF g5 g6 g7 k fo) (z : lenF fo ≤ 0) : fo = none := by
  have h2 := len_n h z
  cases fo with
  | none => rfl
  | some F => cases h2

set_option maxHeartbeats 4000000 in
set_option maxRecDepth 100000 in
theorem kX3_remove (l : Launch) (K : m_K) (A : Nat → Prop) (H0 : Heap) (o : Nat) (ad : Nat → Nat) (fb : Nat → Nat) (on fw : Nat → Int32) (dr : List Int32) (fm : Nat → Option Frm) (vs ch : Nat → Int32) (ps : List Pr) (la : Int32) (hm9 : mOK K A H0 o ad fb on fw dr fm vs ch ps la) (x y z w : Int32) : Met l yX3_remove wsX3_remove ({ frames := 3, cells := 0, slots := 0, locals := 70 } : Room) (m_Pc K A H0 [.ref o, .int x, .int y, .int z, .int w]) (va_Qi (fun r H1 => ∃ k9, R3 (okF x y z w) (¬ fm (54 * tN x + 9 * tN y + 3 * tN z + tN w) = none) k9 (r = nI (lenF (fm (54 * tN x + 9 * tN y + 3 * tN z + tN w))) ∧ mOK K A H1 o ad fb on fw dr (va_up fm (54 * tN x + 9 * tN y + 3 * tN z + tN w) none) (vsC vs (tN x) (tN y)) (chC ch vs (tN x) (tN y)) (psC fm ps (tN x) (tN y) (3 * tN z + tN w)) k9) (mOK K A H1 o ad fb on fw dr fm vs ch ps k9)) m_B A) 0 0 A := by
  refine m_ofW (by decide) rfl (Nat.le_of_ble_eq_true rfl) ?_
  intro p e s m args below meth c ls hx hb hr hml hown hts hlk hnm hE hsz hS hl
  have hl : lv_has ls 8 [(0, .ref o), (1, .int x), (2, .int y), (3, .int z), (4, .int w)] := hl
  obtain ⟨f, d, pr, ta, ti, hP, hD, hR⟩ := hm9
  obtain ⟨hfb, hon, hfw, ⟨rfl, hdl, hdj⟩, hfm, hvs, hch, ⟨rfl, hps⟩, ⟨rk, hRK, hr5⟩, hin⟩ := id hR
  have hps20 := hps.1
  have iX3 : ∀ w ∈ wsX30, w ∈ wsX3_remove := by decide +kernel
  have f22 := hts (.fieldLink RX3 22 "PhraseCatalogueModel" "lengths" "[I") (by decide +kernel)
  refine lv_iload_n hx hb dX3_remove_0 rfl (lv_at hl 1 rfl) ?_
  refine lv_iload_n hx hb dX3_remove_1 rfl (lv_at hl 2 rfl) ?_
  refine lv_iload_n hx hb dX3_remove_2 rfl (lv_at hl 3 rfl) ?_
  refine lv_iload hx hb dX3_remove_3 (lv_at hl 4 rfl) ?_
  refine m_cSi (rest := []) ⟨hx, hb, hml, hown, hts⟩ hE hS (fun _ h => h) (kX3_isForm l K A _ x y z w) (va_cwS 4 hts gX3_remove_X3_isForm rfl rfl rfl (by decide +kernel) ⟨Nat.le_of_ble_eq_true rfl, Nat.le_of_ble_eq_true rfl⟩) rfl rfl hl.1 rfl (Nat.le_of_ble_eq_true rfl) dX3_remove_5 ⟨Nat.le_of_ble_eq_true rfl, Nat.le_of_ble_eq_true rfl⟩ (fun r H1 locs hp hS hk => ?_)
  obtain ⟨rfl, rfl⟩ := hp
  cases e_5 : okFB x y z w with
  | true =>
    have h1 := (okFB_iff (x := x) (y := y) (z := z) (w := w)).mp e_5
    obtain ⟨k, hk_k, rfl⟩ := okN_of h1.1 (by decide)
    obtain ⟨g, hk_g, rfl⟩ := okN_of h1.2.1 (by decide)
    obtain ⟨i, hk_i, rfl⟩ := okN_of h1.2.2.1 (by decide)
    obtain ⟨u, hk_u, rfl⟩ := okN_of h1.2.2.2 (by decide)
    have hl : lv_has ls 8 [(0, .ref o), (1, .int (nI k)), (2, .int (nI g)), (3, .int (nI i)), (4, .int (nI u))] := hl
    refine lv_istore (lv' := [(5, .int (bI true)), (0, .ref o), (1, .int (nI k)), (2, .int (nI g)), (3, .int (nI i)), (4, .int (nI u))]) hx hb dX3_remove_8 hl (by decide) rfl (fun ls hl => ?_)
    refine lv_aload_n hx hb dX3_remove_10 rfl (lv_at hl 1 rfl) ?_
    refine lv_iload hx hb dX3_remove_11 (lv_at hl 0 rfl) ?_
    refine lv_iload hx hb dX3_remove_13 (lv_at hl 0 rfl) ?_
    refine m_if_eq_b (tgt := 38) hx hb dX3_remove_15 (by decide) (fun c_15 => ?_) (fun c_15 => ?_)
    · exact absurd c_15 (by first | decide | exact (show ¬ false = true by decide) | exact (show ¬ true = false by decide))
    · refine lv_aload_n hx hb dX3_remove_18 rfl (lv_at hl 1 rfl) ?_
      refine va_get (D := K.1) (ci := 4) (v := .ref (ad 5)) (C := RX3) (T := TX3) (N := 21) hx hb hts iX3 hown hE.k hP 0 rfl rfl 5 (by decide) f22 (fun _ h9 => h9) rfl dX3_remove_19 ?_
      refine lv_iload_n hx hb dX3_remove_22 rfl (lv_at hl 2 rfl) ?_
      refine lv_iload_n hx hb dX3_remove_23 rfl (lv_at hl 3 rfl) ?_
      refine lv_iload_n hx hb dX3_remove_24 rfl (lv_at hl 4 rfl) ?_
      refine lv_iload hx hb dX3_remove_25 (lv_at hl 5 rfl) ?_
      refine m_cSi (rest := [.ref (ad 5), .int (bI true), .ref o]) ⟨hx, hb, hml, hown, hts⟩ hE hS (fun _ h => h) (kX3_at l K A _ k g i u) (va_cwS 4 hts gX3_remove_X3_at rfl rfl rfl (by decide +kernel) ⟨Nat.le_of_ble_eq_true rfl, Nat.le_of_ble_eq_true rfl⟩) rfl rfl hl.1 rfl (Nat.le_of_ble_eq_true rfl) dX3_remove_27 ⟨Nat.le_of_ble_eq_true rfl, Nat.le_of_ble_eq_true rfl⟩ (fun r H1 locs hp hS hk => ?_)
      obtain ⟨rfl, rfl⟩ := hp
      have hq9 := hfm (54 * k + 9 * g + 3 * i + u) (by omega)
      have hl9 := hq9.2.1
      refine m_iald hx hb hE.k hP 5 rfl (by omega) (by omega) hq9.1 dX3_remove_30 ?_
      refine m_if_le (tgt := 38) hx hb (by omega) dX3_remove_31 (by decide) (fun c_31 => ?_) (fun c_31 => ?_)
      · have h2 := len_no hq9 c_31
        refine lv_iconst (v := nI 0) hx hb dX3_remove_38 (by decide) ?_
        refine lv_iconst (v := nI 1) hx hb dX3_remove_39 (by decide) ?_
        refine m_cVi (rest := []) ⟨hx, hb, hml, hown, hts⟩ hE hS (fun _ h => h) (kX3_goes l K A _ o ad f (nI dr.length) (nI ps.length) ta ti la hP hD true false true) (cwV 3 hts gX3_remove_X3_goes rfl rfl rfl (by decide +kernel) ⟨Nat.le_of_ble_eq_true rfl, Nat.le_of_ble_eq_true rfl⟩) (va_recv hE.k hP (ci := 4) (q0 := 0) rfl rfl) rfl rfl hl.1 rfl (Nat.le_of_ble_eq_true rfl) dX3_remove_40 ⟨Nat.le_of_ble_eq_true rfl, Nat.le_of_ble_eq_true rfl⟩ (fun r H locs hp hS hk => ?_)
        obtain ⟨rfl, hP, hD⟩ := hp
        refine m_if_ne_b (tgt := 48) hx hb dX3_remove_43 (by decide) (fun c_43 => ?_) (fun c_43 => ?_)
        · exact absurd c_43 (by first | decide | exact (show ¬ false = true by decide) | exact (show ¬ true = false by decide))
        · refine lv_iconst (v := nI 0) hx hb dX3_remove_46 (by decide) ?_
          exact m_iret hx hb hr hlk hS (Nat.le_of_ble_eq_true rfl) (Nat.le_of_ble_eq_true rfl) dX3_remove_47 (⟨_, r3_2 (h1) (by rw [tN_nI (by omega), tN_nI (by omega), tN_nI (by omega), tN_nI (by omega)]; exact fun z => z h2) ⟨f, _, _, _, _, hP, hD, hR⟩⟩)
      · have h2 : ¬ fm (54 * k + 9 * g + 3 * i + u) = none := fun e => c_31 (by rw [e]; exact Nat.le_refl 0)
        refine lv_iconst (v := nI 1) hx hb dX3_remove_34 (by decide) ?_
        refine lv_goto (tgt := 39) hx hb dX3_remove_35 (by decide) ?_
        refine lv_iconst (v := nI 1) hx hb dX3_remove_39 (by decide) ?_
        refine m_cVi (rest := []) ⟨hx, hb, hml, hown, hts⟩ hE hS (fun _ h => h) (kX3_goes l K A _ o ad f (nI dr.length) (nI ps.length) ta ti la hP hD true true true) (cwV 3 hts gX3_remove_X3_goes rfl rfl rfl (by decide +kernel) ⟨Nat.le_of_ble_eq_true rfl, Nat.le_of_ble_eq_true rfl⟩) (va_recv hE.k hP (ci := 4) (q0 := 0) rfl rfl) rfl rfl hl.1 rfl (Nat.le_of_ble_eq_true rfl) dX3_remove_40 ⟨Nat.le_of_ble_eq_true rfl, Nat.le_of_ble_eq_true rfl⟩ (fun r H locs hp hS hk => ?_)
        obtain ⟨rfl, hP, hD⟩ := hp
        refine m_if_ne_b (tgt := 48) hx hb dX3_remove_43 (by decide) (fun c_43 => ?_) (fun c_43 => ?_)
        · refine lv_iload_n hx hb dX3_remove_48 rfl (lv_at hl 2 rfl) ?_
          refine lv_iload_n hx hb dX3_remove_49 rfl (lv_at hl 3 rfl) ?_
          refine lv_iload_n hx hb dX3_remove_50 rfl (lv_at hl 4 rfl) ?_
          refine lv_iload hx hb dX3_remove_51 (lv_at hl 5 rfl) ?_
          refine m_cSi (rest := []) ⟨hx, hb, hml, hown, hts⟩ hE hS (fun _ h => h) (kX3_at l K A _ k g i u) (va_cwS 4 hts gX3_remove_X3_at rfl rfl rfl (by decide +kernel) ⟨Nat.le_of_ble_eq_true rfl, Nat.le_of_ble_eq_true rfl⟩) rfl rfl hl.1 rfl (Nat.le_of_ble_eq_true rfl) dX3_remove_53 ⟨Nat.le_of_ble_eq_true rfl, Nat.le_of_ble_eq_true rfl⟩ (fun r H1 locs hp hS hk => ?_)
          obtain ⟨rfl, rfl⟩ := hp
          refine lv_istore (lv' := [(6, .int (nI (54 * k + 9 * g + 3 * i + u))), (5, .int (bI true)), (0, .ref o), (1, .int (nI k)), (2, .int (nI g)), (3, .int (nI i)), (4, .int (nI u))]) hx hb dX3_remove_56 hl (by decide) rfl (fun ls hl => ?_)
          refine lv_aload_n hx hb dX3_remove_58 rfl (lv_at hl 2 rfl) ?_
          refine va_get (D := K.1) (ci := 4) (v := .ref (ad 5)) (C := RX3) (T := TX3) (N := 21) hx hb hts iX3 hown hE.k hP 0 rfl rfl 5 (by decide) f22 (fun _ h9 => h9) rfl dX3_remove_59 ?_
          refine lv_iload hx hb dX3_remove_62 (lv_at hl 0 rfl) ?_
          have hq9 := hfm (54 * k + 9 * g + 3 * i + u) (by omega)
          have hl9 := hq9.2.1
          refine m_iald hx hb hE.k hP 5 rfl (by omega) (by omega) hq9.1 dX3_remove_64 ?_
          refine lv_istore (lv' := [(7, .int (nI (lenF (fm (54 * k + 9 * g + 3 * i + u))))), (6, .int (nI (54 * k + 9 * g + 3 * i + u))), (5, .int (bI true)), (0, .ref o), (1, .int (nI k)), (2, .int (nI g)), (3, .int (nI i)), (4, .int (nI u))]) hx hb dX3_remove_65 hl (by decide) rfl (fun ls hl => ?_)
          refine lv_aload_n hx hb dX3_remove_67 rfl (lv_at hl 3 rfl) ?_
          refine lv_iload_n hx hb dX3_remove_68 rfl (lv_at hl 4 rfl) ?_
          refine lv_iload_n hx hb dX3_remove_69 rfl (lv_at hl 5 rfl) ?_
          refine lv_iconst (v := nI 3) hx hb dX3_remove_70 (by decide) ?_
          refine lv_iload_n hx hb dX3_remove_71 rfl (lv_at hl 6 rfl) ?_
          refine m_imul hx hb dX3_remove_72 ?_
          refine lv_iload hx hb dX3_remove_73 (lv_at hl 7 rfl) ?_
          refine m_iadd hx hb dX3_remove_75 ?_
          refine m_cVv (rest := []) ⟨hx, hb, hml, hown, hts⟩ hE hS (fun _ h => h) (kX3_changes l K A _ o ad f (nI dr.length) ta ti ((nI (goL true true true))) fm hfm ps hps hP hD k g (3 * i + u) hk_k hk_g (by omega)) (cwV 3 hts gX3_remove_X3_changes rfl rfl rfl (by decide +kernel) ⟨Nat.le_of_ble_eq_true rfl, Nat.le_of_ble_eq_true rfl⟩) (va_recv hE.k hP (ci := 4) (q0 := 0) rfl rfl) rfl rfl hl.1 rfl (Nat.le_of_ble_eq_true rfl) dX3_remove_76 ⟨Nat.le_of_ble_eq_true rfl, Nat.le_of_ble_eq_true rfl⟩ (fun H locs hp hS hk => ?_)
          obtain ⟨f', ps9, hP, hD, hs9, rfl, hm9', h8, h9⟩ := hp
          obtain ⟨rb, ro, rw9, ⟨-, rdl, rdj⟩, rm, rv, rc, -, rr, ri⟩ := mRep_chg hR hk_k hk_g hs9 hm9' h8 h9
          refine lv_aload_n hx hb dX3_remove_79 rfl (lv_at hl 3 rfl) ?_
          refine va_get (D := K.1) (ci := 4) (v := .ref (ad 5)) (C := RX3) (T := TX3) (N := 21) hx hb hts iX3 hown hE.k hP 0 rfl rfl 5 (by decide) f22 (fun _ h9 => h9) rfl dX3_remove_80 ?_
          refine lv_iload hx hb dX3_remove_83 (lv_at hl 1 rfl) ?_
          refine lv_iconst (v := nI 0) hx hb dX3_remove_85 (by decide) ?_
          refine m_iast hx hb hE.k hP hD hS 5 rfl (by omega) (by omega) dX3_remove_86 (fun H locs hP hD hS => ?_)
          have hP : va_P K.1 vwCl (mW K o ad (va_up f' 5 (upd (f' 5) (54 * k + 9 * g + 3 * i + u) (nI 0))) (nI dr.length) (nI ((psC fm ps k g (3 * i + u)).length)) ta ti (nI (goL true true true))) H := hP
          have hD : va_D A (mW K o ad (va_up f' 5 (upd (f' 5) (54 * k + 9 * g + 3 * i + u) (nI 0))) (nI dr.length) (nI ((psC fm ps k g (3 * i + u)).length)) ta ti (nI (goL true true true))) := hD
          refine lv_iload hx hb dX3_remove_87 (lv_at hl 0 rfl) ?_
          exact m_iret hx hb hr hlk hS (Nat.le_of_ble_eq_true rfl) (Nat.le_of_ble_eq_true rfl) dX3_remove_89 (⟨_, r3_0 (h1) (by rw [tN_nI (by omega), tN_nI (by omega), tN_nI (by omega), tN_nI (by omega)]; exact h2) ⟨by rw [tN_nI (by omega), tN_nI (by omega), tN_nI (by omega), tN_nI (by omega)], _, _, _, _, _, hP, hD, rb, ro, rw9, ⟨rfl, hdl, rdj⟩, by rw [tN_nI (by omega), tN_nI (by omega), tN_nI (by omega), tN_nI (by omega)]; exact mF_rem rm, by rw [tN_nI (by omega), tN_nI (by omega)]; exact rv, by rw [tN_nI (by omega), tN_nI (by omega)]; exact rc, ⟨by rw [tN_nI (by omega), tN_nI (by omega), tN_nI (by omega), tN_nI (by omega)], by rw [tN_nI (by omega), tN_nI (by omega), tN_nI (by omega), tN_nI (by omega)]; exact hm9'⟩, rr, by rw [tN_nI (by omega), tN_nI (by omega)]; exact ri⟩⟩)
        · exact absurd c_43 (by first | decide | exact (show ¬ false = true by decide) | exact (show ¬ true = false by decide))
  | false =>
    have h1 := nB (okFB_iff (x := x) (y := y) (z := z) (w := w)) e_5
    refine lv_istore (lv' := [(5, .int (bI false)), (0, .ref o), (1, .int x), (2, .int y), (3, .int z), (4, .int w)]) hx hb dX3_remove_8 hl (by decide) rfl (fun ls hl => ?_)
    refine lv_aload_n hx hb dX3_remove_10 rfl (lv_at hl 1 rfl) ?_
    refine lv_iload hx hb dX3_remove_11 (lv_at hl 0 rfl) ?_
    refine lv_iload hx hb dX3_remove_13 (lv_at hl 0 rfl) ?_
    refine m_if_eq_b (tgt := 38) hx hb dX3_remove_15 (by decide) (fun c_15 => ?_) (fun c_15 => ?_)
    · refine lv_iconst (v := nI 0) hx hb dX3_remove_38 (by decide) ?_
      refine lv_iconst (v := nI 1) hx hb dX3_remove_39 (by decide) ?_
      refine m_cVi (rest := []) ⟨hx, hb, hml, hown, hts⟩ hE hS (fun _ h => h) (kX3_goes l K A _ o ad f (nI dr.length) (nI ps.length) ta ti la hP hD false false true) (cwV 3 hts gX3_remove_X3_goes rfl rfl rfl (by decide +kernel) ⟨Nat.le_of_ble_eq_true rfl, Nat.le_of_ble_eq_true rfl⟩) (va_recv hE.k hP (ci := 4) (q0 := 0) rfl rfl) rfl rfl hl.1 rfl (Nat.le_of_ble_eq_true rfl) dX3_remove_40 ⟨Nat.le_of_ble_eq_true rfl, Nat.le_of_ble_eq_true rfl⟩ (fun r H locs hp hS hk => ?_)
      obtain ⟨rfl, hP, hD⟩ := hp
      refine m_if_ne_b (tgt := 48) hx hb dX3_remove_43 (by decide) (fun c_43 => ?_) (fun c_43 => ?_)
      · exact absurd c_43 (by first | decide | exact (show ¬ false = true by decide) | exact (show ¬ true = false by decide))
      · refine lv_iconst (v := nI 0) hx hb dX3_remove_46 (by decide) ?_
        exact m_iret hx hb hr hlk hS (Nat.le_of_ble_eq_true rfl) (Nat.le_of_ble_eq_true rfl) dX3_remove_47 (⟨_, r3_1 (h1) ⟨f, _, _, _, _, hP, hD, hR⟩⟩)
    · exact absurd c_15 (by first | decide | exact (show ¬ false = true by decide) | exact (show ¬ true = false by decide))

set_option maxHeartbeats 4000000 in
set_option maxRecDepth 100000 in
theorem kX3_toldBy (l : Launch) (K : m_K) (A : Nat → Prop) (H0 : Heap) (o : Nat) (ad : Nat → Nat) (fb : Nat → Nat) (on fw : Nat → Int32) (dr : List Int32) (fm : Nat → Option Frm) (vs ch : Nat → Int32) (ps : List Pr) (la : Int32) (hm9 : mOK K A H0 o ad fb on fw dr fm vs ch ps la) (x y z w : Int32) : Met l yX3_toldBy wsX3_toldBy ({ frames := 4, cells := 0, slots := 0, locals := 103 } : Room) (m_Pc K A H0 [.ref o, .int x, .int y, .int z, .int w]) (va_Qi (fun r H1 => ∃ k9, R3 (okQ x y w) (okN z 2147483648) k9 (r = lgS (tellS fb on fw fm (tN x) (tN y) z (tN w)) ∧ mOK K A H1 o ad fb on fw dr fm vs ch ps k9) (mOK K A H1 o ad fb on fw dr fm vs ch ps k9)) m_B A) 0 0 A := by
  refine m_ofW (by decide) rfl (Nat.le_of_ble_eq_true rfl) ?_
  intro p e s m args below meth c ls hx hb hr hml hown hts hlk hnm hE hsz hS hl
  have hl : lv_has ls 5 [(0, .ref o), (1, .int x), (2, .int y), (3, .int z), (4, .int w)] := hl
  obtain ⟨f, d, pr, ta, ti, hP, hD, hR⟩ := hm9
  obtain ⟨hfb, hon, hfw, ⟨rfl, hdl, hdj⟩, hfm, hvs, hch, ⟨rfl, hps⟩, ⟨rk, hRK, hr5⟩, hin⟩ := id hR
  have hps20 := hps.1
  have iX3 : ∀ w ∈ wsX30, w ∈ wsX3_toldBy := by decide +kernel
  have f123 := hts (.fieldLink RX3 123 "PhraseCatalogueModel" "toldAt" "I") (by decide +kernel)
  have f126 := hts (.fieldLink RX3 126 "PhraseCatalogueModel" "toldIn" "I") (by decide +kernel)
  refine lv_aload_n hx hb dX3_toldBy_0 rfl (lv_at hl 0 rfl) ?_
  refine lv_iload_n hx hb dX3_toldBy_1 rfl (lv_at hl 1 rfl) ?_
  refine lv_iload_n hx hb dX3_toldBy_2 rfl (lv_at hl 2 rfl) ?_
  refine lv_iload_n hx hb dX3_toldBy_3 rfl (lv_at hl 3 rfl) ?_
  refine lv_iload hx hb dX3_toldBy_4 (lv_at hl 4 rfl) ?_
  refine m_cVi (rest := []) ⟨hx, hb, hml, hown, hts⟩ hE hS (fun _ h => h) (kX3_isAsked l K A _ o ad f (nI dr.length) (nI ps.length) ta ti la hP hD fb hfb rk hRK hr5 fm hfm on fw hon hfw x y z w) (cwV 4 hts gX3_toldBy_X3_isAsked rfl rfl rfl (by decide +kernel) ⟨Nat.le_of_ble_eq_true rfl, Nat.le_of_ble_eq_true rfl⟩) (va_recv hE.k hP (ci := 4) (q0 := 0) rfl rfl) rfl rfl hl.1 rfl (Nat.le_of_ble_eq_true rfl) dX3_toldBy_6 ⟨Nat.le_of_ble_eq_true rfl, Nat.le_of_ble_eq_true rfl⟩ (fun r H locs hp hS hk => ?_)
  obtain ⟨ta', ti', hP, hD, rfl, htl⟩ := hp
  cases ea : okQB x y w with
  | false =>
    rw [ea] at hP hD htl
    have h1 := nB okQB_iff ea
    refine m_if_eq_b (tgt := 31) hx hb dX3_toldBy_9 (by decide) (fun c_9 => ?_) (fun c_9 => ?_)
    · refine lv_iconst (v := nI 0) hx hb dX3_toldBy_31 (by decide) ?_
      exact m_iret hx hb hr hlk hS (Nat.le_of_ble_eq_true rfl) (Nat.le_of_ble_eq_true rfl) dX3_toldBy_32 (⟨_, r3_1 (h1) ⟨f, _, _, _, _, hP, hD, hR⟩⟩)
    · exact absurd c_9 (by first | decide | exact (show ¬ false = true by decide) | exact (show ¬ true = false by decide))
  | true =>
    rw [ea] at hP hD htl
    have h1 := okQB_iff.mp ea
    cases eb : okB z 2147483648 with
    | false =>
      rw [eb] at hP hD htl
      have h2 := nB okB_iff eb
      refine m_if_eq_b (tgt := 31) hx hb dX3_toldBy_9 (by decide) (fun c_9 => ?_) (fun c_9 => ?_)
      · refine lv_iconst (v := nI 0) hx hb dX3_toldBy_31 (by decide) ?_
        exact m_iret hx hb hr hlk hS (Nat.le_of_ble_eq_true rfl) (Nat.le_of_ble_eq_true rfl) dX3_toldBy_32 (⟨_, r3_2 (h1) (h2) ⟨f, _, _, _, _, hP, hD, hR⟩⟩)
      · exact absurd c_9 (by first | decide | exact (show ¬ false = true by decide) | exact (show ¬ true = false by decide))
    | true =>
      rw [eb] at hP hD htl
      have h2 := okB_iff.mp eb
      obtain ⟨rfl, hti⟩ := htl rfl
      have hbd : ∀ s, tellS fb on fw fm (tN x) (tN y) z (tN w) = some s → s < 540 := fun s hs => tellS_lt (fun l hl => (hfb l hl).2) (tN_lt h1.1 (by decide)) (tN_lt h1.2.1 (by decide)) (tN_lt h1.2.2 (by decide)) hs
      refine m_if_eq_b (tgt := 31) hx hb dX3_toldBy_9 (by decide) (fun c_9 => ?_) (fun c_9 => ?_)
      · exact absurd c_9 (by first | decide | exact (show ¬ false = true by decide) | exact (show ¬ true = false by decide))
      · refine lv_aload_n hx hb dX3_toldBy_12 rfl (lv_at hl 0 rfl) ?_
        refine va_get (D := K.1) (ci := 4) (v := .int (oI (tellS fb on fw fm (tN x) (tN y) z (tN w)))) (C := RX3) (T := TX3) (N := 21) hx hb hts iX3 hown hE.k hP 0 rfl rfl 18 (by decide) f123 (fun _ h9 => h9) rfl dX3_toldBy_13 ?_
        refine lv_iconst (v := (-1)) hx hb dX3_toldBy_16 (by decide) ?_
        refine m_icmp_ne_o (tgt := 24) hx hb (fun s hs => Nat.lt_trans (hbd s hs) (by decide)) dX3_toldBy_17 (by decide) (fun k_17 c_17 => ?_) (fun c_17 => ?_)
        · rw [c_17] at hP hD
          have hP : va_P K.1 vwCl (mW K o ad f (nI dr.length) (nI ps.length) (nI k_17) ti' (nI (goL true true true))) _ := hP
          have hD : va_D A (mW K o ad f (nI dr.length) (nI ps.length) (nI k_17) ti' (nI (goL true true true))) := hD
          have hk9 := hbd k_17 c_17
          refine lv_aload_n hx hb dX3_toldBy_24 rfl (lv_at hl 0 rfl) ?_
          refine va_get (D := K.1) (ci := 4) (v := .int ti') (C := RX3) (T := TX3) (N := 21) hx hb hts iX3 hown hE.k hP 0 rfl rfl 19 (by decide) f126 (fun _ h9 => h9) rfl dX3_toldBy_25 ?_
          refine lv_goto (tgt := 32) hx hb dX3_toldBy_28 (by decide) ?_
          exact m_iret hx hb hr hlk hS (Nat.le_of_ble_eq_true rfl) (Nat.le_of_ble_eq_true rfl) dX3_toldBy_32 (⟨_, r3_0 (h1) (h2) ⟨by rw [c_17, hti k_17 c_17]; rfl, ⟨f, _, _, _, _, hP, hD, hR⟩⟩⟩)
        · refine lv_iconst (v := (-1)) hx hb dX3_toldBy_20 (by decide) ?_
          refine lv_goto (tgt := 32) hx hb dX3_toldBy_21 (by decide) ?_
          exact m_iret hx hb hr hlk hS (Nat.le_of_ble_eq_true rfl) (Nat.le_of_ble_eq_true rfl) dX3_toldBy_32 (⟨_, r3_0 (h1) (h2) ⟨by rw [c_17]; rfl, ⟨f, _, _, _, _, hP, hD, hR⟩⟩⟩)

set_option maxHeartbeats 4000000 in
set_option maxRecDepth 100000 in
theorem kX3_toldForm (l : Launch) (K : m_K) (A : Nat → Prop) (H0 : Heap) (o : Nat) (ad : Nat → Nat) (fb : Nat → Nat) (on fw : Nat → Int32) (dr : List Int32) (fm : Nat → Option Frm) (vs ch : Nat → Int32) (ps : List Pr) (la : Int32) (hm9 : mOK K A H0 o ad fb on fw dr fm vs ch ps la) (x y z w : Int32) : Met l yX3_toldForm wsX3_toldForm ({ frames := 4, cells := 0, slots := 0, locals := 103 } : Room) (m_Pc K A H0 [.ref o, .int x, .int y, .int z, .int w]) (va_Qi (fun r H1 => ∃ k9, R3 (okQ x y w) (okN z 2147483648) k9 (r = fmS (tellS fb on fw fm (tN x) (tN y) z (tN w)) ∧ mOK K A H1 o ad fb on fw dr fm vs ch ps k9) (mOK K A H1 o ad fb on fw dr fm vs ch ps k9)) m_B A) 0 0 A := by
  refine m_ofW (by decide) rfl (Nat.le_of_ble_eq_true rfl) ?_
  intro p e s m args below meth c ls hx hb hr hml hown hts hlk hnm hE hsz hS hl
  have hl : lv_has ls 5 [(0, .ref o), (1, .int x), (2, .int y), (3, .int z), (4, .int w)] := hl
  obtain ⟨f, d, pr, ta, ti, hP, hD, hR⟩ := hm9
  obtain ⟨hfb, hon, hfw, ⟨rfl, hdl, hdj⟩, hfm, hvs, hch, ⟨rfl, hps⟩, ⟨rk, hRK, hr5⟩, hin⟩ := id hR
  have hps20 := hps.1
  have iX3 : ∀ w ∈ wsX30, w ∈ wsX3_toldForm := by decide +kernel
  have f123 := hts (.fieldLink RX3 123 "PhraseCatalogueModel" "toldAt" "I") (by decide +kernel)
  refine lv_aload_n hx hb dX3_toldForm_0 rfl (lv_at hl 0 rfl) ?_
  refine lv_iload_n hx hb dX3_toldForm_1 rfl (lv_at hl 1 rfl) ?_
  refine lv_iload_n hx hb dX3_toldForm_2 rfl (lv_at hl 2 rfl) ?_
  refine lv_iload_n hx hb dX3_toldForm_3 rfl (lv_at hl 3 rfl) ?_
  refine lv_iload hx hb dX3_toldForm_4 (lv_at hl 4 rfl) ?_
  refine m_cVi (rest := []) ⟨hx, hb, hml, hown, hts⟩ hE hS (fun _ h => h) (kX3_isAsked l K A _ o ad f (nI dr.length) (nI ps.length) ta ti la hP hD fb hfb rk hRK hr5 fm hfm on fw hon hfw x y z w) (cwV 4 hts gX3_toldForm_X3_isAsked rfl rfl rfl (by decide +kernel) ⟨Nat.le_of_ble_eq_true rfl, Nat.le_of_ble_eq_true rfl⟩) (va_recv hE.k hP (ci := 4) (q0 := 0) rfl rfl) rfl rfl hl.1 rfl (Nat.le_of_ble_eq_true rfl) dX3_toldForm_6 ⟨Nat.le_of_ble_eq_true rfl, Nat.le_of_ble_eq_true rfl⟩ (fun r H locs hp hS hk => ?_)
  obtain ⟨ta', ti', hP, hD, rfl, htl⟩ := hp
  cases ea : okQB x y w with
  | false =>
    rw [ea] at hP hD htl
    have h1 := nB okQB_iff ea
    refine m_if_eq_b (tgt := 34) hx hb dX3_toldForm_9 (by decide) (fun c_9 => ?_) (fun c_9 => ?_)
    · refine lv_iconst (v := nI 0) hx hb dX3_toldForm_34 (by decide) ?_
      exact m_iret hx hb hr hlk hS (Nat.le_of_ble_eq_true rfl) (Nat.le_of_ble_eq_true rfl) dX3_toldForm_35 (⟨_, r3_1 (h1) ⟨f, _, _, _, _, hP, hD, hR⟩⟩)
    · exact absurd c_9 (by first | decide | exact (show ¬ false = true by decide) | exact (show ¬ true = false by decide))
  | true =>
    rw [ea] at hP hD htl
    have h1 := okQB_iff.mp ea
    cases eb : okB z 2147483648 with
    | false =>
      rw [eb] at hP hD htl
      have h2 := nB okB_iff eb
      refine m_if_eq_b (tgt := 34) hx hb dX3_toldForm_9 (by decide) (fun c_9 => ?_) (fun c_9 => ?_)
      · refine lv_iconst (v := nI 0) hx hb dX3_toldForm_34 (by decide) ?_
        exact m_iret hx hb hr hlk hS (Nat.le_of_ble_eq_true rfl) (Nat.le_of_ble_eq_true rfl) dX3_toldForm_35 (⟨_, r3_2 (h1) (h2) ⟨f, _, _, _, _, hP, hD, hR⟩⟩)
      · exact absurd c_9 (by first | decide | exact (show ¬ false = true by decide) | exact (show ¬ true = false by decide))
    | true =>
      rw [eb] at hP hD htl
      have h2 := okB_iff.mp eb
      obtain ⟨rfl, hti⟩ := htl rfl
      have hbd : ∀ s, tellS fb on fw fm (tN x) (tN y) z (tN w) = some s → s < 540 := fun s hs => tellS_lt (fun l hl => (hfb l hl).2) (tN_lt h1.1 (by decide)) (tN_lt h1.2.1 (by decide)) (tN_lt h1.2.2 (by decide)) hs
      refine m_if_eq_b (tgt := 34) hx hb dX3_toldForm_9 (by decide) (fun c_9 => ?_) (fun c_9 => ?_)
      · exact absurd c_9 (by first | decide | exact (show ¬ false = true by decide) | exact (show ¬ true = false by decide))
      · refine lv_aload_n hx hb dX3_toldForm_12 rfl (lv_at hl 0 rfl) ?_
        refine va_get (D := K.1) (ci := 4) (v := .int (oI (tellS fb on fw fm (tN x) (tN y) z (tN w)))) (C := RX3) (T := TX3) (N := 21) hx hb hts iX3 hown hE.k hP 0 rfl rfl 18 (by decide) f123 (fun _ h9 => h9) rfl dX3_toldForm_13 ?_
        refine lv_iconst (v := (-1)) hx hb dX3_toldForm_16 (by decide) ?_
        refine m_icmp_ne_o (tgt := 24) hx hb (fun s hs => Nat.lt_trans (hbd s hs) (by decide)) dX3_toldForm_17 (by decide) (fun k_17 c_17 => ?_) (fun c_17 => ?_)
        · rw [c_17] at hP hD
          have hP : va_P K.1 vwCl (mW K o ad f (nI dr.length) (nI ps.length) (nI k_17) ti' (nI (goL true true true))) _ := hP
          have hD : va_D A (mW K o ad f (nI dr.length) (nI ps.length) (nI k_17) ti' (nI (goL true true true))) := hD
          have hk9 := hbd k_17 c_17
          refine lv_aload_n hx hb dX3_toldForm_24 rfl (lv_at hl 0 rfl) ?_
          refine va_get (D := K.1) (ci := 4) (v := .int (nI k_17)) (C := RX3) (T := TX3) (N := 21) hx hb hts iX3 hown hE.k hP 0 rfl rfl 18 (by decide) f123 (fun _ h9 => h9) rfl dX3_toldForm_25 ?_
          refine lv_bipush (v := nI 9) hx hb dX3_toldForm_28 (by decide) ?_
          refine m_irem hx hb (by omega) (by omega) (by omega) dX3_toldForm_30 ?_
          refine lv_goto (tgt := 35) hx hb dX3_toldForm_31 (by decide) ?_
          exact m_iret hx hb hr hlk hS (Nat.le_of_ble_eq_true rfl) (Nat.le_of_ble_eq_true rfl) dX3_toldForm_35 (⟨_, r3_0 (h1) (h2) ⟨by rw [c_17]; rfl, ⟨f, _, _, _, _, hP, hD, hR⟩⟩⟩)
        · refine lv_iconst (v := (-1)) hx hb dX3_toldForm_20 (by decide) ?_
          refine lv_goto (tgt := 35) hx hb dX3_toldForm_21 (by decide) ?_
          exact m_iret hx hb hr hlk hS (Nat.le_of_ble_eq_true rfl) (Nat.le_of_ble_eq_true rfl) dX3_toldForm_35 (⟨_, r3_0 (h1) (h2) ⟨by rw [c_17]; rfl, ⟨f, _, _, _, _, hP, hD, hR⟩⟩⟩)

set_option maxHeartbeats 4000000 in
set_option maxRecDepth 100000 in
theorem kX3_toldByLooking (l : Launch) (K : m_K) (A : Nat → Prop) (H0 : Heap) (o : Nat) (ad : Nat → Nat) (fb : Nat → Nat) (on fw : Nat → Int32) (dr : List Int32) (fm : Nat → Option Frm) (vs ch : Nat → Int32) (ps : List Pr) (la : Int32) (hm9 : mOK K A H0 o ad fb on fw dr fm vs ch ps la) (x y z w : Int32) : Met l yX3_toldByLooking wsX3_toldByLooking ({ frames := 5, cells := 0, slots := 0, locals := 127 } : Room) (m_Pc K A H0 [.ref o, .int x, .int y, .int z, .int w]) (va_Qi (fun r H1 => ∃ k9, R3 (okQ x y w) (okN z 2147483648) k9 (r = lgS (tellS fb on fw fm (tN x) (tN y) z (tN w)) ∧ mOK K A H1 o ad fb on fw dr fm vs ch ps k9) (mOK K A H1 o ad fb on fw dr fm vs ch ps k9)) m_B A) 0 0 A := by
  refine m_ofW (by decide) rfl (Nat.le_of_ble_eq_true rfl) ?_
  intro p e s m args below meth c ls hx hb hr hml hown hts hlk hnm hE hsz hS hl
  have hl : lv_has ls 5 [(0, .ref o), (1, .int x), (2, .int y), (3, .int z), (4, .int w)] := hl
  obtain ⟨f, d, pr, ta, ti, hP, hD, hR⟩ := id hm9
  refine lv_aload_n hx hb dX3_toldByLooking_0 rfl (lv_at hl 0 rfl) ?_
  refine lv_iload_n hx hb dX3_toldByLooking_1 rfl (lv_at hl 1 rfl) ?_
  refine lv_iload_n hx hb dX3_toldByLooking_2 rfl (lv_at hl 2 rfl) ?_
  refine lv_iload_n hx hb dX3_toldByLooking_3 rfl (lv_at hl 3 rfl) ?_
  refine lv_iload hx hb dX3_toldByLooking_4 (lv_at hl 4 rfl) ?_
  refine m_cVi (rest := []) ⟨hx, hb, hml, hown, hts⟩ hE hS (fun _ h => h) (kX3_toldBy l K A _ o ad fb on fw dr fm vs ch ps la hm9 x y z w) (cwV 4 hts gX3_toldByLooking_X3_toldBy rfl rfl rfl (by decide +kernel) ⟨Nat.le_of_ble_eq_true rfl, Nat.le_of_ble_eq_true rfl⟩) (va_recv hE.k hP (ci := 4) (q0 := 0) rfl rfl) rfl rfl hl.1 rfl (Nat.le_of_ble_eq_true rfl) dX3_toldByLooking_6 ⟨Nat.le_of_ble_eq_true rfl, Nat.le_of_ble_eq_true rfl⟩ (fun r H1 locs hp hS hk => ?_)
  exact m_iret hx hb hr hlk hS (Nat.le_of_ble_eq_true rfl) (Nat.le_of_ble_eq_true rfl) dX3_toldByLooking_9 hp

theorem sign_f {fm : Nat → Option Frm} {s j : Nat} {F : Frm} (hF : fm s = some F) (h : j < F.1.length) (hj : j < 2147483648) : signS fm (some s) (nI j) = some (F.1.getD j 0) := by
  simp only [signS, hF]
  rw [okB_t ((okN_nI_iff hj).mpr h), tN_nI hj]
  rfl
theorem sign_n {fm : Nat → Option Frm} {s : Nat} {F : Frm} {v : Int32} (hF : fm s = some F) (h : ¬ okN v F.1.length) : signS fm (some s) v = none := by
  simp only [signS, hF]
  rw [okB_f h]
  rfl

set_option maxHeartbeats 4000000 in
set_option maxRecDepth 100000 in
theorem kX3_toldSign (l : Launch) (K : m_K) (A : Nat → Prop) (H0 : Heap) (o : Nat) (ad : Nat → Nat) (fb : Nat → Nat) (on fw : Nat → Int32) (dr : List Int32) (fm : Nat → Option Frm) (vs ch : Nat → Int32) (ps : List Pr) (la : Int32) (hm9 : mOK K A H0 o ad fb on fw dr fm vs ch ps la) (x y z w v : Int32) : Met l yX3_toldSign wsX3_toldSign ({ frames := 4, cells := 0, slots := 0, locals := 103 } : Room) (m_Pc K A H0 [.ref o, .int x, .int y, .int z, .int w, .int v]) (va_Qi (fun r H1 => ∃ k9, R3 (okQ x y w ∧ (okN z 2147483648 → ¬ signS fm (tellS fb on fw fm (tN x) (tN y) z (tN w)) v = none)) (okN z 2147483648) k9 (signS fm (tellS fb on fw fm (tN x) (tN y) z (tN w)) v = some r ∧ mOK K A H1 o ad fb on fw dr fm vs ch ps k9) (mOK K A H1 o ad fb on fw dr fm vs ch ps k9)) m_B A) 0 0 A := by
  refine m_ofW (by decide) rfl (Nat.le_of_ble_eq_true rfl) ?_
  intro p e s m args below meth c ls hx hb hr hml hown hts hlk hnm hE hsz hS hl
  have hl : lv_has ls 7 [(0, .ref o), (1, .int x), (2, .int y), (3, .int z), (4, .int w), (5, .int v)] := hl
  obtain ⟨f, d, pr, ta, ti, hP, hD, hR⟩ := hm9
  obtain ⟨hfb, hon, hfw, ⟨rfl, hdl, hdj⟩, hfm, hvs, hch, ⟨rfl, hps⟩, ⟨rk, hRK, hr5⟩, hin⟩ := id hR
  have hps20 := hps.1
  have iX3 : ∀ w ∈ wsX30, w ∈ wsX3_toldSign := by decide +kernel
  have f123 := hts (.fieldLink RX3 123 "PhraseCatalogueModel" "toldAt" "I") (by decide +kernel)
  have f22 := hts (.fieldLink RX3 22 "PhraseCatalogueModel" "lengths" "[I") (by decide +kernel)
  have f29 := hts (.fieldLink RX3 29 "PhraseCatalogueModel" "signs" "[I") (by decide +kernel)
  refine lv_aload_n hx hb dX3_toldSign_0 rfl (lv_at hl 0 rfl) ?_
  refine lv_iload_n hx hb dX3_toldSign_1 rfl (lv_at hl 1 rfl) ?_
  refine lv_iload_n hx hb dX3_toldSign_2 rfl (lv_at hl 2 rfl) ?_
  refine lv_iload_n hx hb dX3_toldSign_3 rfl (lv_at hl 3 rfl) ?_
  refine lv_iload hx hb dX3_toldSign_4 (lv_at hl 4 rfl) ?_
  refine m_cVi (rest := []) ⟨hx, hb, hml, hown, hts⟩ hE hS (fun _ h => h) (kX3_isAsked l K A _ o ad f (nI dr.length) (nI ps.length) ta ti la hP hD fb hfb rk hRK hr5 fm hfm on fw hon hfw x y z w) (cwV 4 hts gX3_toldSign_X3_isAsked rfl rfl rfl (by decide +kernel) ⟨Nat.le_of_ble_eq_true rfl, Nat.le_of_ble_eq_true rfl⟩) (va_recv hE.k hP (ci := 4) (q0 := 0) rfl rfl) rfl rfl hl.1 rfl (Nat.le_of_ble_eq_true rfl) dX3_toldSign_6 ⟨Nat.le_of_ble_eq_true rfl, Nat.le_of_ble_eq_true rfl⟩ (fun r H locs hp hS hk => ?_)
  obtain ⟨ta', ti', hP, hD, rfl, htl⟩ := hp
  cases ea : okQB x y w with
  | false =>
    rw [ea] at hP hD htl
    have h1 := nB okQB_iff ea
    refine m_if_ne_b (tgt := 14) hx hb dX3_toldSign_9 (by decide) (fun c_9 => ?_) (fun c_9 => ?_)
    · exact absurd c_9 (by first | decide | exact (show ¬ false = true by decide) | exact (show ¬ true = false by decide))
    · refine lv_iconst (v := nI 0) hx hb dX3_toldSign_12 (by decide) ?_
      exact m_iret hx hb hr hlk hS (Nat.le_of_ble_eq_true rfl) (Nat.le_of_ble_eq_true rfl) dX3_toldSign_13 (⟨_, r3_1 (fun q => h1 q.1) ⟨f, _, _, _, _, hP, hD, hR⟩⟩)
  | true =>
    rw [ea] at hP hD htl
    have h1 := okQB_iff.mp ea
    cases eb : okB z 2147483648 with
    | false =>
      rw [eb] at hP hD htl
      have h2 := nB okB_iff eb
      refine m_if_ne_b (tgt := 14) hx hb dX3_toldSign_9 (by decide) (fun c_9 => ?_) (fun c_9 => ?_)
      · exact absurd c_9 (by first | decide | exact (show ¬ false = true by decide) | exact (show ¬ true = false by decide))
      · refine lv_iconst (v := nI 0) hx hb dX3_toldSign_12 (by decide) ?_
        exact m_iret hx hb hr hlk hS (Nat.le_of_ble_eq_true rfl) (Nat.le_of_ble_eq_true rfl) dX3_toldSign_13 (⟨_, r3_2 ⟨h1, fun q => absurd q h2⟩ h2 ⟨f, _, _, _, _, hP, hD, hR⟩⟩)
    | true =>
      rw [eb] at hP hD htl
      have h2 := okB_iff.mp eb
      obtain ⟨rfl, hti⟩ := htl rfl
      have hbd : ∀ s, tellS fb on fw fm (tN x) (tN y) z (tN w) = some s → s < 540 := fun s hs => tellS_lt (fun l hl => (hfb l hl).2) (tN_lt h1.1 (by decide)) (tN_lt h1.2.1 (by decide)) (tN_lt h1.2.2 (by decide)) hs
      refine m_if_ne_b (tgt := 14) hx hb dX3_toldSign_9 (by decide) (fun c_9 => ?_) (fun c_9 => ?_)
      · refine lv_aload_n hx hb dX3_toldSign_14 rfl (lv_at hl 0 rfl) ?_
        refine va_get (D := K.1) (ci := 4) (v := .int (oI (tellS fb on fw fm (tN x) (tN y) z (tN w)))) (C := RX3) (T := TX3) (N := 21) hx hb hts iX3 hown hE.k hP 0 rfl rfl 18 (by decide) f123 (fun _ h9 => h9) rfl dX3_toldSign_15 ?_
        refine lv_iconst (v := (-1)) hx hb dX3_toldSign_18 (by decide) ?_
        refine m_icmp_eq_o (tgt := 46) hx hb (fun s hs => Nat.lt_trans (hbd s hs) (by decide)) dX3_toldSign_19 (by decide) (fun c_19 => ?_) (fun k_19 c_19 => ?_)
        · refine lv_iconst (v := nI 0) hx hb dX3_toldSign_46 (by decide) ?_
          refine lv_istore (lv' := [(6, .int (nI 0)), (0, .ref o), (1, .int x), (2, .int y), (3, .int z), (4, .int w), (5, .int v)]) hx hb dX3_toldSign_47 hl (by decide) rfl (fun ls hl => ?_)
          refine lv_aload_n hx hb dX3_toldSign_49 rfl (lv_at hl 1 rfl) ?_
          refine lv_iload hx hb dX3_toldSign_50 (lv_at hl 0 rfl) ?_
          refine lv_iconst (v := nI 1) hx hb dX3_toldSign_52 (by decide) ?_
          refine lv_iconst (v := nI 1) hx hb dX3_toldSign_53 (by decide) ?_
          refine m_cVi (rest := []) ⟨hx, hb, hml, hown, hts⟩ hE hS (fun _ h => h) (kX3_goes l K A _ o ad f (nI dr.length) (nI ps.length) (oI (tellS fb on fw fm (tN x) (tN y) z (tN w))) ti' (nI (goL true true true)) hP hD false true true) (cwV 3 hts gX3_toldSign_X3_goes rfl rfl rfl (by decide +kernel) ⟨Nat.le_of_ble_eq_true rfl, Nat.le_of_ble_eq_true rfl⟩) (va_recv hE.k hP (ci := 4) (q0 := 0) rfl rfl) rfl rfl hl.1 rfl (Nat.le_of_ble_eq_true rfl) dX3_toldSign_54 ⟨Nat.le_of_ble_eq_true rfl, Nat.le_of_ble_eq_true rfl⟩ (fun r H locs hp hS hk => ?_)
          obtain ⟨rfl, hP, hD⟩ := hp
          refine m_if_eq_b (tgt := 78) hx hb dX3_toldSign_57 (by decide) (fun c_57 => ?_) (fun c_57 => ?_)
          · refine lv_iconst (v := nI 0) hx hb dX3_toldSign_78 (by decide) ?_
            exact m_iret hx hb hr hlk hS (Nat.le_of_ble_eq_true rfl) (Nat.le_of_ble_eq_true rfl) dX3_toldSign_79 (⟨_, r3_1 (fun q => q.2 h2 (by rw [c_19]; rfl)) ⟨f, _, _, _, _, hP, hD, hR⟩⟩)
          · exact absurd c_57 (by first | decide | exact (show ¬ false = true by decide) | exact (show ¬ true = false by decide))
        · rw [c_19] at hP hD
          have hP : va_P K.1 vwCl (mW K o ad f (nI dr.length) (nI ps.length) (nI k_19) ti' (nI (goL true true true))) _ := hP
          have hD : va_D A (mW K o ad f (nI dr.length) (nI ps.length) (nI k_19) ti' (nI (goL true true true))) := hD
          have hk9 := hbd k_19 c_19
          obtain ⟨F, hF⟩ := fit_len (tellN_fit (show tellN _ _ _ _ = _ from c_19))
          obtain ⟨hfl, hf8, hfq⟩ := hfm k_19 hk9
          rw [hF] at hfl hf8
          have hfl : f 5 k_19 = nI F.1.length := hfl
          have hf8 : F.1.length ≤ 8 := hf8
          have hf1 := (hfq F hF).1
          have hfs := (hfq F hF).2.2
          refine lv_iload hx hb dX3_toldSign_22 (lv_at hl 5 rfl) ?_
          refine lv_iconst (v := nI 0) hx hb dX3_toldSign_24 (by decide) ?_
          refine lv_aload_n hx hb dX3_toldSign_25 rfl (lv_at hl 0 rfl) ?_
          refine va_get (D := K.1) (ci := 4) (v := .ref (ad 5)) (C := RX3) (T := TX3) (N := 21) hx hb hts iX3 hown hE.k hP 0 rfl rfl 5 (by decide) f22 (fun _ h9 => h9) rfl dX3_toldSign_26 ?_
          refine lv_aload_n hx hb dX3_toldSign_29 rfl (lv_at hl 0 rfl) ?_
          refine va_get (D := K.1) (ci := 4) (v := .int (nI k_19)) (C := RX3) (T := TX3) (N := 21) hx hb hts iX3 hown hE.k hP 0 rfl rfl 18 (by decide) f123 (fun _ h9 => h9) rfl dX3_toldSign_30 ?_
          refine m_iald hx hb hE.k hP 5 rfl (by omega) (by omega) hfl dX3_toldSign_33 ?_
          refine lv_iconst (v := nI 1) hx hb dX3_toldSign_34 (by decide) ?_
          refine m_isub hx hb (by omega) dX3_toldSign_35 ?_
          refine m_cSi (rest := []) ⟨hx, hb, hml, hown, hts⟩ hE hS (fun _ h => h) (kX3_in l K A _ v (nI 0) (nI (F.1.length - 1))) (va_cwS 3 hts gX3_toldSign_X3_in rfl rfl rfl (by decide +kernel) ⟨Nat.le_of_ble_eq_true rfl, Nat.le_of_ble_eq_true rfl⟩) rfl rfl hl.1 rfl (Nat.le_of_ble_eq_true rfl) dX3_toldSign_36 ⟨Nat.le_of_ble_eq_true rfl, Nat.le_of_ble_eq_true rfl⟩ (fun r H1 locs hp hS hk => ?_)
          obtain ⟨rfl, rfl⟩ := hp
          cases e_36 : inB v (nI 0) (nI (F.1.length - 1)) with
          | true =>
            have h3 := ((by rw [inB_0 (by omega), show F.1.length - 1 + 1 = F.1.length by omega] : inB v (nI 0) (nI (F.1.length - 1)) = true ↔ okN v F.1.length)).mp e_36
            obtain ⟨j9, hk_j9, rfl⟩ := okN_of h3 (by omega)
            have hl : lv_has ls 7 [(0, .ref o), (1, .int x), (2, .int y), (3, .int z), (4, .int w), (5, .int (nI j9))] := hl
            refine m_if_eq_b (tgt := 46) hx hb dX3_toldSign_39 (by decide) (fun c_39 => ?_) (fun c_39 => ?_)
            · exact absurd c_39 (by first | decide | exact (show ¬ false = true by decide) | exact (show ¬ true = false by decide))
            · refine lv_iconst (v := nI 1) hx hb dX3_toldSign_42 (by decide) ?_
              refine lv_goto (tgt := 47) hx hb dX3_toldSign_43 (by decide) ?_
              refine lv_istore (lv' := [(6, .int (nI 1)), (0, .ref o), (1, .int x), (2, .int y), (3, .int z), (4, .int w), (5, .int (nI j9))]) hx hb dX3_toldSign_47 hl (by decide) rfl (fun ls hl => ?_)
              refine lv_aload_n hx hb dX3_toldSign_49 rfl (lv_at hl 1 rfl) ?_
              refine lv_iload hx hb dX3_toldSign_50 (lv_at hl 0 rfl) ?_
              refine lv_iconst (v := nI 1) hx hb dX3_toldSign_52 (by decide) ?_
              refine lv_iconst (v := nI 1) hx hb dX3_toldSign_53 (by decide) ?_
              refine m_cVi (rest := []) ⟨hx, hb, hml, hown, hts⟩ hE hS (fun _ h => h) (kX3_goes l K A _ o ad f (nI dr.length) (nI ps.length) (nI k_19) ti' (nI (goL true true true)) hP hD true true true) (cwV 3 hts gX3_toldSign_X3_goes rfl rfl rfl (by decide +kernel) ⟨Nat.le_of_ble_eq_true rfl, Nat.le_of_ble_eq_true rfl⟩) (va_recv hE.k hP (ci := 4) (q0 := 0) rfl rfl) rfl rfl hl.1 rfl (Nat.le_of_ble_eq_true rfl) dX3_toldSign_54 ⟨Nat.le_of_ble_eq_true rfl, Nat.le_of_ble_eq_true rfl⟩ (fun r H locs hp hS hk => ?_)
              obtain ⟨rfl, hP, hD⟩ := hp
              refine m_if_eq_b (tgt := 78) hx hb dX3_toldSign_57 (by decide) (fun c_57 => ?_) (fun c_57 => ?_)
              · exact absurd c_57 (by first | decide | exact (show ¬ false = true by decide) | exact (show ¬ true = false by decide))
              · refine lv_aload_n hx hb dX3_toldSign_60 rfl (lv_at hl 1 rfl) ?_
                refine va_get (D := K.1) (ci := 4) (v := .ref (ad 7)) (C := RX3) (T := TX3) (N := 21) hx hb hts iX3 hown hE.k hP 0 rfl rfl 7 (by decide) f29 (fun _ h9 => h9) rfl dX3_toldSign_61 ?_
                refine lv_bipush (v := nI 8) hx hb dX3_toldSign_64 (by decide) ?_
                refine lv_aload_n hx hb dX3_toldSign_66 rfl (lv_at hl 1 rfl) ?_
                refine va_get (D := K.1) (ci := 4) (v := .int (nI k_19)) (C := RX3) (T := TX3) (N := 21) hx hb hts iX3 hown hE.k hP 0 rfl rfl 18 (by decide) f123 (fun _ h9 => h9) rfl dX3_toldSign_67 ?_
                refine m_imul hx hb dX3_toldSign_70 ?_
                refine lv_iload hx hb dX3_toldSign_71 (lv_at hl 6 rfl) ?_
                refine m_iadd hx hb dX3_toldSign_73 ?_
                refine m_iald hx hb hE.k hP 7 rfl (by omega) (by omega) (hfs j9 hk_j9) dX3_toldSign_74 ?_
                refine lv_goto (tgt := 79) hx hb dX3_toldSign_75 (by decide) ?_
                exact m_iret hx hb hr hlk hS (Nat.le_of_ble_eq_true rfl) (Nat.le_of_ble_eq_true rfl) dX3_toldSign_79 (⟨_, r3_0 ⟨h1, fun _ z => by rw [c_19, sign_f hF hk_j9 (by omega)] at z; cases z⟩ h2 ⟨by rw [c_19]; exact sign_f hF hk_j9 (by omega), ⟨f, _, _, _, _, hP, hD, hR⟩⟩⟩)
          | false =>
            have h3 := nB ((by rw [inB_0 (by omega), show F.1.length - 1 + 1 = F.1.length by omega] : inB v (nI 0) (nI (F.1.length - 1)) = true ↔ okN v F.1.length)) e_36
            refine m_if_eq_b (tgt := 46) hx hb dX3_toldSign_39 (by decide) (fun c_39 => ?_) (fun c_39 => ?_)
            · refine lv_iconst (v := nI 0) hx hb dX3_toldSign_46 (by decide) ?_
              refine lv_istore (lv' := [(6, .int (nI 0)), (0, .ref o), (1, .int x), (2, .int y), (3, .int z), (4, .int w), (5, .int v)]) hx hb dX3_toldSign_47 hl (by decide) rfl (fun ls hl => ?_)
              refine lv_aload_n hx hb dX3_toldSign_49 rfl (lv_at hl 1 rfl) ?_
              refine lv_iload hx hb dX3_toldSign_50 (lv_at hl 0 rfl) ?_
              refine lv_iconst (v := nI 1) hx hb dX3_toldSign_52 (by decide) ?_
              refine lv_iconst (v := nI 1) hx hb dX3_toldSign_53 (by decide) ?_
              refine m_cVi (rest := []) ⟨hx, hb, hml, hown, hts⟩ hE hS (fun _ h => h) (kX3_goes l K A _ o ad f (nI dr.length) (nI ps.length) (nI k_19) ti' (nI (goL true true true)) hP hD false true true) (cwV 3 hts gX3_toldSign_X3_goes rfl rfl rfl (by decide +kernel) ⟨Nat.le_of_ble_eq_true rfl, Nat.le_of_ble_eq_true rfl⟩) (va_recv hE.k hP (ci := 4) (q0 := 0) rfl rfl) rfl rfl hl.1 rfl (Nat.le_of_ble_eq_true rfl) dX3_toldSign_54 ⟨Nat.le_of_ble_eq_true rfl, Nat.le_of_ble_eq_true rfl⟩ (fun r H locs hp hS hk => ?_)
              obtain ⟨rfl, hP, hD⟩ := hp
              refine m_if_eq_b (tgt := 78) hx hb dX3_toldSign_57 (by decide) (fun c_57 => ?_) (fun c_57 => ?_)
              · refine lv_iconst (v := nI 0) hx hb dX3_toldSign_78 (by decide) ?_
                exact m_iret hx hb hr hlk hS (Nat.le_of_ble_eq_true rfl) (Nat.le_of_ble_eq_true rfl) dX3_toldSign_79 (⟨_, r3_1 (fun q => q.2 h2 (by rw [c_19]; exact sign_n hF h3)) ⟨f, _, _, _, _, hP, hD, hR⟩⟩)
              · exact absurd c_57 (by first | decide | exact (show ¬ false = true by decide) | exact (show ¬ true = false by decide))
            · exact absurd c_39 (by first | decide | exact (show ¬ false = true by decide) | exact (show ¬ true = false by decide))
      · exact absurd c_9 (by first | decide | exact (show ¬ false = true by decide) | exact (show ¬ true = false by decide))

theorem nearD_none {fo : Option Frm} {ps : List Pr} {g : Nat} (h : nearF fo ps g = none) : nearD fo ps g = -1 := by
  cases fo with
  | none => rfl
  | some F => exact nearD_0 rfl h

set_option maxHeartbeats 4000000 in
set_option maxRecDepth 100000 in
theorem kX3_nearDistance (l : Launch) (K : m_K) (A : Nat → Prop) (H0 : Heap) (o : Nat) (ad : Nat → Nat) (fb : Nat → Nat) (on fw : Nat → Int32) (dr : List Int32) (fm : Nat → Option Frm) (vs ch : Nat → Int32) (ps : List Pr) (la : Int32) (hm9 : mOK K A H0 o ad fb on fw dr fm vs ch ps la) (x y z w : Int32) : Met l yX3_nearDistance wsX3_nearDistance ({ frames := 3, cells := 0, slots := 0, locals := 65 } : Room) (m_Pc K A H0 [.ref o, .int x, .int y, .int z, .int w]) (va_Qi (fun r H1 => ∃ k9, R3 (okF x y z w) (True) k9 (r = nearD (fm (54 * tN x + 3 * tN z + tN w)) ps (tN y) ∧ mOK K A H1 o ad fb on fw dr fm vs ch ps k9) (mOK K A H1 o ad fb on fw dr fm vs ch ps k9)) m_B A) 0 0 A := by
  refine m_ofW (by decide) rfl (Nat.le_of_ble_eq_true rfl) ?_
  intro p e s m args below meth c ls hx hb hr hml hown hts hlk hnm hE hsz hS hl
  have hl : lv_has ls 6 [(0, .ref o), (1, .int x), (2, .int y), (3, .int z), (4, .int w)] := hl
  obtain ⟨f, d, pr, ta, ti, hP, hD, hR⟩ := hm9
  obtain ⟨hfb, hon, hfw, ⟨rfl, hdl, hdj⟩, hfm, hvs, hch, ⟨rfl, hps⟩, ⟨rk, hRK, hr5⟩, hin⟩ := id hR
  have hps20 := hps.1
  refine lv_aload_n hx hb dX3_nearDistance_0 rfl (lv_at hl 0 rfl) ?_
  refine lv_iload_n hx hb dX3_nearDistance_1 rfl (lv_at hl 1 rfl) ?_
  refine lv_iload_n hx hb dX3_nearDistance_2 rfl (lv_at hl 2 rfl) ?_
  refine lv_iload_n hx hb dX3_nearDistance_3 rfl (lv_at hl 3 rfl) ?_
  refine lv_iload hx hb dX3_nearDistance_4 (lv_at hl 4 rfl) ?_
  refine m_cSi (rest := [.ref o]) ⟨hx, hb, hml, hown, hts⟩ hE hS (fun _ h => h) (kX3_isForm l K A _ x y z w) (va_cwS 4 hts gX3_nearDistance_X3_isForm rfl rfl rfl (by decide +kernel) ⟨Nat.le_of_ble_eq_true rfl, Nat.le_of_ble_eq_true rfl⟩) rfl rfl hl.1 rfl (Nat.le_of_ble_eq_true rfl) dX3_nearDistance_6 ⟨Nat.le_of_ble_eq_true rfl, Nat.le_of_ble_eq_true rfl⟩ (fun r H1 locs hp hS hk => ?_)
  obtain ⟨rfl, rfl⟩ := hp
  cases e_6 : okFB x y z w with
  | true =>
    have h1 := (okFB_iff (x := x) (y := y) (z := z) (w := w)).mp e_6
    obtain ⟨k, hk_k, rfl⟩ := okN_of h1.1 (by decide)
    obtain ⟨g, hk_g, rfl⟩ := okN_of h1.2.1 (by decide)
    obtain ⟨i, hk_i, rfl⟩ := okN_of h1.2.2.1 (by decide)
    obtain ⟨u, hk_u, rfl⟩ := okN_of h1.2.2.2 (by decide)
    have hl : lv_has ls 6 [(0, .ref o), (1, .int (nI k)), (2, .int (nI g)), (3, .int (nI i)), (4, .int (nI u))] := hl
    refine lv_iconst (v := nI 1) hx hb dX3_nearDistance_9 (by decide) ?_
    refine lv_iconst (v := nI 1) hx hb dX3_nearDistance_10 (by decide) ?_
    refine m_cVi (rest := []) ⟨hx, hb, hml, hown, hts⟩ hE hS (fun _ h => h) (kX3_goes l K A _ o ad f (nI dr.length) (nI ps.length) ta ti la hP hD true true true) (cwV 3 hts gX3_nearDistance_X3_goes rfl rfl rfl (by decide +kernel) ⟨Nat.le_of_ble_eq_true rfl, Nat.le_of_ble_eq_true rfl⟩) (va_recv hE.k hP (ci := 4) (q0 := 0) rfl rfl) rfl rfl hl.1 rfl (Nat.le_of_ble_eq_true rfl) dX3_nearDistance_11 ⟨Nat.le_of_ble_eq_true rfl, Nat.le_of_ble_eq_true rfl⟩ (fun r H locs hp hS hk => ?_)
    obtain ⟨rfl, hP, hD⟩ := hp
    refine m_if_ne_b (tgt := 19) hx hb dX3_nearDistance_14 (by decide) (fun c_14 => ?_) (fun c_14 => ?_)
    · refine lv_aload_n hx hb dX3_nearDistance_19 rfl (lv_at hl 0 rfl) ?_
      refine lv_iload_n hx hb dX3_nearDistance_20 rfl (lv_at hl 1 rfl) ?_
      refine lv_iload_n hx hb dX3_nearDistance_21 rfl (lv_at hl 2 rfl) ?_
      refine lv_iload_n hx hb dX3_nearDistance_22 rfl (lv_at hl 3 rfl) ?_
      refine lv_iload hx hb dX3_nearDistance_23 (lv_at hl 4 rfl) ?_
      refine m_cVi (rest := []) ⟨hx, hb, hml, hown, hts⟩ hE hS (fun _ h => h) (kX3_near l K A _ o ad f (nI dr.length) ta ti ((nI (goL true true true))) fm hfm ps hps hP hD k g i u hk_k hk_g hk_i hk_u) (cwV 4 hts gX3_nearDistance_X3_near rfl rfl rfl (by decide +kernel) ⟨Nat.le_of_ble_eq_true rfl, Nat.le_of_ble_eq_true rfl⟩) (va_recv hE.k hP (ci := 4) (q0 := 0) rfl rfl) rfl rfl hl.1 rfl (Nat.le_of_ble_eq_true rfl) dX3_nearDistance_25 ⟨Nat.le_of_ble_eq_true rfl, Nat.le_of_ble_eq_true rfl⟩ (fun r H locs hp hS hk => ?_)
      obtain ⟨bo, rfl, hb0, hb1, w1, w2, hP, hD⟩ := hp
      refine lv_istore (lv' := [(5, .int (oI bo)), (0, .ref o), (1, .int (nI k)), (2, .int (nI g)), (3, .int (nI i)), (4, .int (nI u))]) hx hb dX3_nearDistance_28 hl (by decide) rfl (fun ls hl => ?_)
      refine lv_iload hx hb dX3_nearDistance_30 (lv_at hl 0 rfl) ?_
      refine lv_iconst (v := (-1)) hx hb dX3_nearDistance_32 (by decide) ?_
      refine m_icmp_ne_o (tgt := 40) hx hb (fun z hz => by obtain ⟨Q, F9, h1, h2, -⟩ := hb1 z hz; have := (List.getElem?_eq_some_iff.mp h2).1; omega) dX3_nearDistance_33 (by decide) (fun k_33 c_33 => ?_) (fun c_33 => ?_)
      · obtain ⟨P, F, hF, hPi, hnf⟩ := hb1 k_33 c_33
        have hbl := (List.getElem?_eq_some_iff.mp hPi).1
        obtain ⟨-, -, hn8, -, -, hnl, -, hns⟩ := hps.2 _ P hPi
        rw [c_33] at hl
        have hl : lv_has ls 6 [(5, .int (nI k_33)), (0, .ref o), (1, .int (nI k)), (2, .int (nI g)), (3, .int (nI i)), (4, .int (nI u))] := hl
        refine lv_aload_n hx hb dX3_nearDistance_40 rfl (lv_at hl 1 rfl) ?_
        refine lv_iload hx hb dX3_nearDistance_41 (lv_at hl 0 rfl) ?_
        refine lv_iload_n hx hb dX3_nearDistance_43 rfl (lv_at hl 2 rfl) ?_
        refine lv_iconst (v := nI 0) hx hb dX3_nearDistance_44 (by decide) ?_
        refine lv_iload_n hx hb dX3_nearDistance_45 rfl (lv_at hl 4 rfl) ?_
        refine lv_iload hx hb dX3_nearDistance_46 (lv_at hl 5 rfl) ?_
        refine m_cSi (rest := [.int (nI k_33), .ref o]) ⟨hx, hb, hml, hown, hts⟩ hE hS (fun _ h => h) (kX3_at l K A _ k 0 i u) (va_cwS 4 hts gX3_nearDistance_X3_at rfl rfl rfl (by decide +kernel) ⟨Nat.le_of_ble_eq_true rfl, Nat.le_of_ble_eq_true rfl⟩) rfl rfl hl.1 rfl (Nat.le_of_ble_eq_true rfl) dX3_nearDistance_48 ⟨Nat.le_of_ble_eq_true rfl, Nat.le_of_ble_eq_true rfl⟩ (fun r H1 locs hp hS hk => ?_)
        obtain ⟨rfl, rfl⟩ := hp
        rw [show 54 * k + 9 * 0 + 3 * i + u = 54 * k + 3 * i + u by omega]
        refine m_cVi (rest := []) ⟨hx, hb, hml, hown, hts⟩ hE hS (fun _ h => h) (kX3_distance l K A _ o ad f w1 w2 (nI dr.length) (nI ps.length) ta ti ((nI (goL true true true))) hP hD fm hfm ps hps k_33 (54 * k + 3 * i + u) P F (by omega) hPi hF) (cwV 2 hts gX3_nearDistance_X3_distance rfl rfl rfl (by decide +kernel) ⟨Nat.le_of_ble_eq_true rfl, Nat.le_of_ble_eq_true rfl⟩) (va_recv hE.k hP (ci := 4) (q0 := 0) rfl rfl) rfl rfl hl.1 rfl (Nat.le_of_ble_eq_true rfl) dX3_nearDistance_51 ⟨Nat.le_of_ble_eq_true rfl, Nat.le_of_ble_eq_true rfl⟩ (fun r H locs hp hS hk => ?_)
        obtain ⟨rfl, w1, w2, hP, hD⟩ := hp
        exact m_iret hx hb hr hlk hS (Nat.le_of_ble_eq_true rfl) (Nat.le_of_ble_eq_true rfl) dX3_nearDistance_54 (⟨_, r3_0 (h1) (trivial) ⟨by rw [tN_nI (by omega), tN_nI (by omega), tN_nI (by omega), tN_nI (by omega)]; exact (nearD_s hF (by rw [← hF]; exact hnf)).symm, _, _, _, _, _, hP, hD, hR⟩⟩)
      · refine lv_iconst (v := (-1)) hx hb dX3_nearDistance_36 (by decide) ?_
        refine lv_goto (tgt := 54) hx hb dX3_nearDistance_37 (by decide) ?_
        exact m_iret hx hb hr hlk hS (Nat.le_of_ble_eq_true rfl) (Nat.le_of_ble_eq_true rfl) dX3_nearDistance_54 (⟨_, r3_0 (h1) (trivial) ⟨by rw [tN_nI (by omega), tN_nI (by omega), tN_nI (by omega), tN_nI (by omega)]; exact (nearD_none (hb0 c_33)).symm, _, _, _, _, _, hP, hD, hR⟩⟩)
    · exact absurd c_14 (by first | decide | exact (show ¬ false = true by decide) | exact (show ¬ true = false by decide))
  | false =>
    have h1 := nB (okFB_iff (x := x) (y := y) (z := z) (w := w)) e_6
    refine lv_iconst (v := nI 1) hx hb dX3_nearDistance_9 (by decide) ?_
    refine lv_iconst (v := nI 1) hx hb dX3_nearDistance_10 (by decide) ?_
    refine m_cVi (rest := []) ⟨hx, hb, hml, hown, hts⟩ hE hS (fun _ h => h) (kX3_goes l K A _ o ad f (nI dr.length) (nI ps.length) ta ti la hP hD false true true) (cwV 3 hts gX3_nearDistance_X3_goes rfl rfl rfl (by decide +kernel) ⟨Nat.le_of_ble_eq_true rfl, Nat.le_of_ble_eq_true rfl⟩) (va_recv hE.k hP (ci := 4) (q0 := 0) rfl rfl) rfl rfl hl.1 rfl (Nat.le_of_ble_eq_true rfl) dX3_nearDistance_11 ⟨Nat.le_of_ble_eq_true rfl, Nat.le_of_ble_eq_true rfl⟩ (fun r H locs hp hS hk => ?_)
    obtain ⟨rfl, hP, hD⟩ := hp
    refine m_if_ne_b (tgt := 19) hx hb dX3_nearDistance_14 (by decide) (fun c_14 => ?_) (fun c_14 => ?_)
    · exact absurd c_14 (by first | decide | exact (show ¬ false = true by decide) | exact (show ¬ true = false by decide))
    · refine lv_iconst (v := nI 0) hx hb dX3_nearDistance_17 (by decide) ?_
      exact m_iret hx hb hr hlk hS (Nat.le_of_ble_eq_true rfl) (Nat.le_of_ble_eq_true rfl) dX3_nearDistance_18 (⟨_, r3_1 (h1) ⟨f, _, _, _, _, hP, hD, hR⟩⟩)

set_option maxHeartbeats 4000000 in
set_option maxRecDepth 100000 in
theorem kX3_nearSign (l : Launch) (K : m_K) (A : Nat → Prop) (H0 : Heap) (o : Nat) (ad : Nat → Nat) (fb : Nat → Nat) (on fw : Nat → Int32) (dr : List Int32) (fm : Nat → Option Frm) (vs ch : Nat → Int32) (ps : List Pr) (la : Int32) (hm9 : mOK K A H0 o ad fb on fw dr fm vs ch ps la) (x y z w v : Int32) : Met l yX3_nearSign wsX3_nearSign ({ frames := 3, cells := 0, slots := 0, locals := 65 } : Room) (m_Pc K A H0 [.ref o, .int x, .int y, .int z, .int w, .int v]) (va_Qi (fun r H1 => ∃ k9, R3 (okF x y z w ∧ okN v 2147483648) (True) k9 (r = nearS (fm (54 * tN x + 3 * tN z + tN w)) ps (tN y) (tN v) ∧ mOK K A H1 o ad fb on fw dr fm vs ch ps k9) (mOK K A H1 o ad fb on fw dr fm vs ch ps k9)) m_B A) 0 0 A := by
  refine m_ofW (by decide) rfl (Nat.le_of_ble_eq_true rfl) ?_
  intro p e s m args below meth c ls hx hb hr hml hown hts hlk hnm hE hsz hS hl
  have hl : lv_has ls 7 [(0, .ref o), (1, .int x), (2, .int y), (3, .int z), (4, .int w), (5, .int v)] := hl
  obtain ⟨f, d, pr, ta, ti, hP, hD, hR⟩ := hm9
  obtain ⟨hfb, hon, hfw, ⟨rfl, hdl, hdj⟩, hfm, hvs, hch, ⟨rfl, hps⟩, ⟨rk, hRK, hr5⟩, hin⟩ := id hR
  have hps20 := hps.1
  have iX3 : ∀ w ∈ wsX30, w ∈ wsX3_nearSign := by decide +kernel
  have f44 := hts (.fieldLink RX3 44 "PhraseCatalogueModel" "newLengths" "[I") (by decide +kernel)
  have f50 := hts (.fieldLink RX3 50 "PhraseCatalogueModel" "news" "[I") (by decide +kernel)
  refine lv_aload_n hx hb dX3_nearSign_0 rfl (lv_at hl 0 rfl) ?_
  refine lv_iload_n hx hb dX3_nearSign_1 rfl (lv_at hl 1 rfl) ?_
  refine lv_iload_n hx hb dX3_nearSign_2 rfl (lv_at hl 2 rfl) ?_
  refine lv_iload_n hx hb dX3_nearSign_3 rfl (lv_at hl 3 rfl) ?_
  refine lv_iload hx hb dX3_nearSign_4 (lv_at hl 4 rfl) ?_
  refine m_cSi (rest := [.ref o]) ⟨hx, hb, hml, hown, hts⟩ hE hS (fun _ h => h) (kX3_isForm l K A _ x y z w) (va_cwS 4 hts gX3_nearSign_X3_isForm rfl rfl rfl (by decide +kernel) ⟨Nat.le_of_ble_eq_true rfl, Nat.le_of_ble_eq_true rfl⟩) rfl rfl hl.1 rfl (Nat.le_of_ble_eq_true rfl) dX3_nearSign_6 ⟨Nat.le_of_ble_eq_true rfl, Nat.le_of_ble_eq_true rfl⟩ (fun r H1 locs hp hS hk => ?_)
  obtain ⟨rfl, rfl⟩ := hp
  cases e_6 : okFB x y z w with
  | true =>
    have h1 := (okFB_iff (x := x) (y := y) (z := z) (w := w)).mp e_6
    obtain ⟨k, hk_k, rfl⟩ := okN_of h1.1 (by decide)
    obtain ⟨g, hk_g, rfl⟩ := okN_of h1.2.1 (by decide)
    obtain ⟨i, hk_i, rfl⟩ := okN_of h1.2.2.1 (by decide)
    obtain ⟨u, hk_u, rfl⟩ := okN_of h1.2.2.2 (by decide)
    have hl : lv_has ls 7 [(0, .ref o), (1, .int (nI k)), (2, .int (nI g)), (3, .int (nI i)), (4, .int (nI u)), (5, .int v)] := hl
    refine m_if_eq_b (tgt := 21) hx hb dX3_nearSign_9 (by decide) (fun c_9 => ?_) (fun c_9 => ?_)
    · exact absurd c_9 (by first | decide | exact (show ¬ false = true by decide) | exact (show ¬ true = false by decide))
    · refine lv_iload hx hb dX3_nearSign_12 (lv_at hl 5 rfl) ?_
      refine lv_if_lt (tgt := 21) hx hb dX3_nearSign_14 (by decide) (fun c_14 => ?_) (fun c_14 => ?_)
      · refine lv_iconst (v := nI 0) hx hb dX3_nearSign_21 (by decide) ?_
        refine lv_iconst (v := nI 1) hx hb dX3_nearSign_22 (by decide) ?_
        refine lv_iconst (v := nI 1) hx hb dX3_nearSign_23 (by decide) ?_
        refine m_cVi (rest := []) ⟨hx, hb, hml, hown, hts⟩ hE hS (fun _ h => h) (kX3_goes l K A _ o ad f (nI dr.length) (nI ps.length) ta ti la hP hD false true true) (cwV 3 hts gX3_nearSign_X3_goes rfl rfl rfl (by decide +kernel) ⟨Nat.le_of_ble_eq_true rfl, Nat.le_of_ble_eq_true rfl⟩) (va_recv hE.k hP (ci := 4) (q0 := 0) rfl rfl) rfl rfl hl.1 rfl (Nat.le_of_ble_eq_true rfl) dX3_nearSign_24 ⟨Nat.le_of_ble_eq_true rfl, Nat.le_of_ble_eq_true rfl⟩ (fun r H locs hp hS hk => ?_)
        obtain ⟨rfl, hP, hD⟩ := hp
        refine m_if_ne_b (tgt := 32) hx hb dX3_nearSign_27 (by decide) (fun c_27 => ?_) (fun c_27 => ?_)
        · exact absurd c_27 (by first | decide | exact (show ¬ false = true by decide) | exact (show ¬ true = false by decide))
        · refine lv_iconst (v := nI 0) hx hb dX3_nearSign_30 (by decide) ?_
          exact m_iret hx hb hr hlk hS (Nat.le_of_ble_eq_true rfl) (Nat.le_of_ble_eq_true rfl) dX3_nearSign_31 (⟨_, r3_1 ((by first | exact fun q => h1 q.1 | exact fun q => nB okB_iff (okP_f c_14) q.2)) ⟨f, _, _, _, _, hP, hD, hR⟩⟩)
      · obtain ⟨j9, hk_j9, rfl⟩ : ∃ j9, j9 < 2147483648 ∧ v = nI j9 := ⟨tN v, (okN_big (okB_iff.mp (okP_t c_14))).2, (okN_big (okB_iff.mp (okP_t c_14))).1⟩
        have h2 : okN (nI j9) 2147483648 := okB_iff.mp (okP_t c_14)
        have hl : lv_has ls 7 [(0, .ref o), (1, .int (nI k)), (2, .int (nI g)), (3, .int (nI i)), (4, .int (nI u)), (5, .int (nI j9))] := hl
        refine lv_iconst (v := nI 1) hx hb dX3_nearSign_17 (by decide) ?_
        refine lv_goto (tgt := 22) hx hb dX3_nearSign_18 (by decide) ?_
        refine lv_iconst (v := nI 1) hx hb dX3_nearSign_22 (by decide) ?_
        refine lv_iconst (v := nI 1) hx hb dX3_nearSign_23 (by decide) ?_
        refine m_cVi (rest := []) ⟨hx, hb, hml, hown, hts⟩ hE hS (fun _ h => h) (kX3_goes l K A _ o ad f (nI dr.length) (nI ps.length) ta ti la hP hD true true true) (cwV 3 hts gX3_nearSign_X3_goes rfl rfl rfl (by decide +kernel) ⟨Nat.le_of_ble_eq_true rfl, Nat.le_of_ble_eq_true rfl⟩) (va_recv hE.k hP (ci := 4) (q0 := 0) rfl rfl) rfl rfl hl.1 rfl (Nat.le_of_ble_eq_true rfl) dX3_nearSign_24 ⟨Nat.le_of_ble_eq_true rfl, Nat.le_of_ble_eq_true rfl⟩ (fun r H locs hp hS hk => ?_)
        obtain ⟨rfl, hP, hD⟩ := hp
        refine m_if_ne_b (tgt := 32) hx hb dX3_nearSign_27 (by decide) (fun c_27 => ?_) (fun c_27 => ?_)
        · refine lv_aload_n hx hb dX3_nearSign_32 rfl (lv_at hl 0 rfl) ?_
          refine lv_iload_n hx hb dX3_nearSign_33 rfl (lv_at hl 1 rfl) ?_
          refine lv_iload_n hx hb dX3_nearSign_34 rfl (lv_at hl 2 rfl) ?_
          refine lv_iload_n hx hb dX3_nearSign_35 rfl (lv_at hl 3 rfl) ?_
          refine lv_iload hx hb dX3_nearSign_36 (lv_at hl 4 rfl) ?_
          refine m_cVi (rest := []) ⟨hx, hb, hml, hown, hts⟩ hE hS (fun _ h => h) (kX3_near l K A _ o ad f (nI dr.length) ta ti ((nI (goL true true true))) fm hfm ps hps hP hD k g i u hk_k hk_g hk_i hk_u) (cwV 4 hts gX3_nearSign_X3_near rfl rfl rfl (by decide +kernel) ⟨Nat.le_of_ble_eq_true rfl, Nat.le_of_ble_eq_true rfl⟩) (va_recv hE.k hP (ci := 4) (q0 := 0) rfl rfl) rfl rfl hl.1 rfl (Nat.le_of_ble_eq_true rfl) dX3_nearSign_38 ⟨Nat.le_of_ble_eq_true rfl, Nat.le_of_ble_eq_true rfl⟩ (fun r H locs hp hS hk => ?_)
          obtain ⟨bo, rfl, hb0, hb1, w1, w2, hP, hD⟩ := hp
          refine lv_istore (lv' := [(6, .int (oI bo)), (0, .ref o), (1, .int (nI k)), (2, .int (nI g)), (3, .int (nI i)), (4, .int (nI u)), (5, .int (nI j9))]) hx hb dX3_nearSign_41 hl (by decide) rfl (fun ls hl => ?_)
          refine lv_iload hx hb dX3_nearSign_43 (lv_at hl 0 rfl) ?_
          refine lv_iconst (v := (-1)) hx hb dX3_nearSign_45 (by decide) ?_
          refine m_icmp_eq_o (tgt := 61) hx hb (fun z hz => by obtain ⟨Q, F9, h1, h2, -⟩ := hb1 z hz; have := (List.getElem?_eq_some_iff.mp h2).1; omega) dX3_nearSign_46 (by decide) (fun c_46 => ?_) (fun k_46 c_46 => ?_)
          · refine lv_iconst (v := nI 0) hx hb dX3_nearSign_61 (by decide) ?_
            refine lv_goto (tgt := 78) hx hb dX3_nearSign_62 (by decide) ?_
            exact m_iret hx hb hr hlk hS (Nat.le_of_ble_eq_true rfl) (Nat.le_of_ble_eq_true rfl) dX3_nearSign_78 (⟨_, r3_0 (⟨h1, h2⟩) (trivial) ⟨by rw [tN_nI (by omega), tN_nI (by omega), tN_nI (by omega), tN_nI (by omega), tN_nI (by omega)]; exact (nearS_n (hb0 c_46)).symm, _, _, _, _, _, hP, hD, hR⟩⟩)
          · obtain ⟨P, F, hF, hPi, hnf⟩ := hb1 k_46 c_46
            have hbl := (List.getElem?_eq_some_iff.mp hPi).1
            obtain ⟨-, -, hn8, -, -, hnl, -, hns⟩ := hps.2 _ P hPi
            rw [c_46] at hl
            have hl : lv_has ls 7 [(6, .int (nI k_46)), (0, .ref o), (1, .int (nI k)), (2, .int (nI g)), (3, .int (nI i)), (4, .int (nI u)), (5, .int (nI j9))] := hl
            refine lv_iload hx hb dX3_nearSign_49 (lv_at hl 6 rfl) ?_
            refine lv_aload_n hx hb dX3_nearSign_51 rfl (lv_at hl 1 rfl) ?_
            refine va_get (D := K.1) (ci := 4) (v := .ref (ad 12)) (C := RX3) (T := TX3) (N := 21) hx hb hts iX3 hown hE.k hP 0 rfl rfl 12 (by decide) f44 (fun _ h9 => h9) rfl dX3_nearSign_52 ?_
            refine lv_iload hx hb dX3_nearSign_55 (lv_at hl 0 rfl) ?_
            refine m_iald hx hb hE.k hP 12 rfl (by omega) (by omega) hnl dX3_nearSign_57 ?_
            refine m_icmp_lt (tgt := 65) hx hb (by omega) (by omega) dX3_nearSign_58 (by decide) (fun c_58 => ?_) (fun c_58 => ?_)
            · refine lv_aload_n hx hb dX3_nearSign_65 rfl (lv_at hl 1 rfl) ?_
              refine va_get (D := K.1) (ci := 4) (v := .ref (ad 14)) (C := RX3) (T := TX3) (N := 21) hx hb hts iX3 hown hE.k hP 0 rfl rfl 14 (by decide) f50 (fun _ h9 => h9) rfl dX3_nearSign_66 ?_
              refine lv_bipush (v := nI 8) hx hb dX3_nearSign_69 (by decide) ?_
              refine lv_iload hx hb dX3_nearSign_71 (lv_at hl 0 rfl) ?_
              refine m_imul hx hb dX3_nearSign_73 ?_
              refine lv_iload hx hb dX3_nearSign_74 (lv_at hl 6 rfl) ?_
              refine m_iadd hx hb dX3_nearSign_76 ?_
              refine m_iald hx hb hE.k hP 14 rfl (by omega) (by omega) (hns j9 (by omega)) dX3_nearSign_77 ?_
              exact m_iret hx hb hr hlk hS (Nat.le_of_ble_eq_true rfl) (Nat.le_of_ble_eq_true rfl) dX3_nearSign_78 (⟨_, r3_0 (⟨h1, h2⟩) (trivial) ⟨by rw [tN_nI (by omega), tN_nI (by omega), tN_nI (by omega), tN_nI (by omega), tN_nI (by omega)]; exact (nearS_s hnf c_58).symm, _, _, _, _, _, hP, hD, hR⟩⟩)
            · refine lv_iconst (v := nI 0) hx hb dX3_nearSign_61 (by decide) ?_
              refine lv_goto (tgt := 78) hx hb dX3_nearSign_62 (by decide) ?_
              exact m_iret hx hb hr hlk hS (Nat.le_of_ble_eq_true rfl) (Nat.le_of_ble_eq_true rfl) dX3_nearSign_78 (⟨_, r3_0 (⟨h1, h2⟩) (trivial) ⟨by rw [tN_nI (by omega), tN_nI (by omega), tN_nI (by omega), tN_nI (by omega), tN_nI (by omega)]; exact (nearS_0 hnf c_58).symm, _, _, _, _, _, hP, hD, hR⟩⟩)
        · exact absurd c_27 (by first | decide | exact (show ¬ false = true by decide) | exact (show ¬ true = false by decide))
  | false =>
    have h1 := nB (okFB_iff (x := x) (y := y) (z := z) (w := w)) e_6
    refine m_if_eq_b (tgt := 21) hx hb dX3_nearSign_9 (by decide) (fun c_9 => ?_) (fun c_9 => ?_)
    · refine lv_iconst (v := nI 0) hx hb dX3_nearSign_21 (by decide) ?_
      refine lv_iconst (v := nI 1) hx hb dX3_nearSign_22 (by decide) ?_
      refine lv_iconst (v := nI 1) hx hb dX3_nearSign_23 (by decide) ?_
      refine m_cVi (rest := []) ⟨hx, hb, hml, hown, hts⟩ hE hS (fun _ h => h) (kX3_goes l K A _ o ad f (nI dr.length) (nI ps.length) ta ti la hP hD false true true) (cwV 3 hts gX3_nearSign_X3_goes rfl rfl rfl (by decide +kernel) ⟨Nat.le_of_ble_eq_true rfl, Nat.le_of_ble_eq_true rfl⟩) (va_recv hE.k hP (ci := 4) (q0 := 0) rfl rfl) rfl rfl hl.1 rfl (Nat.le_of_ble_eq_true rfl) dX3_nearSign_24 ⟨Nat.le_of_ble_eq_true rfl, Nat.le_of_ble_eq_true rfl⟩ (fun r H locs hp hS hk => ?_)
      obtain ⟨rfl, hP, hD⟩ := hp
      refine m_if_ne_b (tgt := 32) hx hb dX3_nearSign_27 (by decide) (fun c_27 => ?_) (fun c_27 => ?_)
      · exact absurd c_27 (by first | decide | exact (show ¬ false = true by decide) | exact (show ¬ true = false by decide))
      · refine lv_iconst (v := nI 0) hx hb dX3_nearSign_30 (by decide) ?_
        exact m_iret hx hb hr hlk hS (Nat.le_of_ble_eq_true rfl) (Nat.le_of_ble_eq_true rfl) dX3_nearSign_31 (⟨_, r3_1 ((by first | exact fun q => h1 q.1 | exact fun q => nB okB_iff (okP_f c_14) q.2)) ⟨f, _, _, _, _, hP, hD, hR⟩⟩)
    · exact absurd c_9 (by first | decide | exact (show ¬ false = true by decide) | exact (show ¬ true = false by decide))
