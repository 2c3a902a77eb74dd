theorem m_gIS_X2_remove : ∀ w ∈ (vx_atS RX2 90 m_IS m_RT).filter goodWord, w ∈ wsX2_remove := by decide +kernel
theorem m_gIS_X2_set : ∀ w ∈ (vx_atS RX2 90 m_IS m_RT).filter goodWord, w ∈ wsX2_set := by decide +kernel
theorem m_gIA_X2_setFallback : ∀ w ∈ (vx_atS RX2 73 m_IA m_RT).filter goodWord, w ∈ wsX2_setFallback := by decide +kernel
theorem m_gIO_X2_setFallback : ∀ w ∈ (vx_atS RX2 62 m_IO m_RT).filter goodWord, w ∈ wsX2_setFallback := by decide +kernel
theorem m_gIA_X2_sign : ∀ w ∈ (vx_atS RX2 73 m_IA m_RT).filter goodWord, w ∈ wsX2_sign := by decide +kernel
theorem m_gIS_X2_sign : ∀ w ∈ (vx_atS RX2 90 m_IS m_RT).filter goodWord, w ∈ wsX2_sign := by decide +kernel
set_option maxHeartbeats 4000000 in
set_option maxRecDepth 100000 in
theorem kX2_change (l : Launch) (K : m_K) (A : Nat → Prop) (H0 : Heap) (o : Nat) (ad : Nat → Nat) (f : Nat → Nat → Int32) (d : Int32) (ft : Nat → Option Nat) (li : List Value) (T : va_W) (hP : va_P K.1 vwCl (cW K o ad f d ft li T) H0) (hD : va_D A (cW K o ad f d ft li T)) (hA : ∀ q, H0.size ≤ q → A q) (fm : Nat → Option Frm) (hfm : ∀ k, k < 540 → FOpt K T (ft k) (fm k)) (ps : List Pr) (hls : LST K T li ps) (k g i u : Nat) (hk9 : k < 10) (hg9 : g < 6) (hi9 : i < 3) (hu9 : u < 3) (r9 : Option Nat) (fo : Option Frm) (hr9 : FOpt K T r9 fo) : Met l yX2_change wsX2_change ({ frames := 9, cells := 10, slots := 125, locals := 218 } : Room) (m_Pc K A H0 [.ref o, .int (nI k), .int (nI g), .int (nI i), .int (nI u), va_rf r9]) (va_Qv (fun H1 => ∃ (f' : Nat → Nat → Int32) (li' : List Value) (T' : va_W), va_P K.1 vwCl (cW K o ad f' d (va_up ft (54 * k + 9 * g + 3 * i + u) r9) li' T') H1 ∧ va_D A (cW K o ad f' d (va_up ft (54 * k + 9 * g + 3 * i + u) r9) li' T') ∧ Ext T T' ∧ LST K T' li' (psC fm ps k g (3 * i + u)) ∧ f' = (if g = 0 then va_up f 6 (upd (f 6) k (f 6 k + nI 1)) else va_up f 7 (upd (f 7) (k * 6 + g) (f 6 k)))) m_B A) 10 125 A := by
  cases r9 with
  | none =>
    refine m_ofW (by decide) rfl (Nat.le_of_ble_eq_true rfl) ?_
    intro p e s m args below meth c ls hx hb hr hml hown hts hlk hnm hE hsz hS hl
    have hl : lv_has ls 7 [(0, .ref o), (1, .int (nI k)), (2, .int (nI g)), (3, .int (nI i)), (4, .int (nI u)), (5, .null)] := hl
    have hA0 : ∀ q, s.heap.size ≤ q → A q := fun q h => hA q (by rw [← hsz]; exact h)
    have iX2 : ∀ w ∈ wsX20, w ∈ wsX2_change := by decide +kernel
    have f41 := hts (.fieldLink RX2 41 "PhraseCatalogue" "seenVersions" "[I") (by decide +kernel)
    have f38 := hts (.fieldLink RX2 38 "PhraseCatalogue" "sourceVersions" "[I") (by decide +kernel)
    have f34 := hts (.fieldLink RX2 34 "PhraseCatalogue" "formTable" "[LPhraseCatalogue$Form;") (by decide +kernel)
    refine lv_iload_n hx hb dX2_change_0 rfl (lv_at hl 1 rfl) ?_
    refine lv_iload_n hx hb dX2_change_1 rfl (lv_at hl 2 rfl) ?_
    refine lv_iload_n hx hb dX2_change_2 rfl (lv_at hl 3 rfl) ?_
    refine lv_iload hx hb dX2_change_3 (lv_at hl 4 rfl) ?_
    refine m_cSi (rest := []) ⟨hx, hb, hml, hown, hts⟩ hE hS (fun _ h => h) (kX2_slotOf l K A _ k g i u (54 * k + 9 * g + 3 * i + u) (by omega)) (va_cwS 4 hts gX2_change_X2_slotOf rfl rfl rfl (by decide +kernel) ⟨Nat.le_of_ble_eq_true rfl, Nat.le_of_ble_eq_true rfl⟩) rfl rfl hl.1 rfl (Nat.le_of_ble_eq_true rfl) dX2_change_5 ⟨Nat.le_of_ble_eq_true rfl, Nat.le_of_ble_eq_true rfl⟩ (fun r H1 locs hp hS hk => ?_)
    obtain ⟨rfl, rfl⟩ := hp
    refine lv_istore (lv' := [(6, .int (nI (54 * k + 9 * g + 3 * i + u))), (0, .ref o), (1, .int (nI k)), (2, .int (nI g)), (3, .int (nI i)), (4, .int (nI u)), (5, .null)]) hx hb dX2_change_8 hl (by decide) rfl (fun ls hl => ?_)
    refine lv_iload_n hx hb dX2_change_10 rfl (lv_at hl 3 rfl) ?_
    refine m_if_ne (tgt := 42) hx hb (by omega) dX2_change_11 (by decide) (fun c_11 => ?_) (fun c_11 => ?_)
    · refine lv_aload_n hx hb dX2_change_42 rfl (lv_at hl 1 rfl) ?_
      refine va_get (D := K.1) (ci := 3) (v := .ref (ad 7)) (C := RX2) (T := TX2) (N := 10) hx hb hts iX2 hown hE.k hP 0 rfl rfl 7 (by decide) f41 (fun _ h9 => h9) rfl dX2_change_43 ?_
      refine lv_iload_n hx hb dX2_change_46 rfl (lv_at hl 2 rfl) ?_
      refine lv_iload_n hx hb dX2_change_47 rfl (lv_at hl 3 rfl) ?_
      refine m_cSi (rest := [.ref (ad 7)]) ⟨hx, hb, hml, hown, hts⟩ hE hS (fun _ h => h) (kX2_textOf l K A H0 k g) (va_cwS 2 hts gX2_change_X2_textOf rfl rfl rfl (by decide +kernel) ⟨Nat.le_of_ble_eq_true rfl, Nat.le_of_ble_eq_true rfl⟩) rfl rfl hl.1 rfl (Nat.le_of_ble_eq_true rfl) dX2_change_48 ⟨Nat.le_of_ble_eq_true rfl, Nat.le_of_ble_eq_true rfl⟩ (fun r H1 locs hp hS hk => ?_)
      obtain ⟨rfl, rfl⟩ := hp
      refine lv_aload_n hx hb dX2_change_51 rfl (lv_at hl 1 rfl) ?_
      refine va_get (D := K.1) (ci := 3) (v := .ref (ad 6)) (C := RX2) (T := TX2) (N := 10) hx hb hts iX2 hown hE.k hP 0 rfl rfl 6 (by decide) f38 (fun _ h9 => h9) rfl dX2_change_52 ?_
      refine lv_iload_n hx hb dX2_change_55 rfl (lv_at hl 2 rfl) ?_
      refine m_iald hx hb hE.k hP 6 rfl (by omega) (by omega) rfl dX2_change_56 ?_
      refine m_iast hx hb hE.k hP hD hS 7 rfl (by omega) (by omega) dX2_change_57 (fun H locs hP hD hS => ?_)
      have hP : va_P K.1 vwCl (cW K o ad (va_up f 7 (upd (f 7) (k * 6 + g) (f 6 k))) d ft li T) H := hP
      have hD : va_D A (cW K o ad (va_up f 7 (upd (f 7) (k * 6 + g) (f 6 k))) d ft li T) := hD
      refine lv_aload_n hx hb dX2_change_58 rfl (lv_at hl 1 rfl) ?_
      refine va_get (D := K.1) (ci := 3) (v := .ref (ad 5)) (C := RX2) (T := TX2) (N := 10) hx hb hts iX2 hown hE.k hP 0 rfl rfl 5 (by decide) f34 (fun _ h9 => h9) rfl dX2_change_59 ?_
      refine lv_iload hx hb dX2_change_62 (lv_at hl 0 rfl) ?_
      refine lv_aloadN hx hb dX2_change_64 (lv_at hl 6 rfl) ?_
      refine m_aastN2 hx hb hE.k hP hD hS 5 rfl (by omega) (by omega) dX2_change_66 (fun H locs hP hD hS => ?_)
      have hP : va_P K.1 vwCl (cW K o ad (va_up f 7 (upd (f 7) (k * 6 + g) (f 6 k))) d (va_up ft (54 * k + 9 * g + 3 * i + u) none) li T) H := hP
      have hD : va_D A (cW K o ad (va_up f 7 (upd (f 7) (k * 6 + g) (f 6 k))) d (va_up ft (54 * k + 9 * g + 3 * i + u) none) li T) := hD
      exact m_vret hx hb hr hlk hS (Nat.le_of_ble_eq_true rfl) (Nat.le_of_ble_eq_true rfl) dX2_change_67 (⟨_, _, _, hP, hD, Ext.rf, by unfold psC; rw [if_neg c_11]; exact hls, (if_neg c_11).symm⟩)
    · refine lv_aload_n hx hb dX2_change_14 rfl (lv_at hl 1 rfl) ?_
      refine lv_iload_n hx hb dX2_change_15 rfl (lv_at hl 2 rfl) ?_
      refine lv_iload_n hx hb dX2_change_16 rfl (lv_at hl 4 rfl) ?_
      refine lv_iload hx hb dX2_change_17 (lv_at hl 5 rfl) ?_
      refine lv_aload_n hx hb dX2_change_19 rfl (lv_at hl 1 rfl) ?_
      refine va_get (D := K.1) (ci := 3) (v := .ref (ad 5)) (C := RX2) (T := TX2) (N := 10) hx hb hts iX2 hown hE.k hP 0 rfl rfl 5 (by decide) f34 (fun _ h9 => h9) rfl dX2_change_20 ?_
      refine lv_iload hx hb dX2_change_23 (lv_at hl 0 rfl) ?_
      refine m_aald2 hx hb hE.k hP 5 rfl (by omega) (by omega) rfl dX2_change_25 ?_
      have hz9 : FOpt K T (ft (54 * k + 9 * g + 3 * i + u)) (fm (54 * k + (3 * i + u))) := by
        have h := hfm (54 * k + 9 * g + 3 * i + u) (by omega)
        rw [show 54 * k + 9 * g + 3 * i + u = 54 * k + (3 * i + u) by omega] at h ⊢
        exact h
      refine m_cVv (rest := []) ⟨hx, hb, hml, hown, hts⟩ hE hS (fun _ h => h) (kX2_keepPairs l K A H0 o ad f d ft li T hP hD hA fm hfm ps hls k i u hk9 hi9 hu9 (ft (54 * k + 9 * g + 3 * i + u)) hz9) (cwV 4 hts gX2_change_X2_keepPairs rfl rfl rfl (by decide +kernel) ⟨Nat.le_of_ble_eq_true rfl, Nat.le_of_ble_eq_true rfl⟩) (va_recv hE.k hP (ci := 3) (q0 := 0) rfl rfl) rfl rfl hl.1 rfl (Nat.le_of_ble_eq_true rfl) dX2_change_26 ⟨Nat.le_of_ble_eq_true rfl, Nat.le_of_ble_eq_true rfl⟩ (fun H locs hp hS hk => ?_)
      obtain ⟨li', T', hP, hD, hls', hX⟩ := hp
      refine lv_aload_n hx hb dX2_change_29 rfl (lv_at hl 1 rfl) ?_
      refine va_get (D := K.1) (ci := 3) (v := .ref (ad 6)) (C := RX2) (T := TX2) (N := 10) hx hb hts iX2 hown hE.k hP 0 rfl rfl 6 (by decide) f38 (fun _ h9 => h9) rfl dX2_change_30 ?_
      refine lv_iload_n hx hb dX2_change_33 rfl (lv_at hl 2 rfl) ?_
      refine lv_dup2_11 hx hb dX2_change_34 rfl rfl ?_
      refine m_iald hx hb hE.k hP 6 rfl (by omega) (by omega) rfl dX2_change_35 ?_
      refine lv_iconst (v := nI 1) hx hb dX2_change_36 (by decide) ?_
      refine lv_iadd hx hb dX2_change_37 ?_
      refine m_iast hx hb hE.k hP hD hS 6 rfl (by omega) (by omega) dX2_change_38 (fun H locs hP hD hS => ?_)
      have hP : va_P K.1 vwCl (cW K o ad (va_up f 6 (upd (f 6) k ((f 6 k) + (nI 1)))) d ft li' T') H := hP
      have hD : va_D A (cW K o ad (va_up f 6 (upd (f 6) k ((f 6 k) + (nI 1)))) d ft li' T') := hD
      refine lv_goto (tgt := 58) hx hb dX2_change_39 (by decide) ?_
      refine lv_aload_n hx hb dX2_change_58 rfl (lv_at hl 1 rfl) ?_
      refine va_get (D := K.1) (ci := 3) (v := .ref (ad 5)) (C := RX2) (T := TX2) (N := 10) hx hb hts iX2 hown hE.k hP 0 rfl rfl 5 (by decide) f34 (fun _ h9 => h9) rfl dX2_change_59 ?_
      refine lv_iload hx hb dX2_change_62 (lv_at hl 0 rfl) ?_
      refine lv_aloadN hx hb dX2_change_64 (lv_at hl 6 rfl) ?_
      refine m_aastN2 hx hb hE.k hP hD hS 5 rfl (by omega) (by omega) dX2_change_66 (fun H locs hP hD hS => ?_)
      have hP : va_P K.1 vwCl (cW K o ad (va_up f 6 (upd (f 6) k ((f 6 k) + (nI 1)))) d (va_up ft (54 * k + 9 * g + 3 * i + u) none) li' T') H := hP
      have hD : va_D A (cW K o ad (va_up f 6 (upd (f 6) k ((f 6 k) + (nI 1)))) d (va_up ft (54 * k + 9 * g + 3 * i + u) none) li' T') := hD
      exact m_vret hx hb hr hlk hS (Nat.le_of_ble_eq_true rfl) (Nat.le_of_ble_eq_true rfl) dX2_change_67 (⟨_, _, _, hP, hD, hX, by unfold psC; rw [if_pos c_11]; exact hls', (if_pos c_11).symm⟩)
  | some a9 =>
    refine m_ofW (by decide) rfl (Nat.le_of_ble_eq_true rfl) ?_
    intro p e s m args below meth c ls hx hb hr hml hown hts hlk hnm hE hsz hS hl
    have hl : lv_has ls 7 [(0, .ref o), (1, .int (nI k)), (2, .int (nI g)), (3, .int (nI i)), (4, .int (nI u)), (5, .ref a9)] := hl
    have hA0 : ∀ q, s.heap.size ≤ q → A q := fun q h => hA q (by rw [← hsz]; exact h)
    have iX2 : ∀ w ∈ wsX20, w ∈ wsX2_change := by decide +kernel
    have f41 := hts (.fieldLink RX2 41 "PhraseCatalogue" "seenVersions" "[I") (by decide +kernel)
    have f38 := hts (.fieldLink RX2 38 "PhraseCatalogue" "sourceVersions" "[I") (by decide +kernel)
    have f34 := hts (.fieldLink RX2 34 "PhraseCatalogue" "formTable" "[LPhraseCatalogue$Form;") (by decide +kernel)
    obtain ⟨F, hF, hFa⟩ := FOpt_at hr9 rfl
    refine lv_iload_n hx hb dX2_change_0 rfl (lv_at hl 1 rfl) ?_
    refine lv_iload_n hx hb dX2_change_1 rfl (lv_at hl 2 rfl) ?_
    refine lv_iload_n hx hb dX2_change_2 rfl (lv_at hl 3 rfl) ?_
    refine lv_iload hx hb dX2_change_3 (lv_at hl 4 rfl) ?_
    refine m_cSi (rest := []) ⟨hx, hb, hml, hown, hts⟩ hE hS (fun _ h => h) (kX2_slotOf l K A _ k g i u (54 * k + 9 * g + 3 * i + u) (by omega)) (va_cwS 4 hts gX2_change_X2_slotOf rfl rfl rfl (by decide +kernel) ⟨Nat.le_of_ble_eq_true rfl, Nat.le_of_ble_eq_true rfl⟩) rfl rfl hl.1 rfl (Nat.le_of_ble_eq_true rfl) dX2_change_5 ⟨Nat.le_of_ble_eq_true rfl, Nat.le_of_ble_eq_true rfl⟩ (fun r H1 locs hp hS hk => ?_)
    obtain ⟨rfl, rfl⟩ := hp
    refine lv_istore (lv' := [(6, .int (nI (54 * k + 9 * g + 3 * i + u))), (0, .ref o), (1, .int (nI k)), (2, .int (nI g)), (3, .int (nI i)), (4, .int (nI u)), (5, .ref a9)]) hx hb dX2_change_8 hl (by decide) rfl (fun ls hl => ?_)
    refine lv_iload_n hx hb dX2_change_10 rfl (lv_at hl 3 rfl) ?_
    refine m_if_ne (tgt := 42) hx hb (by omega) dX2_change_11 (by decide) (fun c_11 => ?_) (fun c_11 => ?_)
    · refine lv_aload_n hx hb dX2_change_42 rfl (lv_at hl 1 rfl) ?_
      refine va_get (D := K.1) (ci := 3) (v := .ref (ad 7)) (C := RX2) (T := TX2) (N := 10) hx hb hts iX2 hown hE.k hP 0 rfl rfl 7 (by decide) f41 (fun _ h9 => h9) rfl dX2_change_43 ?_
      refine lv_iload_n hx hb dX2_change_46 rfl (lv_at hl 2 rfl) ?_
      refine lv_iload_n hx hb dX2_change_47 rfl (lv_at hl 3 rfl) ?_
      refine m_cSi (rest := [.ref (ad 7)]) ⟨hx, hb, hml, hown, hts⟩ hE hS (fun _ h => h) (kX2_textOf l K A H0 k g) (va_cwS 2 hts gX2_change_X2_textOf rfl rfl rfl (by decide +kernel) ⟨Nat.le_of_ble_eq_true rfl, Nat.le_of_ble_eq_true rfl⟩) rfl rfl hl.1 rfl (Nat.le_of_ble_eq_true rfl) dX2_change_48 ⟨Nat.le_of_ble_eq_true rfl, Nat.le_of_ble_eq_true rfl⟩ (fun r H1 locs hp hS hk => ?_)
      obtain ⟨rfl, rfl⟩ := hp
      refine lv_aload_n hx hb dX2_change_51 rfl (lv_at hl 1 rfl) ?_
      refine va_get (D := K.1) (ci := 3) (v := .ref (ad 6)) (C := RX2) (T := TX2) (N := 10) hx hb hts iX2 hown hE.k hP 0 rfl rfl 6 (by decide) f38 (fun _ h9 => h9) rfl dX2_change_52 ?_
      refine lv_iload_n hx hb dX2_change_55 rfl (lv_at hl 2 rfl) ?_
      refine m_iald hx hb hE.k hP 6 rfl (by omega) (by omega) rfl dX2_change_56 ?_
      refine m_iast hx hb hE.k hP hD hS 7 rfl (by omega) (by omega) dX2_change_57 (fun H locs hP hD hS => ?_)
      have hP : va_P K.1 vwCl (cW K o ad (va_up f 7 (upd (f 7) (k * 6 + g) (f 6 k))) d ft li T) H := hP
      have hD : va_D A (cW K o ad (va_up f 7 (upd (f 7) (k * 6 + g) (f 6 k))) d ft li T) := hD
      refine lv_aload_n hx hb dX2_change_58 rfl (lv_at hl 1 rfl) ?_
      refine va_get (D := K.1) (ci := 3) (v := .ref (ad 5)) (C := RX2) (T := TX2) (N := 10) hx hb hts iX2 hown hE.k hP 0 rfl rfl 5 (by decide) f34 (fun _ h9 => h9) rfl dX2_change_59 ?_
      refine lv_iload hx hb dX2_change_62 (lv_at hl 0 rfl) ?_
      refine lv_aload hx hb dX2_change_64 (lv_at hl 6 rfl) ?_
      obtain ⟨ix, sq, jx, sg, hix, -, -, -, -⟩ := hFa
      refine m_aast2 hx hb hE.k hP hD hS 5 (ix + 10) rfl (cW_t hix) (by omega) (by omega) dX2_change_66 (fun H locs hP hD hS => ?_)
      have hP : va_P K.1 vwCl (cW K o ad (va_up f 7 (upd (f 7) (k * 6 + g) (f 6 k))) d (va_up ft (54 * k + 9 * g + 3 * i + u) (some a9)) li T) H := hP
      have hD : va_D A (cW K o ad (va_up f 7 (upd (f 7) (k * 6 + g) (f 6 k))) d (va_up ft (54 * k + 9 * g + 3 * i + u) (some a9)) li T) := hD
      exact m_vret hx hb hr hlk hS (Nat.le_of_ble_eq_true rfl) (Nat.le_of_ble_eq_true rfl) dX2_change_67 (⟨_, _, _, hP, hD, Ext.rf, by unfold psC; rw [if_neg c_11]; exact hls, (if_neg c_11).symm⟩)
    · refine lv_aload_n hx hb dX2_change_14 rfl (lv_at hl 1 rfl) ?_
      refine lv_iload_n hx hb dX2_change_15 rfl (lv_at hl 2 rfl) ?_
      refine lv_iload_n hx hb dX2_change_16 rfl (lv_at hl 4 rfl) ?_
      refine lv_iload hx hb dX2_change_17 (lv_at hl 5 rfl) ?_
      refine lv_aload_n hx hb dX2_change_19 rfl (lv_at hl 1 rfl) ?_
      refine va_get (D := K.1) (ci := 3) (v := .ref (ad 5)) (C := RX2) (T := TX2) (N := 10) hx hb hts iX2 hown hE.k hP 0 rfl rfl 5 (by decide) f34 (fun _ h9 => h9) rfl dX2_change_20 ?_
      refine lv_iload hx hb dX2_change_23 (lv_at hl 0 rfl) ?_
      refine m_aald2 hx hb hE.k hP 5 rfl (by omega) (by omega) rfl dX2_change_25 ?_
      have hz9 : FOpt K T (ft (54 * k + 9 * g + 3 * i + u)) (fm (54 * k + (3 * i + u))) := by
        have h := hfm (54 * k + 9 * g + 3 * i + u) (by omega)
        rw [show 54 * k + 9 * g + 3 * i + u = 54 * k + (3 * i + u) by omega] at h ⊢
        exact h
      refine m_cVv (rest := []) ⟨hx, hb, hml, hown, hts⟩ hE hS (fun _ h => h) (kX2_keepPairs l K A H0 o ad f d ft li T hP hD hA fm hfm ps hls k i u hk9 hi9 hu9 (ft (54 * k + 9 * g + 3 * i + u)) hz9) (cwV 4 hts gX2_change_X2_keepPairs rfl rfl rfl (by decide +kernel) ⟨Nat.le_of_ble_eq_true rfl, Nat.le_of_ble_eq_true rfl⟩) (va_recv hE.k hP (ci := 3) (q0 := 0) rfl rfl) rfl rfl hl.1 rfl (Nat.le_of_ble_eq_true rfl) dX2_change_26 ⟨Nat.le_of_ble_eq_true rfl, Nat.le_of_ble_eq_true rfl⟩ (fun H locs hp hS hk => ?_)
      obtain ⟨li', T', hP, hD, hls', hX⟩ := hp
      refine lv_aload_n hx hb dX2_change_29 rfl (lv_at hl 1 rfl) ?_
      refine va_get (D := K.1) (ci := 3) (v := .ref (ad 6)) (C := RX2) (T := TX2) (N := 10) hx hb hts iX2 hown hE.k hP 0 rfl rfl 6 (by decide) f38 (fun _ h9 => h9) rfl dX2_change_30 ?_
      refine lv_iload_n hx hb dX2_change_33 rfl (lv_at hl 2 rfl) ?_
      refine lv_dup2_11 hx hb dX2_change_34 rfl rfl ?_
      refine m_iald hx hb hE.k hP 6 rfl (by omega) (by omega) rfl dX2_change_35 ?_
      refine lv_iconst (v := nI 1) hx hb dX2_change_36 (by decide) ?_
      refine lv_iadd hx hb dX2_change_37 ?_
      refine m_iast hx hb hE.k hP hD hS 6 rfl (by omega) (by omega) dX2_change_38 (fun H locs hP hD hS => ?_)
      have hP : va_P K.1 vwCl (cW K o ad (va_up f 6 (upd (f 6) k ((f 6 k) + (nI 1)))) d ft li' T') H := hP
      have hD : va_D A (cW K o ad (va_up f 6 (upd (f 6) k ((f 6 k) + (nI 1)))) d ft li' T') := hD
      refine lv_goto (tgt := 58) hx hb dX2_change_39 (by decide) ?_
      refine lv_aload_n hx hb dX2_change_58 rfl (lv_at hl 1 rfl) ?_
      refine va_get (D := K.1) (ci := 3) (v := .ref (ad 5)) (C := RX2) (T := TX2) (N := 10) hx hb hts iX2 hown hE.k hP 0 rfl rfl 5 (by decide) f34 (fun _ h9 => h9) rfl dX2_change_59 ?_
      refine lv_iload hx hb dX2_change_62 (lv_at hl 0 rfl) ?_
      refine lv_aload hx hb dX2_change_64 (lv_at hl 6 rfl) ?_
      obtain ⟨ix, sq, jx, sg, hix, -, -, -, -⟩ := hFa.ext hX
      refine m_aast2 hx hb hE.k hP hD hS 5 (ix + 10) rfl (cW_t hix) (by omega) (by omega) dX2_change_66 (fun H locs hP hD hS => ?_)
      have hP : va_P K.1 vwCl (cW K o ad (va_up f 6 (upd (f 6) k ((f 6 k) + (nI 1)))) d (va_up ft (54 * k + 9 * g + 3 * i + u) (some a9)) li' T') H := hP
      have hD : va_D A (cW K o ad (va_up f 6 (upd (f 6) k ((f 6 k) + (nI 1)))) d (va_up ft (54 * k + 9 * g + 3 * i + u) (some a9)) li' T') := hD
      exact m_vret hx hb hr hlk hS (Nat.le_of_ble_eq_true rfl) (Nat.le_of_ble_eq_true rfl) dX2_change_67 (⟨_, _, _, hP, hD, hX, by unfold psC; rw [if_pos c_11]; exact hls', (if_pos c_11).symm⟩)

/-- behind change the state is the changed one -/
theorem cRep_change {K : m_K} {f f' : Nat → Nat → Int32} {d : Int32} {ft : Nat → Option Nat} {li li' : List Value} {T T' : va_W} {fb : Nat → Nat} {on fw : Nat → Int32} {dr dr' : List Int32} {fm : Nat → Option Frm} {vs ch : Nat → Int32} {ps : List Pr} {k g i u : Nat} {r9 : Option Nat} {fo : Option Frm}
    (h : cRep K f d ft li T fb on fw dr fm vs ch ps) (hk : k < 10) (hg : g < 6) (hi : i < 3) (hu : u < 3) (hX : Ext T T') (hr : FOpt K T' r9 fo) (hls : LST K T' li' (psC fm ps k g (3 * i + u))) (d' : Int32) (hd : d' = nI dr'.length ∧ dr'.length ≤ 8 ∧ ∀ j, j < dr'.length → f 3 j = dr'.getD j 0)
    (hf : f' = (if g = 0 then va_up f 6 (upd (f 6) k (f 6 k + nI 1)) else va_up f 7 (upd (f 7) (k * 6 + g) (f 6 k)))) : cRep K f' d' (va_up ft (54 * k + 9 * g + 3 * i + u) r9) li' T' fb on fw dr' (va_up fm (54 * k + 9 * g + 3 * i + u) fo) (vsC vs k g) (chC ch vs k g) (psC fm ps k g (3 * i + u)) := by
  obtain ⟨h0, h1, h2, h3, h5, h6, h7, h8⟩ := h
  have e0 : f' 0 = f 0 := by rw [hf]; split <;> rfl
  have e1 : f' 1 = f 1 := by rw [hf]; split <;> rfl
  have e2 : f' 2 = f 2 := by rw [hf]; split <;> rfl
  have e3 : f' 3 = f 3 := by rw [hf]; split <;> rfl
  refine ⟨by rw [e0]; exact h0, by rw [e1]; exact h1, by rw [e2]; exact h2, by rw [e3]; exact hd, fun n hn => ?_, fun n hn => ?_, fun n z hn hz hz0 => ?_, hls⟩
  · unfold va_up
    split
    · exact hr
    · exact (h5 n hn).ext hX
  · rw [hf]
    unfold vsC
    by_cases c : g = 0
    · rw [if_pos c, if_pos c]
      show upd (f 6) k (f 6 k + nI 1) n = va_up vs k (vs k + nI 1) n
      unfold upd va_up
      split
      · rw [h6 k hk]
      · exact h6 n hn
    · rw [if_neg c, if_neg c]
      exact h6 n hn
  · rw [hf]
    unfold chC vsC
    by_cases c : g = 0
    · rw [if_pos c, if_pos c]
      show f 7 (n * 6 + z) = va_up ch (6 * k + g) _ (6 * n + z)
      rw [va_up_ne _ _ (by omega)]
      exact h7 n z hn hz hz0
    · rw [if_neg c, if_neg c]
      show upd (f 7) (k * 6 + g) (f 6 k) (n * 6 + z) = va_up ch (6 * k + g) (vs k) (6 * n + z)
      by_cases e : 6 * n + z = 6 * k + g
      · rw [e, va_up_self, show n * 6 + z = k * 6 + g by omega, pk_us, h6 k hk]
      · rw [va_up_ne _ _ e, pk_un (by omega)]
        exact h7 n z hn hz hz0

theorem upd_up {f g : Nat → Int32} {n k : Nat} {x : Int32} (h : ∀ i, i < n → f i = g i) : ∀ i, i < n → upd f k x i = va_up g k x i := fun i hi => by
  unfold upd va_up
  split
  · rfl
  · exact h i hi

set_option maxHeartbeats 4000000 in
set_option maxRecDepth 100000 in
theorem kX2_setNumbers (l : Launch) (hl0 : l.stackTraces = false) (K : m_K) (A : Nat → Prop) (H0 : Heap) (o : Nat) (ad : Nat → Nat) (fb : Nat → Nat) (on fw : Nat → Int32) (dr : List Int32) (fm : Nat → Option Frm) (vs ch : Nat → Int32) (ps : List Pr) (hc9 : cOK K A H0 o ad fb on fw dr fm vs ch ps) (hA : ∀ q, H0.size ≤ q → A q) (x y z : Int32) : vx_Met l yX2_setNumbers wsX2_setNumbers ({ frames := 7, cells := 3, slots := 18, locals := 104 } : Room) (m_Pc K A H0 [.ref o, .int x, .int y, .int z]) (va_Qv (fun H1 => okN x 6 ∧ okN y 101 ∧ okN z 101 ∧ cOK K A H1 o ad fb (va_up on (tN x) y) (va_up fw (tN x) z) dr fm vs ch ps) m_B A) (m_X (fun E => (E = m_IO ∧ ¬ okN x 6) ∨ (E = m_IA ∧ okN x 6 ∧ ¬ (okN y 101 ∧ okN z 101))) H0 A) 3 18 A := by
  refine m_ofX (by decide) rfl (Nat.le_of_ble_eq_true rfl) ?_
  intro p e s m args below meth c ls hx hb hr hml hown hts hlk hnm htab hE hsz hS hl
  have hl : lv_has ls 4 [(0, .ref o), (1, .int x), (2, .int y), (3, .int z)] := hl
  obtain ⟨f, d, ft, li, T, hP, hD, hR⟩ := hc9
  obtain ⟨hfb, hon, hfw, hdr, hfm, hvs, hch, hls⟩ := id hR
  obtain ⟨hd9, hdl, hdj⟩ := hdr
  have iX2 : ∀ w ∈ wsX20, w ∈ wsX2_setNumbers := by decide +kernel
  have f13 := hts (.fieldLink RX2 13 "PhraseCatalogue" "onesLimits" "[I") (by decide +kernel)
  have f16 := hts (.fieldLink RX2 16 "PhraseCatalogue" "fewLimits" "[I") (by decide +kernel)
  refine lv_iload_n hx hb dX2_setNumbers_0 rfl (lv_at hl 1 rfl) ?_
  refine m_xSv (rest := []) ⟨hx, hb, hml, hown, hts⟩ hE hS (fun _ h => h) (kX2_requireLanguage l hl0 K A H0 x) (va_cwS 1 hts gX2_setNumbers_X2_requireLanguage rfl rfl rfl (by decide +kernel) ⟨Nat.le_of_ble_eq_true rfl, Nat.le_of_ble_eq_true rfl⟩) rfl rfl hl.1 rfl (Nat.le_of_ble_eq_true rfl) dX2_setNumbers_1 ⟨Nat.le_of_ble_eq_true rfl, Nat.le_of_ble_eq_true rfl⟩ (fun E ce q9 H1 locs1 hx9 hs9 hS9 g1 g2 g3 => m_out htab hlk (Or.inl ⟨hx9.1, hx9.2⟩) hs9 hS9 g1 g2 g3 (Nat.le_of_ble_eq_true rfl) (Nat.le_of_ble_eq_true rfl)) (fun H1 locs hp hS hk => ?_)
  obtain ⟨rfl, h1⟩ := hp
  refine lv_iload_n hx hb dX2_setNumbers_4 rfl (lv_at hl 2 rfl) ?_
  refine m_xSv (rest := []) ⟨hx, hb, hml, hown, hts⟩ hE hS (fun _ h => h) (kX2_requireNumberLimit l hl0 K A H0 y) (va_cwS 1 hts gX2_setNumbers_X2_requireNumberLimit rfl rfl rfl (by decide +kernel) ⟨Nat.le_of_ble_eq_true rfl, Nat.le_of_ble_eq_true rfl⟩) rfl rfl hl.1 rfl (Nat.le_of_ble_eq_true rfl) dX2_setNumbers_5 ⟨Nat.le_of_ble_eq_true rfl, Nat.le_of_ble_eq_true rfl⟩ (fun E ce q9 H1 locs1 hx9 hs9 hS9 g1 g2 g3 => m_out htab hlk (Or.inr ⟨hx9.1, h1, fun q => hx9.2 q.1⟩) hs9 hS9 g1 g2 g3 (Nat.le_of_ble_eq_true rfl) (Nat.le_of_ble_eq_true rfl)) (fun H1 locs hp hS hk => ?_)
  obtain ⟨rfl, h2⟩ := hp
  refine lv_iload_n hx hb dX2_setNumbers_8 rfl (lv_at hl 3 rfl) ?_
  refine m_xSv (rest := []) ⟨hx, hb, hml, hown, hts⟩ hE hS (fun _ h => h) (kX2_requireNumberLimit l hl0 K A H0 z) (va_cwS 1 hts gX2_setNumbers_X2_requireNumberLimit rfl rfl rfl (by decide +kernel) ⟨Nat.le_of_ble_eq_true rfl, Nat.le_of_ble_eq_true rfl⟩) rfl rfl hl.1 rfl (Nat.le_of_ble_eq_true rfl) dX2_setNumbers_9 ⟨Nat.le_of_ble_eq_true rfl, Nat.le_of_ble_eq_true rfl⟩ (fun E ce q9 H1 locs1 hx9 hs9 hS9 g1 g2 g3 => m_out htab hlk (Or.inr ⟨hx9.1, h1, fun q => hx9.2 q.2⟩) hs9 hS9 g1 g2 g3 (Nat.le_of_ble_eq_true rfl) (Nat.le_of_ble_eq_true rfl)) (fun H1 locs hp hS hk => ?_)
  obtain ⟨rfl, h3⟩ := hp
  obtain ⟨g, hk_g, rfl⟩ := okN_of h1 (by decide)
  have hl : lv_has ls 4 [(0, .ref o), (1, .int (nI g)), (2, .int y), (3, .int z)] := hl
  refine lv_aload_n hx hb dX2_setNumbers_12 rfl (lv_at hl 0 rfl) ?_
  refine va_get (D := K.1) (ci := 3) (v := .ref (ad 1)) (C := RX2) (T := TX2) (N := 10) hx hb hts iX2 hown hE.k hP 0 rfl rfl 1 (by decide) f13 (fun _ h9 => h9) rfl dX2_setNumbers_13 ?_
  refine lv_iload_n hx hb dX2_setNumbers_16 rfl (lv_at hl 1 rfl) ?_
  refine lv_iload_n hx hb dX2_setNumbers_17 rfl (lv_at hl 2 rfl) ?_
  refine m_iast hx hb hE.k hP hD hS 2 rfl (by omega) (by omega) dX2_setNumbers_18 (fun H locs hP hD hS => ?_)
  have hP : va_P K.1 vwCl (cW K o ad (va_up f 1 (upd (f 1) g y)) d ft li T) H := hP
  have hD : va_D A (cW K o ad (va_up f 1 (upd (f 1) g y)) d ft li T) := hD
  refine lv_aload_n hx hb dX2_setNumbers_19 rfl (lv_at hl 0 rfl) ?_
  refine va_get (D := K.1) (ci := 3) (v := .ref (ad 2)) (C := RX2) (T := TX2) (N := 10) hx hb hts iX2 hown hE.k hP 0 rfl rfl 2 (by decide) f16 (fun _ h9 => h9) rfl dX2_setNumbers_20 ?_
  refine lv_iload_n hx hb dX2_setNumbers_23 rfl (lv_at hl 1 rfl) ?_
  refine lv_iload_n hx hb dX2_setNumbers_24 rfl (lv_at hl 3 rfl) ?_
  refine m_iast hx hb hE.k hP hD hS 3 rfl (by omega) (by omega) dX2_setNumbers_25 (fun H locs hP hD hS => ?_)
  have hP : va_P K.1 vwCl (cW K o ad (va_up (va_up f 1 (upd (f 1) g y)) 2 (upd (f 2) g z)) d ft li T) H := hP
  have hD : va_D A (cW K o ad (va_up (va_up f 1 (upd (f 1) g y)) 2 (upd (f 2) g z)) d ft li T) := hD
  exact vx_ret (m_vret hx hb hr hlk hS (Nat.le_of_ble_eq_true rfl) (Nat.le_of_ble_eq_true rfl) dX2_setNumbers_26 (⟨h1, h2, h3, _, d, ft, li, T, hP, hD, hfb, fun n hn => by rw [tN_nI (by omega)]; exact upd_up hon n hn, fun n hn => by rw [tN_nI (by omega)]; exact upd_up hfw n hn, ⟨hd9, hdl, hdj⟩, hfm, hvs, hch, hls⟩))

theorem upd_fb {f : Nat → Int32} {fb : Nat → Nat} {k x : Nat} (h : ∀ i, i < 6 → f i = nI (fb i) ∧ fb i < 6) (hx : x < 6) : ∀ i, i < 6 → upd f k (nI x) i = nI (va_up fb k x i) ∧ va_up fb k x i < 6 := fun i hi => by
  unfold upd va_up
  split
  · exact ⟨rfl, hx⟩
  · exact h i hi
theorem nI_neq {g : Nat} (h : ¬ g = 0) (hg : g < 6) : ¬ nI g = nI 0 := fun q => h ((nI_eq (by omega) (by decide)).mp q)

set_option maxHeartbeats 4000000 in
set_option maxRecDepth 100000 in
theorem kX2_setFallback (l : Launch) (hl0 : l.stackTraces = false) (K : m_K) (A : Nat → Prop) (H0 : Heap) (o : Nat) (ad : Nat → Nat) (fb : Nat → Nat) (on fw : Nat → Int32) (dr : List Int32) (fm : Nat → Option Frm) (vs ch : Nat → Int32) (ps : List Pr) (hc9 : cOK K A H0 o ad fb on fw dr fm vs ch ps) (hA : ∀ q, H0.size ≤ q → A q) (x y : Int32) : vx_Met l yX2_setFallback wsX2_setFallback ({ frames := 7, cells := 4, slots := 24, locals := 104 } : Room) (m_Pc K A H0 [.ref o, .int x, .int y]) (va_Qi (fun r H1 => (okN x 6 ∧ okN y 6 ∧ ¬ x = nI 0) ∧ chP fb (tN x) 6 (tN y) 0 = none ∧ r = nI (fb (tN x)) ∧ cOK K A H1 o ad (va_up fb (tN x) (tN y)) on fw dr fm vs ch ps) m_B A) (m_X (fun E => (E = m_IO ∧ ¬ (okN x 6 ∧ okN y 6 ∧ ¬ x = nI 0)) ∨ (E = m_IA ∧ (okN x 6 ∧ okN y 6 ∧ ¬ x = nI 0) ∧ ¬ chP fb (tN x) 6 (tN y) 0 = none)) H0 A) 4 24 A := by
  refine m_ofX (by decide) rfl (Nat.le_of_ble_eq_true rfl) ?_
  intro p e s m args below meth c ls hx hb hr hml hown hts hlk hnm htab hE hsz hS hl
  have hl : lv_has ls 4 [(0, .ref o), (1, .int x), (2, .int y)] := hl
  obtain ⟨f, d, ft, li, T, hP, hD, hR⟩ := hc9
  obtain ⟨hfb, hon, hfw, hdr, hfm, hvs, hch, hls⟩ := id hR
  obtain ⟨hd9, hdl, hdj⟩ := hdr
  have iX2 : ∀ w ∈ wsX20, w ∈ wsX2_setFallback := by decide +kernel
  have f9 := hts (.fieldLink RX2 9 "PhraseCatalogue" "fallbacks" "[I") (by decide +kernel)
  have k69 := hts (.classLink RX2 69 m_IA) (by decide +kernel)
  have kk69 := hts (.initialized m_IA) (by decide +kernel)
  have kg69 : ∀ w ∈ (vx_atS RX2 73 m_IA m_RT).filter goodWord, w.before args s = true := fun w hw => hts w (m_gIA_X2_setFallback w hw)
  have k58 := hts (.classLink RX2 58 m_IO) (by decide +kernel)
  have kk58 := hts (.initialized m_IO) (by decide +kernel)
  have kg58 : ∀ w ∈ (vx_atS RX2 62 m_IO m_RT).filter goodWord, w.before args s = true := fun w hw => hts w (m_gIO_X2_setFallback w hw)
  refine lv_iload_n hx hb dX2_setFallback_0 rfl (lv_at hl 1 rfl) ?_
  refine m_xSv (rest := []) ⟨hx, hb, hml, hown, hts⟩ hE hS (fun _ h => h) (kX2_requireLanguage l hl0 K A H0 x) (va_cwS 1 hts gX2_setFallback_X2_requireLanguage rfl rfl rfl (by decide +kernel) ⟨Nat.le_of_ble_eq_true rfl, Nat.le_of_ble_eq_true rfl⟩) rfl rfl hl.1 rfl (Nat.le_of_ble_eq_true rfl) dX2_setFallback_1 ⟨Nat.le_of_ble_eq_true rfl, Nat.le_of_ble_eq_true rfl⟩ (fun E ce q9 H1 locs1 hx9 hs9 hS9 g1 g2 g3 => m_out htab hlk (Or.inl ⟨hx9.1, fun z => hx9.2 z.1⟩) hs9 hS9 g1 g2 g3 (Nat.le_of_ble_eq_true rfl) (Nat.le_of_ble_eq_true rfl)) (fun H1 locs hp hS hk => ?_)
  obtain ⟨rfl, h1⟩ := hp
  refine lv_iload_n hx hb dX2_setFallback_4 rfl (lv_at hl 2 rfl) ?_
  refine m_xSv (rest := []) ⟨hx, hb, hml, hown, hts⟩ hE hS (fun _ h => h) (kX2_requireLanguage l hl0 K A H0 y) (va_cwS 1 hts gX2_setFallback_X2_requireLanguage rfl rfl rfl (by decide +kernel) ⟨Nat.le_of_ble_eq_true rfl, Nat.le_of_ble_eq_true rfl⟩) rfl rfl hl.1 rfl (Nat.le_of_ble_eq_true rfl) dX2_setFallback_5 ⟨Nat.le_of_ble_eq_true rfl, Nat.le_of_ble_eq_true rfl⟩ (fun E ce q9 H1 locs1 hx9 hs9 hS9 g1 g2 g3 => m_out htab hlk (Or.inl ⟨hx9.1, fun z => hx9.2 z.2.1⟩) hs9 hS9 g1 g2 g3 (Nat.le_of_ble_eq_true rfl) (Nat.le_of_ble_eq_true rfl)) (fun H1 locs hp hS hk => ?_)
  obtain ⟨rfl, h2⟩ := hp
  obtain ⟨g, hk_g, rfl⟩ := okN_of h1 (by decide)
  obtain ⟨h9, hk_h9, rfl⟩ := okN_of h2 (by decide)
  have hl : lv_has ls 4 [(0, .ref o), (1, .int (nI g)), (2, .int (nI h9))] := hl
  refine lv_iload_n hx hb dX2_setFallback_8 rfl (lv_at hl 1 rfl) ?_
  refine m_if_ne (tgt := 22) hx hb (by omega) dX2_setFallback_9 (by decide) (fun c_9 => ?_) (fun c_9 => ?_)
  · refine lv_aload_n hx hb dX2_setFallback_22 rfl (lv_at hl 0 rfl) ?_
    refine lv_iload_n hx hb dX2_setFallback_23 rfl (lv_at hl 2 rfl) ?_
    refine lv_iload_n hx hb dX2_setFallback_24 rfl (lv_at hl 1 rfl) ?_
    refine m_cVi (rest := []) ⟨hx, hb, hml, hown, hts⟩ hE hS (fun _ h => h) (kX2_chainPlace l K A H0 o ad f d ft li T hP fb hfb h9 g hk_h9 hk_g) (cwV 2 hts gX2_setFallback_X2_chainPlace rfl rfl rfl (by decide +kernel) ⟨Nat.le_of_ble_eq_true rfl, Nat.le_of_ble_eq_true rfl⟩) (va_recv hE.k hP (ci := 3) (q0 := 0) rfl rfl) rfl rfl hl.1 rfl (Nat.le_of_ble_eq_true rfl) dX2_setFallback_25 ⟨Nat.le_of_ble_eq_true rfl, Nat.le_of_ble_eq_true rfl⟩ (fun r H1 locs hp hS hk => ?_)
    obtain ⟨rfl, rfl⟩ := hp
    refine lv_iconst (v := (-1)) hx hb dX2_setFallback_28 (by decide) ?_
    refine m_icmp_eq_o (tgt := 42) hx hb (fun z hz => Nat.lt_trans (chP_lt hz) (by decide)) dX2_setFallback_29 (by decide) (fun c_29 => ?_) (fun k_29 c_29 => ?_)
    · refine lv_aload_n hx hb dX2_setFallback_42 rfl (lv_at hl 0 rfl) ?_
      refine va_get (D := K.1) (ci := 3) (v := .ref (ad 0)) (C := RX2) (T := TX2) (N := 10) hx hb hts iX2 hown hE.k hP 0 rfl rfl 0 (by decide) f9 (fun _ h9 => h9) rfl dX2_setFallback_43 ?_
      refine lv_iload_n hx hb dX2_setFallback_46 rfl (lv_at hl 1 rfl) ?_
      refine m_iald hx hb hE.k hP 1 rfl (by omega) (by omega) ((hfb _ (by omega)).1) dX2_setFallback_47 ?_
      refine lv_istore_n (lv' := [(3, .int (nI (fb g))), (0, .ref o), (1, .int (nI g)), (2, .int (nI h9))]) hx hb dX2_setFallback_48 rfl hl (by decide) rfl (fun ls hl => ?_)
      refine lv_aload_n hx hb dX2_setFallback_49 rfl (lv_at hl 1 rfl) ?_
      refine va_get (D := K.1) (ci := 3) (v := .ref (ad 0)) (C := RX2) (T := TX2) (N := 10) hx hb hts iX2 hown hE.k hP 0 rfl rfl 0 (by decide) f9 (fun _ h9 => h9) rfl dX2_setFallback_50 ?_
      refine lv_iload_n hx hb dX2_setFallback_53 rfl (lv_at hl 2 rfl) ?_
      refine lv_iload_n hx hb dX2_setFallback_54 rfl (lv_at hl 3 rfl) ?_
      refine m_iast hx hb hE.k hP hD hS 1 rfl (by omega) (by omega) dX2_setFallback_55 (fun H locs hP hD hS => ?_)
      have hP : va_P K.1 vwCl (cW K o ad (va_up f 0 (upd (f 0) g (nI h9))) d ft li T) H := hP
      have hD : va_D A (cW K o ad (va_up f 0 (upd (f 0) g (nI h9))) d ft li T) := hD
      refine lv_iload_n hx hb dX2_setFallback_56 rfl (lv_at hl 0 rfl) ?_
      exact vx_ret (m_iret hx hb hr hlk hS (Nat.le_of_ble_eq_true rfl) (Nat.le_of_ble_eq_true rfl) dX2_setFallback_57 (⟨⟨h1, h2, nI_neq c_9 hk_g⟩, by rw [tN_nI (by omega), tN_nI (by omega)]; exact c_29, by rw [tN_nI (by omega)], _, d, ft, li, T, hP, hD, by rw [tN_nI (by omega), tN_nI (by omega)]; exact upd_fb hfb hk_h9, hon, hfw, ⟨hd9, hdl, hdj⟩, hfm, hvs, hch, hls⟩))
    · exact m_thrIA (is := 71) (text := "the chain would go round") hx hb hl0 hown hE k69 kk69 kg69 (by decide +kernel) hS m_same.rf (hl.1.trans hml.symm) dX2_setFallback_32 dX2_setFallback_35 dX2_setFallback_36 dX2_setFallback_38 dX2_setFallback_41 htab hlk (Nat.le_of_ble_eq_true rfl) (Nat.le_of_ble_eq_true rfl) (Nat.le_of_ble_eq_true rfl) (Nat.le_of_ble_eq_true rfl) (Or.inr ⟨rfl, ⟨h1, h2, nI_neq c_9 hk_g⟩, fun z => by rw [tN_nI (by omega), tN_nI (by omega), c_29] at z; cases z⟩) (Nat.le_of_ble_eq_true rfl) (Nat.le_of_ble_eq_true rfl)
  · exact m_thrIO (is := 60) (text := "the source falls back on no language") hx hb hl0 hown hE k58 kk58 kg58 (by decide +kernel) hS m_same.rf (hl.1.trans hml.symm) dX2_setFallback_12 dX2_setFallback_15 dX2_setFallback_16 dX2_setFallback_18 dX2_setFallback_21 htab hlk (Nat.le_of_ble_eq_true rfl) (Nat.le_of_ble_eq_true rfl) (Nat.le_of_ble_eq_true rfl) (Nat.le_of_ble_eq_true rfl) (Or.inl ⟨rfl, fun z => z.2.2 (by rw [c_9])⟩) (Nat.le_of_ble_eq_true rfl) (Nat.le_of_ble_eq_true rfl)

theorem snoc_get {f : Nat → Int32} {L : List Int32} {x : Int32} (h : ∀ j, j < L.length → f j = L.getD j 0) : ∀ j, j < (L ++ [x]).length → upd f L.length x j = (L ++ [x]).getD j 0 := fun j hj => by
  rw [List.length_append] at hj
  unfold upd
  split
  · rename_i e
    subst e
    simp
  · rename_i e
    have h2 : j < L.length := by simp at hj; omega
    rw [h j h2, List.getD_eq_getElem?_getD, List.getD_eq_getElem?_getD, List.getElem?_append_left h2]

set_option maxHeartbeats 4000000 in
set_option maxRecDepth 100000 in
theorem kX2_sign (l : Launch) (hl0 : l.stackTraces = false) (K : m_K) (A : Nat → Prop) (H0 : Heap) (o : Nat) (ad : Nat → Nat) (fb : Nat → Nat) (on fw : Nat → Int32) (dr : List Int32) (fm : Nat → Option Frm) (vs ch : Nat → Int32) (ps : List Pr) (hc9 : cOK K A H0 o ad fb on fw dr fm vs ch ps) (hA : ∀ q, H0.size ≤ q → A q) (x : Int32) : vx_Met l yX2_sign wsX2_sign ({ frames := 6, cells := 2, slots := 12, locals := 84 } : Room) (m_Pc K A H0 [.ref o, .int x]) (va_Qi (fun r H1 => (isWd x = true ∨ isPh x = true) ∧ dr.length < 8 ∧ r = nI (dr.length + 1) ∧ cOK K A H1 o ad fb on fw (dr ++ [x]) fm vs ch ps) m_B A) (m_X (fun E => (E = m_IA ∧ ¬ (isWd x = true ∨ isPh x = true)) ∨ (E = m_IS ∧ (isWd x = true ∨ isPh x = true) ∧ ¬ dr.length < 8)) H0 A) 2 12 A := by
  refine m_ofX (by decide) rfl (Nat.le_of_ble_eq_true rfl) ?_
  intro p e s m args below meth c ls hx hb hr hml hown hts hlk hnm htab hE hsz hS hl
  have hl : lv_has ls 2 [(0, .ref o), (1, .int x)] := hl
  obtain ⟨f, d, ft, li, T, hP, hD, hR⟩ := hc9
  obtain ⟨hfb, hon, hfw, ⟨rfl, hdl, hdj⟩, hfm, hvs, hch, hls⟩ := id hR
  have iX2 : ∀ w ∈ wsX20, w ∈ wsX2_sign := by decide +kernel
  have f28 := hts (.fieldLink RX2 28 "PhraseCatalogue" "draftLength" "I") (by decide +kernel)
  have f25 := hts (.fieldLink RX2 25 "PhraseCatalogue" "draftSigns" "[I") (by decide +kernel)
  have k86 := hts (.classLink RX2 86 m_IS) (by decide +kernel)
  have kk86 := hts (.initialized m_IS) (by decide +kernel)
  have kg86 : ∀ w ∈ (vx_atS RX2 90 m_IS m_RT).filter goodWord, w.before args s = true := fun w hw => hts w (m_gIS_X2_sign w hw)
  have k69 := hts (.classLink RX2 69 m_IA) (by decide +kernel)
  have kk69 := hts (.initialized m_IA) (by decide +kernel)
  have kg69 : ∀ w ∈ (vx_atS RX2 73 m_IA m_RT).filter goodWord, w.before args s = true := fun w hw => hts w (m_gIA_X2_sign w hw)
  refine lv_iload_n hx hb dX2_sign_0 rfl (lv_at hl 1 rfl) ?_
  refine m_cSi (rest := []) ⟨hx, hb, hml, hown, hts⟩ hE hS (fun _ h => h) (kX2_isWord l K A H0 x) (va_cwS 1 hts gX2_sign_X2_isWord rfl rfl rfl (by decide +kernel) ⟨Nat.le_of_ble_eq_true rfl, Nat.le_of_ble_eq_true rfl⟩) rfl rfl hl.1 rfl (Nat.le_of_ble_eq_true rfl) dX2_sign_1 ⟨Nat.le_of_ble_eq_true rfl, Nat.le_of_ble_eq_true rfl⟩ (fun r H1 locs hp hS hk => ?_)
  obtain ⟨rfl, rfl⟩ := hp
  refine m_if_ne_b (tgt := 24) hx hb dX2_sign_4 (by decide) (fun c_4 => ?_) (fun c_4 => ?_)
  · refine lv_aload_n hx hb dX2_sign_24 rfl (lv_at hl 0 rfl) ?_
    refine va_get (D := K.1) (ci := 3) (v := .int (nI dr.length)) (C := RX2) (T := TX2) (N := 10) hx hb hts iX2 hown hE.k hP 0 rfl rfl 4 (by decide) f28 (fun _ h9 => h9) rfl dX2_sign_25 ?_
    refine lv_bipush (v := nI 8) hx hb dX2_sign_28 (by decide) ?_
    refine m_icmp_lt (tgt := 43) hx hb (by omega) (by omega) dX2_sign_30 (by decide) (fun c_30 => ?_) (fun c_30 => ?_)
    · refine lv_aload_n hx hb dX2_sign_43 rfl (lv_at hl 0 rfl) ?_
      refine va_get (D := K.1) (ci := 3) (v := .ref (ad 3)) (C := RX2) (T := TX2) (N := 10) hx hb hts iX2 hown hE.k hP 0 rfl rfl 3 (by decide) f25 (fun _ h9 => h9) rfl dX2_sign_44 ?_
      refine lv_aload_n hx hb dX2_sign_47 rfl (lv_at hl 0 rfl) ?_
      refine va_get (D := K.1) (ci := 3) (v := .int (nI dr.length)) (C := RX2) (T := TX2) (N := 10) hx hb hts iX2 hown hE.k hP 0 rfl rfl 4 (by decide) f28 (fun _ h9 => h9) rfl dX2_sign_48 ?_
      refine lv_iload_n hx hb dX2_sign_51 rfl (lv_at hl 1 rfl) ?_
      refine m_iast hx hb hE.k hP hD hS 4 rfl (by omega) (by omega) dX2_sign_52 (fun H locs hP hD hS => ?_)
      have hP : va_P K.1 vwCl (cW K o ad (va_up f 3 (upd (f 3) dr.length x)) (nI dr.length) ft li T) H := hP
      have hD : va_D A (cW K o ad (va_up f 3 (upd (f 3) dr.length x)) (nI dr.length) ft li T) := hD
      refine lv_aload_n hx hb dX2_sign_53 rfl (lv_at hl 0 rfl) ?_
      refine lv_dup hx hb dX2_sign_54 rfl ?_
      refine va_get (D := K.1) (ci := 3) (v := .int (nI dr.length)) (C := RX2) (T := TX2) (N := 10) hx hb hts iX2 hown hE.k hP 0 rfl rfl 4 (by decide) f28 (fun _ h9 => h9) rfl dX2_sign_55 ?_
      refine lv_iconst (v := nI 1) hx hb dX2_sign_58 (by decide) ?_
      refine m_iadd hx hb dX2_sign_59 ?_
      refine va_put (D := K.1) (ci := 3) (v := .int (nI (dr.length + 1))) (ty := .int) (C := RX2) (T := TX2) (N := 10) hx hb hts iX2 tyX2 tyX2_ok nmX2 hown hE.k hP hD hS 0 rfl rfl 4 (by decide) f28 (fun _ h9 => h9) rfl (by decide +kernel) rfl rfl (Nat.le_of_ble_eq_true rfl) dX2_sign_60 (fun H locs hP hD hS => ?_)
      have hP : va_P K.1 vwCl (cW K o ad (va_up f 3 (upd (f 3) dr.length x)) (nI (dr.length + 1)) ft li T) H := hP
      have hD : va_D A (cW K o ad (va_up f 3 (upd (f 3) dr.length x)) (nI (dr.length + 1)) ft li T) := hD
      refine lv_aload_n hx hb dX2_sign_63 rfl (lv_at hl 0 rfl) ?_
      refine va_get (D := K.1) (ci := 3) (v := .int (nI (dr.length + 1))) (C := RX2) (T := TX2) (N := 10) hx hb hts iX2 hown hE.k hP 0 rfl rfl 4 (by decide) f28 (fun _ h9 => h9) rfl dX2_sign_64 ?_
      exact vx_ret (m_iret hx hb hr hlk hS (Nat.le_of_ble_eq_true rfl) (Nat.le_of_ble_eq_true rfl) dX2_sign_67 (⟨Or.inl c_4, c_30, rfl, _, _, ft, li, T, hP, hD, hfb, hon, hfw, ⟨by simp, by simp; omega, snoc_get hdj⟩, hfm, hvs, hch, hls⟩))
    · exact m_thrIS (is := 88) (text := "the draft is full") hx hb hl0 hown hE k86 kk86 kg86 (by decide +kernel) hS m_same.rf (hl.1.trans hml.symm) dX2_sign_33 dX2_sign_36 dX2_sign_37 dX2_sign_39 dX2_sign_42 htab hlk (Nat.le_of_ble_eq_true rfl) (Nat.le_of_ble_eq_true rfl) (Nat.le_of_ble_eq_true rfl) (Nat.le_of_ble_eq_true rfl) (Or.inr ⟨rfl, Or.inl c_4, c_30⟩) (Nat.le_of_ble_eq_true rfl) (Nat.le_of_ble_eq_true rfl)
  · refine lv_iload_n hx hb dX2_sign_7 rfl (lv_at hl 1 rfl) ?_
    refine m_cSi (rest := []) ⟨hx, hb, hml, hown, hts⟩ hE hS (fun _ h => h) (kX2_isPlaceholder l K A H0 x) (va_cwS 1 hts gX2_sign_X2_isPlaceholder rfl rfl rfl (by decide +kernel) ⟨Nat.le_of_ble_eq_true rfl, Nat.le_of_ble_eq_true rfl⟩) rfl rfl hl.1 rfl (Nat.le_of_ble_eq_true rfl) dX2_sign_8 ⟨Nat.le_of_ble_eq_true rfl, Nat.le_of_ble_eq_true rfl⟩ (fun r H1 locs hp hS hk => ?_)
    obtain ⟨rfl, rfl⟩ := hp
    refine m_if_ne_b (tgt := 24) hx hb dX2_sign_11 (by decide) (fun c_11 => ?_) (fun c_11 => ?_)
    · refine lv_aload_n hx hb dX2_sign_24 rfl (lv_at hl 0 rfl) ?_
      refine va_get (D := K.1) (ci := 3) (v := .int (nI dr.length)) (C := RX2) (T := TX2) (N := 10) hx hb hts iX2 hown hE.k hP 0 rfl rfl 4 (by decide) f28 (fun _ h9 => h9) rfl dX2_sign_25 ?_
      refine lv_bipush (v := nI 8) hx hb dX2_sign_28 (by decide) ?_
      refine m_icmp_lt (tgt := 43) hx hb (by omega) (by omega) dX2_sign_30 (by decide) (fun c_30 => ?_) (fun c_30 => ?_)
      · refine lv_aload_n hx hb dX2_sign_43 rfl (lv_at hl 0 rfl) ?_
        refine va_get (D := K.1) (ci := 3) (v := .ref (ad 3)) (C := RX2) (T := TX2) (N := 10) hx hb hts iX2 hown hE.k hP 0 rfl rfl 3 (by decide) f25 (fun _ h9 => h9) rfl dX2_sign_44 ?_
        refine lv_aload_n hx hb dX2_sign_47 rfl (lv_at hl 0 rfl) ?_
        refine va_get (D := K.1) (ci := 3) (v := .int (nI dr.length)) (C := RX2) (T := TX2) (N := 10) hx hb hts iX2 hown hE.k hP 0 rfl rfl 4 (by decide) f28 (fun _ h9 => h9) rfl dX2_sign_48 ?_
        refine lv_iload_n hx hb dX2_sign_51 rfl (lv_at hl 1 rfl) ?_
        refine m_iast hx hb hE.k hP hD hS 4 rfl (by omega) (by omega) dX2_sign_52 (fun H locs hP hD hS => ?_)
        have hP : va_P K.1 vwCl (cW K o ad (va_up f 3 (upd (f 3) dr.length x)) (nI dr.length) ft li T) H := hP
        have hD : va_D A (cW K o ad (va_up f 3 (upd (f 3) dr.length x)) (nI dr.length) ft li T) := hD
        refine lv_aload_n hx hb dX2_sign_53 rfl (lv_at hl 0 rfl) ?_
        refine lv_dup hx hb dX2_sign_54 rfl ?_
        refine va_get (D := K.1) (ci := 3) (v := .int (nI dr.length)) (C := RX2) (T := TX2) (N := 10) hx hb hts iX2 hown hE.k hP 0 rfl rfl 4 (by decide) f28 (fun _ h9 => h9) rfl dX2_sign_55 ?_
        refine lv_iconst (v := nI 1) hx hb dX2_sign_58 (by decide) ?_
        refine m_iadd hx hb dX2_sign_59 ?_
        refine va_put (D := K.1) (ci := 3) (v := .int (nI (dr.length + 1))) (ty := .int) (C := RX2) (T := TX2) (N := 10) hx hb hts iX2 tyX2 tyX2_ok nmX2 hown hE.k hP hD hS 0 rfl rfl 4 (by decide) f28 (fun _ h9 => h9) rfl (by decide +kernel) rfl rfl (Nat.le_of_ble_eq_true rfl) dX2_sign_60 (fun H locs hP hD hS => ?_)
        have hP : va_P K.1 vwCl (cW K o ad (va_up f 3 (upd (f 3) dr.length x)) (nI (dr.length + 1)) ft li T) H := hP
        have hD : va_D A (cW K o ad (va_up f 3 (upd (f 3) dr.length x)) (nI (dr.length + 1)) ft li T) := hD
        refine lv_aload_n hx hb dX2_sign_63 rfl (lv_at hl 0 rfl) ?_
        refine va_get (D := K.1) (ci := 3) (v := .int (nI (dr.length + 1))) (C := RX2) (T := TX2) (N := 10) hx hb hts iX2 hown hE.k hP 0 rfl rfl 4 (by decide) f28 (fun _ h9 => h9) rfl dX2_sign_64 ?_
        exact vx_ret (m_iret hx hb hr hlk hS (Nat.le_of_ble_eq_true rfl) (Nat.le_of_ble_eq_true rfl) dX2_sign_67 (⟨Or.inr c_11, c_30, rfl, _, _, ft, li, T, hP, hD, hfb, hon, hfw, ⟨by simp, by simp; omega, snoc_get hdj⟩, hfm, hvs, hch, hls⟩))
      · exact m_thrIS (is := 88) (text := "the draft is full") hx hb hl0 hown hE k86 kk86 kg86 (by decide +kernel) hS m_same.rf (hl.1.trans hml.symm) dX2_sign_33 dX2_sign_36 dX2_sign_37 dX2_sign_39 dX2_sign_42 htab hlk (Nat.le_of_ble_eq_true rfl) (Nat.le_of_ble_eq_true rfl) (Nat.le_of_ble_eq_true rfl) (Nat.le_of_ble_eq_true rfl) (Or.inr ⟨rfl, Or.inr c_11, c_30⟩) (Nat.le_of_ble_eq_true rfl) (Nat.le_of_ble_eq_true rfl)
    · exact m_thrIA (is := 84) (text := "there is no such sign") hx hb hl0 hown hE k69 kk69 kg69 (by decide +kernel) hS m_same.rf (hl.1.trans hml.symm) dX2_sign_14 dX2_sign_17 dX2_sign_18 dX2_sign_20 dX2_sign_23 htab hlk (Nat.le_of_ble_eq_true rfl) (Nat.le_of_ble_eq_true rfl) (Nat.le_of_ble_eq_true rfl) (Nat.le_of_ble_eq_true rfl) (Or.inl ⟨rfl, fun z => by rw [c_4, c_11] at z; simp at z⟩) (Nat.le_of_ble_eq_true rfl) (Nat.le_of_ble_eq_true rfl)

set_option maxHeartbeats 4000000 in
set_option maxRecDepth 100000 in
theorem kX2_set (l : Launch) (hl0 : l.stackTraces = false) (K : m_K) (A : Nat → Prop) (H0 : Heap) (o : Nat) (ad : Nat → Nat) (fb : Nat → Nat) (on fw : Nat → Int32) (dr : List Int32) (fm : Nat → Option Frm) (vs ch : Nat → Int32) (ps : List Pr) (hc9 : cOK K A H0 o ad fb on fw dr fm vs ch ps) (hA : ∀ q, H0.size ≤ q → A q) (x y z w : Int32) (b : Bool) : vx_Met l yX2_set wsX2_set ({ frames := 10, cells := 18, slots := 220, locals := 244 } : Room) (m_Pc K A H0 [.ref o, .int x, .int y, .int z, .int w, .int (bI b)]) (va_Qi (fun r H1 => okF x y z w ∧ 0 < dr.length ∧ r = vsC vs (tN x) (tN y) (tN x) ∧ cOK K A H1 o ad fb on fw [] (va_up fm (54 * tN x + 9 * tN y + 3 * tN z + tN w) (some (dr, b))) (vsC vs (tN x) (tN y)) (chC ch vs (tN x) (tN y)) (psC fm ps (tN x) (tN y) (3 * tN z + tN w))) m_B A) (m_X (fun E => (E = m_IO ∧ ¬ okF x y z w) ∨ (E = m_IS ∧ okF x y z w ∧ ¬ 0 < dr.length)) H0 A) 18 220 A := by
  refine m_ofX (by decide) rfl (Nat.le_of_ble_eq_true rfl) ?_
  intro p e s m args below meth c ls hx hb hr hml hown hts hlk hnm htab hE hsz hS hl
  have hl : lv_has ls 7 [(0, .ref o), (1, .int x), (2, .int y), (3, .int z), (4, .int w), (5, .int (bI b))] := hl
  obtain ⟨f, d, ft, li, T, hP, hD, hR⟩ := hc9
  obtain ⟨hfb, hon, hfw, ⟨rfl, hdl, hdj⟩, hfm, hvs, hch, hls⟩ := id hR
  have hA0 : ∀ q, s.heap.size ≤ q → A q := fun q h => hA q (by rw [← hsz]; exact h)
  have iX2 : ∀ w ∈ wsX20, w ∈ wsX2_set := by decide +kernel
  have f28 := hts (.fieldLink RX2 28 "PhraseCatalogue" "draftLength" "I") (by decide +kernel)
  have f25 := hts (.fieldLink RX2 25 "PhraseCatalogue" "draftSigns" "[I") (by decide +kernel)
  have iX0 : ∀ w ∈ wsX00, w ∈ wsX2_set := by decide +kernel
  have cl32 := hts (.classLink RX2 32 RX0) (by decide +kernel)
  have inX0 := hts (.instantiable RX0 3) (by decide +kernel)
  have niX0 := hts (.initialized RX0) (by decide +kernel)
  have x105 := hts (.methodLink RX2 105 yX0_init) (by decide +kernel)
  have zX0_init := hts (.instanceMethod yX0_init) (by decide +kernel)
  have nRX0 := hts (.initialized RX0) (by decide +kernel)
  have f38 := hts (.fieldLink RX2 38 "PhraseCatalogue" "sourceVersions" "[I") (by decide +kernel)
  have k86 := hts (.classLink RX2 86 m_IS) (by decide +kernel)
  have kk86 := hts (.initialized m_IS) (by decide +kernel)
  have kg86 : ∀ w ∈ (vx_atS RX2 90 m_IS m_RT).filter goodWord, w.before args s = true := fun w hw => hts w (m_gIS_X2_set w hw)
  refine lv_iload_n hx hb dX2_set_0 rfl (lv_at hl 1 rfl) ?_
  refine lv_iload_n hx hb dX2_set_1 rfl (lv_at hl 2 rfl) ?_
  refine lv_iload_n hx hb dX2_set_2 rfl (lv_at hl 3 rfl) ?_
  refine lv_iload hx hb dX2_set_3 (lv_at hl 4 rfl) ?_
  refine m_xSv (rest := []) ⟨hx, hb, hml, hown, hts⟩ hE hS (fun _ h => h) (kX2_requireForm l hl0 K A H0 x y z w) (va_cwS 4 hts gX2_set_X2_requireForm rfl rfl rfl (by decide +kernel) ⟨Nat.le_of_ble_eq_true rfl, Nat.le_of_ble_eq_true rfl⟩) rfl rfl hl.1 rfl (Nat.le_of_ble_eq_true rfl) dX2_set_5 ⟨Nat.le_of_ble_eq_true rfl, Nat.le_of_ble_eq_true rfl⟩ (fun E ce q9 H1 locs1 hx9 hs9 hS9 g1 g2 g3 => m_out htab hlk (Or.inl hx9) hs9 hS9 g1 g2 g3 (Nat.le_of_ble_eq_true rfl) (Nat.le_of_ble_eq_true rfl)) (fun H1 locs hp hS hk => ?_)
  obtain ⟨rfl, h1⟩ := hp
  obtain ⟨k, hk_k, rfl⟩ := okN_of h1.1 (by decide)
  obtain ⟨g, hk_g, rfl⟩ := okN_of h1.2.1 (by decide)
  obtain ⟨i, hk_i, rfl⟩ := okN_of h1.2.2.1 (by decide)
  obtain ⟨u, hk_u, rfl⟩ := okN_of h1.2.2.2 (by decide)
  have hl : lv_has ls 7 [(0, .ref o), (1, .int (nI k)), (2, .int (nI g)), (3, .int (nI i)), (4, .int (nI u)), (5, .int (bI b))] := hl
  refine lv_aload_n hx hb dX2_set_8 rfl (lv_at hl 0 rfl) ?_
  refine va_get (D := K.1) (ci := 3) (v := .int (nI dr.length)) (C := RX2) (T := TX2) (N := 10) hx hb hts iX2 hown hE.k hP 0 rfl rfl 4 (by decide) f28 (fun _ h9 => h9) rfl dX2_set_9 ?_
  refine m_if_gt (tgt := 25) hx hb (by omega) dX2_set_12 (by decide) (fun c_12 => ?_) (fun c_12 => ?_)
  · refine lv_aload_n hx hb dX2_set_25 rfl (lv_at hl 0 rfl) ?_
    refine va_get (D := K.1) (ci := 3) (v := .ref (ad 3)) (C := RX2) (T := TX2) (N := 10) hx hb hts iX2 hown hE.k hP 0 rfl rfl 3 (by decide) f25 (fun _ h9 => h9) rfl dX2_set_26 ?_
    refine lv_aload_n hx hb dX2_set_29 rfl (lv_at hl 0 rfl) ?_
    refine va_get (D := K.1) (ci := 3) (v := .int (nI dr.length)) (C := RX2) (T := TX2) (N := 10) hx hb hts iX2 hown hE.k hP 0 rfl rfl 4 (by decide) f28 (fun _ h9 => h9) rfl dX2_set_30 ?_
    refine m_cSq (rest := []) ⟨hx, hb, hml, hown, hts⟩ hE hS (fun _ h => h) (kJ7_copyOf_59c91 l K A H0 _ hP hD hA 4 (ad 3) 8 dr.length (f 3) rfl hdl (by decide)) (va_cwS 2 hts gX2_set_J7_copyOf_59c91 rfl rfl rfl (by decide +kernel) ⟨Nat.le_of_ble_eq_true rfl, Nat.le_of_ble_eq_true rfl⟩) rfl rfl hl.1 rfl (Nat.le_of_ble_eq_true rfl) dX2_set_33 ⟨Nat.le_of_ble_eq_true rfl, Nat.le_of_ble_eq_true rfl⟩ (fun r H locs hp hS hk => ?_)
    obtain ⟨q5, g5, rfl, hP, hD, hg5⟩ := hp
    clear hk
    have hP : va_P K.1 vwCl (cW K o ad f (nI dr.length) ft li ((T ++ ([(q5, .inl (K.2.1 0, dr.length, .inl g5))] : va_W)) : va_W)) H := hP
    have hD : va_D A (cW K o ad f (nI dr.length) ft li ((T ++ ([(q5, .inl (K.2.1 0, dr.length, .inl g5))] : va_W)) : va_W)) := hD
    refine lv_astore (lv' := [(6, .ref q5), (0, .ref o), (1, .int (nI k)), (2, .int (nI g)), (3, .int (nI i)), (4, .int (nI u)), (5, .int (bI b))]) hx hb dX2_set_36 hl (by decide) rfl (fun ls hl => ?_)
    refine lv_aload_n hx hb dX2_set_38 rfl (lv_at hl 1 rfl) ?_
    refine lv_iconst (v := nI 0) hx hb dX2_set_39 (by decide) ?_
    refine va_put (D := K.1) (ci := 3) (v := .int (nI 0)) (ty := .int) (C := RX2) (T := TX2) (N := 10) hx hb hts iX2 tyX2 tyX2_ok nmX2 hown hE.k hP hD hS 0 rfl rfl 4 (by decide) f28 (fun _ h9 => h9) rfl (by decide +kernel) rfl rfl (Nat.le_of_ble_eq_true rfl) dX2_set_40 (fun H locs hP hD hS => ?_)
    have hP : va_P K.1 vwCl (cW K o ad f (nI 0) ft li ((T ++ ([(q5, .inl (K.2.1 0, dr.length, .inl g5))] : va_W)) : va_W)) H := hP
    have hD : va_D A (cW K o ad f (nI 0) ft li ((T ++ ([(q5, .inl (K.2.1 0, dr.length, .inl g5))] : va_W)) : va_W)) := hD
    refine lv_aload_n hx hb dX2_set_43 rfl (lv_at hl 1 rfl) ?_
    refine lv_iload_n hx hb dX2_set_44 rfl (lv_at hl 2 rfl) ?_
    refine lv_iload_n hx hb dX2_set_45 rfl (lv_at hl 3 rfl) ?_
    refine lv_iload_n hx hb dX2_set_46 rfl (lv_at hl 4 rfl) ?_
    refine lv_iload hx hb dX2_set_47 (lv_at hl 5 rfl) ?_
    refine va_new (ci := 1) (fs := [.null, .int 0, .int 0]) (C := RX0) (T := TX0) (N := 3) hx hb hts iX0 tyX0 tyX0_ok hown cl32 inX0 niX0 hE.k hP hD hS hA0 rfl (fun j hj => by rcases (show j = 0 ∨ j = 1 ∨ j = 2 by omega) with rfl | rfl | rfl <;> rfl) (Nat.le_of_ble_eq_true rfl) (Nat.le_of_ble_eq_true rfl) dX2_set_49 (fun q6 H hP hD hS => ?_)
    have hP : va_P K.1 vwCl (cW K o ad f (nI 0) ft li ((((T ++ ([(q5, .inl (K.2.1 0, dr.length, .inl g5))] : va_W)) : va_W) ++ ([(q6, .inr (1, [.null, .int 0, .int 0]))] : va_W)) : va_W)) H := hP
    have hD : va_D A (cW K o ad f (nI 0) ft li ((((T ++ ([(q5, .inl (K.2.1 0, dr.length, .inl g5))] : va_W)) : va_W) ++ ([(q6, .inr (1, [.null, .int 0, .int 0]))] : va_W)) : va_W)) := hD
    refine lv_dup hx hb dX2_set_52 rfl ?_
    refine lv_aload hx hb dX2_set_53 (lv_at hl 0 rfl) ?_
    refine lv_iload hx hb dX2_set_55 (lv_at hl 6 rfl) ?_
    refine lv_aload hx hb dX2_set_57 (lv_at hl 0 rfl) ?_
    refine m_cSi9 (rest := [.int (bI b), .ref q5, .ref q6, .ref q6, .int (nI u), .int (nI i), .int (nI g), .int (nI k), .ref o]) ⟨hx, hb, hml, hown, hts⟩ hE hS (fun _ h => h) (kX2_placeholdersOf l K A _ _ hP (T.length + 10) q5 dr g5 (cW_t (m_apl m_apr)) (fun j hj => (hg5 j hj).trans (hdj j hj)) hdl) (va_cwS 1 hts gX2_set_X2_placeholdersOf rfl rfl rfl (by decide +kernel) ⟨Nat.le_of_ble_eq_true rfl, Nat.le_of_ble_eq_true rfl⟩) (Nat.le_of_ble_eq_true rfl) rfl rfl hl.1 rfl (Nat.le_of_ble_eq_true rfl) dX2_set_59 ⟨Nat.le_of_ble_eq_true rfl, Nat.le_of_ble_eq_true rfl⟩ (fun r H1 locs hp hS hk => ?_)
    obtain ⟨rfl, rfl⟩ := hp
    refine m_cIv (rest := [.ref q6, .int (nI u), .int (nI i), .int (nI g), .int (nI k), .ref o]) ⟨hx, hb, hml, hown, hts⟩ hE hS (fun x hx => by rw [hx]; exact hD.2 _ _ (cW_t m_apr)) (kX0_init l K (fun x => x = q6) _ q6 q5 b (pb dr) (m_sing hP (cW_t m_apr)) m_one) (cwI 3 hts gX2_set_X0_init rfl rfl rfl nRX0 x105 zX0_init rfl (by decide +kernel) ⟨Nat.le_of_ble_eq_true rfl, Nat.le_of_ble_eq_true rfl⟩) rfl rfl hl.1 rfl (Nat.le_of_ble_eq_true rfl) dX2_set_62 ⟨Nat.le_of_ble_eq_true rfl, Nat.le_of_ble_eq_true rfl⟩ (fun H1 locs hp hS hk => ?_)
    obtain ⟨hP, hD⟩ := m_upd1 hP hD (cW_t m_apr) hk hp
    clear hp hk
    generalize H1 = H at hP hS ⊢
    have hP : va_P K.1 vwCl (cW K o ad f (nI 0) ft li (((((T ++ ([(q5, .inl (K.2.1 0, dr.length, .inl g5))] : va_W)) : va_W) ++ ([(q6, .inr (1, [.null, .int 0, .int 0]))] : va_W)) : va_W).set (((T ++ ([(q5, .inl (K.2.1 0, dr.length, .inl g5))] : va_W)) : va_W).length) (q6, .inr (1, [.ref q5, .int (bI b), .int (pb dr)])))) H := hP
    have hD : va_D A (cW K o ad f (nI 0) ft li (((((T ++ ([(q5, .inl (K.2.1 0, dr.length, .inl g5))] : va_W)) : va_W) ++ ([(q6, .inr (1, [.null, .int 0, .int 0]))] : va_W)) : va_W).set (((T ++ ([(q5, .inl (K.2.1 0, dr.length, .inl g5))] : va_W)) : va_W).length) (q6, .inr (1, [.ref q5, .int (bI b), .int (pb dr)])))) := hD
    have hA2 : ∀ q, H.size ≤ q → A q := fun q h => hA0 q (Nat.le_trans hS.1 h)
    have hX2 : Ext T (((((T ++ ([(q5, .inl (K.2.1 0, dr.length, .inl g5))] : va_W)) : va_W) ++ ([(q6, .inr (1, [.null, .int 0, .int 0]))] : va_W)) : va_W).set (((T ++ ([(q5, .inl (K.2.1 0, dr.length, .inl g5))] : va_W)) : va_W).length) (q6, .inr (1, [.ref q5, .int (bI b), .int (pb dr)]))) := Ext.push.trans Ext.pushset
    have hF2 : FormAt K (((((T ++ ([(q5, .inl (K.2.1 0, dr.length, .inl g5))] : va_W)) : va_W) ++ ([(q6, .inr (1, [.null, .int 0, .int 0]))] : va_W)) : va_W).set (((T ++ ([(q5, .inl (K.2.1 0, dr.length, .inl g5))] : va_W)) : va_W).length) (q6, .inr (1, [.ref q5, .int (bI b), .int (pb dr)]))) q6 (dr, b) := ⟨((T ++ ([(q5, .inl (K.2.1 0, dr.length, .inl g5))] : va_W)) : va_W).length, q5, T.length, g5, (m_sets m_apr), (m_setn m_apr (m_apl m_apr) (fun z => by cases z)), fun j hj => (hg5 j hj).trans (hdj j hj), by show 1 ≤ dr.length; omega, hdl⟩
    refine m_cVv (rest := []) ⟨hx, hb, hml, hown, hts⟩ hE hS (fun _ h => h) (kX2_change l K A H o ad f (nI 0) ft li (((((T ++ ([(q5, .inl (K.2.1 0, dr.length, .inl g5))] : va_W)) : va_W) ++ ([(q6, .inr (1, [.null, .int 0, .int 0]))] : va_W)) : va_W).set (((T ++ ([(q5, .inl (K.2.1 0, dr.length, .inl g5))] : va_W)) : va_W).length) (q6, .inr (1, [.ref q5, .int (bI b), .int (pb dr)]))) hP hD hA2 fm (fun n hn => (hfm n hn).ext hX2) ps hls.push.pushset k g i u hk_k hk_g hk_i hk_u (some q6) (some (dr, b)) ⟨q6, rfl, hF2⟩) (cwV 5 hts gX2_set_X2_change rfl rfl rfl (by decide +kernel) ⟨Nat.le_of_ble_eq_true rfl, Nat.le_of_ble_eq_true rfl⟩) (va_recv hE.k hP (ci := 3) (q0 := 0) rfl rfl) rfl rfl hl.1 rfl (Nat.le_of_ble_eq_true rfl) dX2_set_65 ⟨Nat.le_of_ble_eq_true rfl, Nat.le_of_ble_eq_true rfl⟩ (fun H locs hp hS hk => ?_)
    obtain ⟨f', li', T', hP, hD, hX3, hls', hf'⟩ := hp
    have hR' := cRep_change hR hk_k hk_g hk_i hk_u (hX2.trans hX3) (FOpt.ext (fo := some (dr, b)) ⟨q6, rfl, hF2⟩ hX3) hls' (nI 0) (dr' := []) ⟨rfl, by decide, fun j hj => absurd hj (Nat.not_lt_zero j)⟩ hf'
    refine lv_aload_n hx hb dX2_set_68 rfl (lv_at hl 1 rfl) ?_
    refine va_get (D := K.1) (ci := 3) (v := .ref (ad 6)) (C := RX2) (T := TX2) (N := 10) hx hb hts iX2 hown hE.k hP 0 rfl rfl 6 (by decide) f38 (fun _ h9 => h9) rfl dX2_set_69 ?_
    refine lv_iload_n hx hb dX2_set_72 rfl (lv_at hl 2 rfl) ?_
    refine m_iald hx hb hE.k hP 6 rfl (by omega) (by omega) rfl dX2_set_73 ?_
    exact vx_ret (m_iret hx hb hr hlk hS (Nat.le_of_ble_eq_true rfl) (Nat.le_of_ble_eq_true rfl) dX2_set_74 (⟨h1, c_12, by rw [tN_nI (by omega), tN_nI (by omega)]; exact hR'.2.2.2.2.2.1 k hk_k, _, _, _, _, _, hP, hD, by rw [tN_nI (by omega), tN_nI (by omega), tN_nI (by omega), tN_nI (by omega)]; exact hR'⟩))
  · exact m_thrIS (is := 95) (text := "the draft is empty") hx hb hl0 hown hE k86 kk86 kg86 (by decide +kernel) hS m_same.rf (hl.1.trans hml.symm) dX2_set_15 dX2_set_18 dX2_set_19 dX2_set_21 dX2_set_24 htab hlk (Nat.le_of_ble_eq_true rfl) (Nat.le_of_ble_eq_true rfl) (Nat.le_of_ble_eq_true rfl) (Nat.le_of_ble_eq_true rfl) (Or.inr ⟨rfl, h1, c_12⟩) (Nat.le_of_ble_eq_true rfl) (Nat.le_of_ble_eq_true rfl)

set_option maxHeartbeats 4000000 in
set_option maxRecDepth 100000 in
theorem kX2_remove (l : Launch) (hl0 : l.stackTraces = false) (K : m_K) (A : Nat → Prop) (H0 : Heap) (o : Nat) (ad : Nat → Nat) (fb : Nat → Nat) (on fw : Nat → Int32) (dr : List Int32) (fm : Nat → Option Frm) (vs ch : Nat → Int32) (ps : List Pr) (hc9 : cOK K A H0 o ad fb on fw dr fm vs ch ps) (hA : ∀ q, H0.size ≤ q → A q) (x y z w : Int32) : vx_Met l yX2_remove wsX2_remove ({ frames := 10, cells := 16, slots := 170, locals := 244 } : Room) (m_Pc K A H0 [.ref o, .int x, .int y, .int z, .int w]) (va_Qi (fun r H1 => okF x y z w ∧ ¬ fm (54 * tN x + 9 * tN y + 3 * tN z + tN w) = none ∧ r = nI (lenF (fm (54 * tN x + 9 * tN y + 3 * tN z + tN w))) ∧ cOK K A H1 o ad fb on fw dr (va_up fm (54 * tN x + 9 * tN y + 3 * tN z + tN w) none) (vsC vs (tN x) (tN y)) (chC ch vs (tN x) (tN y)) (psC fm ps (tN x) (tN y) (3 * tN z + tN w))) m_B A) (m_X (fun E => (E = m_IO ∧ ¬ okF x y z w) ∨ (E = m_IS ∧ okF x y z w ∧ fm (54 * tN x + 9 * tN y + 3 * tN z + tN w) = none)) H0 A) 16 170 A := by
  refine m_ofX (by decide) rfl (Nat.le_of_ble_eq_true rfl) ?_
  intro p e s m args below meth c ls hx hb hr hml hown hts hlk hnm htab hE hsz hS hl
  have hl : lv_has ls 6 [(0, .ref o), (1, .int x), (2, .int y), (3, .int z), (4, .int w)] := hl
  obtain ⟨f, d, ft, li, T, hP, hD, hR⟩ := hc9
  obtain ⟨hfb, hon, hfw, hdr, hfm, hvs, hch, hls⟩ := id hR
  obtain ⟨hd9, hdl, hdj⟩ := hdr
  have hA0 : ∀ q, s.heap.size ≤ q → A q := fun q h => hA q (by rw [← hsz]; exact h)
  have iX2 : ∀ w ∈ wsX20, w ∈ wsX2_remove := by decide +kernel
  have f34 := hts (.fieldLink RX2 34 "PhraseCatalogue" "formTable" "[LPhraseCatalogue$Form;") (by decide +kernel)
  have iX0 : ∀ w ∈ wsX00, w ∈ wsX2_remove := by decide +kernel
  have f118 := hts (.fieldLink RX2 118 "PhraseCatalogue$Form" "signs" "[I") (by decide +kernel)
  have k86 := hts (.classLink RX2 86 m_IS) (by decide +kernel)
  have kk86 := hts (.initialized m_IS) (by decide +kernel)
  have kg86 : ∀ w ∈ (vx_atS RX2 90 m_IS m_RT).filter goodWord, w.before args s = true := fun w hw => hts w (m_gIS_X2_remove w hw)
  refine lv_iload_n hx hb dX2_remove_0 rfl (lv_at hl 1 rfl) ?_
  refine lv_iload_n hx hb dX2_remove_1 rfl (lv_at hl 2 rfl) ?_
  refine lv_iload_n hx hb dX2_remove_2 rfl (lv_at hl 3 rfl) ?_
  refine lv_iload hx hb dX2_remove_3 (lv_at hl 4 rfl) ?_
  refine m_xSv (rest := []) ⟨hx, hb, hml, hown, hts⟩ hE hS (fun _ h => h) (kX2_requireForm l hl0 K A H0 x y z w) (va_cwS 4 hts gX2_remove_X2_requireForm rfl rfl rfl (by decide +kernel) ⟨Nat.le_of_ble_eq_true rfl, Nat.le_of_ble_eq_true rfl⟩) rfl rfl hl.1 rfl (Nat.le_of_ble_eq_true rfl) dX2_remove_5 ⟨Nat.le_of_ble_eq_true rfl, Nat.le_of_ble_eq_true rfl⟩ (fun E ce q9 H1 locs1 hx9 hs9 hS9 g1 g2 g3 => m_out htab hlk (Or.inl hx9) hs9 hS9 g1 g2 g3 (Nat.le_of_ble_eq_true rfl) (Nat.le_of_ble_eq_true rfl)) (fun H1 locs hp hS hk => ?_)
  obtain ⟨rfl, h1⟩ := hp
  obtain ⟨k, hk_k, rfl⟩ := okN_of h1.1 (by decide)
  obtain ⟨g, hk_g, rfl⟩ := okN_of h1.2.1 (by decide)
  obtain ⟨i, hk_i, rfl⟩ := okN_of h1.2.2.1 (by decide)
  obtain ⟨u, hk_u, rfl⟩ := okN_of h1.2.2.2 (by decide)
  have hl : lv_has ls 6 [(0, .ref o), (1, .int (nI k)), (2, .int (nI g)), (3, .int (nI i)), (4, .int (nI u))] := hl
  refine lv_aload_n hx hb dX2_remove_8 rfl (lv_at hl 0 rfl) ?_
  refine va_get (D := K.1) (ci := 3) (v := .ref (ad 5)) (C := RX2) (T := TX2) (N := 10) hx hb hts iX2 hown hE.k hP 0 rfl rfl 5 (by decide) f34 (fun _ h9 => h9) rfl dX2_remove_9 ?_
  refine lv_iload_n hx hb dX2_remove_12 rfl (lv_at hl 1 rfl) ?_
  refine lv_iload_n hx hb dX2_remove_13 rfl (lv_at hl 2 rfl) ?_
  refine lv_iload_n hx hb dX2_remove_14 rfl (lv_at hl 3 rfl) ?_
  refine lv_iload hx hb dX2_remove_15 (lv_at hl 4 rfl) ?_
  refine m_cSi (rest := [.ref (ad 5)]) ⟨hx, hb, hml, hown, hts⟩ hE hS (fun _ h => h) (kX2_slotOf l K A _ k g i u (54 * k + 9 * g + 3 * i + u) (by omega)) (va_cwS 4 hts gX2_remove_X2_slotOf rfl rfl rfl (by decide +kernel) ⟨Nat.le_of_ble_eq_true rfl, Nat.le_of_ble_eq_true rfl⟩) rfl rfl hl.1 rfl (Nat.le_of_ble_eq_true rfl) dX2_remove_17 ⟨Nat.le_of_ble_eq_true rfl, Nat.le_of_ble_eq_true rfl⟩ (fun r H1 locs hp hS hk => ?_)
  obtain ⟨rfl, rfl⟩ := hp
  refine m_aald2 hx hb hE.k hP 5 rfl (by omega) (by omega) rfl dX2_remove_20 ?_
  refine m_astoreq (lv' := [(0, .ref o), (1, .int (nI k)), (2, .int (nI g)), (3, .int (nI i)), (4, .int (nI u))]) hx hb dX2_remove_21 hl (by decide) (fun v9 hv9 => rfl) (fun ls hl => ?_)
  refine m_aloadq hx hb dX2_remove_23 (lv_at hl 0 rfl) ?_
  refine m_ifnonnull (tgt := 38) hx hb dX2_remove_25 (by decide) (fun a_25 c_25 => ?_) (fun c_25 => ?_)
  · obtain ⟨F, hF, hFa⟩ := FOpt_at (hfm (54 * k + 9 * g + 3 * i + u) (by omega)) c_25
    rw [c_25] at hl
    have hl : lv_has ls 6 [(5, .ref a_25), (0, .ref o), (1, .int (nI k)), (2, .int (nI g)), (3, .int (nI i)), (4, .int (nI u))] := hl
    refine lv_aload_n hx hb dX2_remove_38 rfl (lv_at hl 1 rfl) ?_
    refine lv_iload_n hx hb dX2_remove_39 rfl (lv_at hl 2 rfl) ?_
    refine lv_iload_n hx hb dX2_remove_40 rfl (lv_at hl 3 rfl) ?_
    refine lv_iload_n hx hb dX2_remove_41 rfl (lv_at hl 4 rfl) ?_
    refine lv_iload hx hb dX2_remove_42 (lv_at hl 5 rfl) ?_
    refine lv_null hx hb dX2_remove_44 ?_
    refine m_cVv (rest := []) ⟨hx, hb, hml, hown, hts⟩ hE hS (fun _ h => h) (kX2_change l K A H0 o ad f d ft li T hP hD hA fm hfm ps hls k g i u hk_k hk_g hk_i hk_u none none rfl) (cwV 5 hts gX2_remove_X2_change rfl rfl rfl (by decide +kernel) ⟨Nat.le_of_ble_eq_true rfl, Nat.le_of_ble_eq_true rfl⟩) (va_recv hE.k hP (ci := 3) (q0 := 0) rfl rfl) rfl rfl hl.1 rfl (Nat.le_of_ble_eq_true rfl) dX2_remove_45 ⟨Nat.le_of_ble_eq_true rfl, Nat.le_of_ble_eq_true rfl⟩ (fun H locs hp hS hk => ?_)
    obtain ⟨f', li', T', hP, hD, hX3, hls', hf'⟩ := hp
    have hR' := cRep_change hR hk_k hk_g hk_i hk_u hX3 (FOpt.ext (fo := none) (T := T) rfl hX3) hls' d (dr' := dr) ⟨hd9, hdl, hdj⟩ hf'
    obtain ⟨ix, sq, jx, sg, hix, hjx, hsg, hl1, hl8⟩ := hFa.ext hX3
    refine lv_aload hx hb dX2_remove_48 (lv_at hl 0 rfl) ?_
    refine va_get (D := K.1) (ci := 1) (v := .ref sq) (C := RX0) (T := TX0) (N := 3) hx hb hts iX0 hown hE.k hP (ix + 10) (cW_t hix) rfl 0 (by decide) f118 (fun _ h9 => h9) rfl dX2_remove_50 ?_
    refine va_alen (v := nI F.1.length) hx hb hE.k hP (jx + 10) 0 (cW_t hjx) rfl rfl dX2_remove_53 ?_
    exact vx_ret (m_iret hx hb hr hlk hS (Nat.le_of_ble_eq_true rfl) (Nat.le_of_ble_eq_true rfl) dX2_remove_54 (⟨h1, by rw [tN_nI (by omega), tN_nI (by omega), tN_nI (by omega), tN_nI (by omega), hF]; simp, by rw [tN_nI (by omega), tN_nI (by omega), tN_nI (by omega), tN_nI (by omega), hF]; rfl, _, _, _, _, _, hP, hD, by rw [tN_nI (by omega), tN_nI (by omega), tN_nI (by omega), tN_nI (by omega)]; exact hR'⟩))
  · exact m_thrIS (is := 116) (text := "the form is not there") hx hb hl0 hown hE k86 kk86 kg86 (by decide +kernel) hS m_same.rf (hl.1.trans hml.symm) dX2_remove_28 dX2_remove_31 dX2_remove_32 dX2_remove_34 dX2_remove_37 htab hlk (Nat.le_of_ble_eq_true rfl) (Nat.le_of_ble_eq_true rfl) (Nat.le_of_ble_eq_true rfl) (Nat.le_of_ble_eq_true rfl) (Or.inr ⟨rfl, h1, by rw [tN_nI (by omega), tN_nI (by omega), tN_nI (by omega), tN_nI (by omega)]; exact FOpt_has (hfm _ (by omega)) c_25⟩) (Nat.le_of_ble_eq_true rfl) (Nat.le_of_ble_eq_true rfl)
