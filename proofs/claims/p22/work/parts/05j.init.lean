theorem m_gIO_X2_nearSign : ∀ w ∈ (vx_atS RX2 62 m_IO m_RT).filter goodWord, w ∈ wsX2_nearSign := by decide +kernel
theorem nearD_n {fo : Option Frm} {ps : List Pr} {g : Nat} (h : fo = none) : nearD fo ps g = -1 := by rw [h]; rfl
theorem nearD_0 {fo : Option Frm} {F : Frm} {ps : List Pr} {g : Nat} (h : fo = some F) (k : nearF (some F) ps g = none) : nearD fo ps g = -1 := by
  rw [h]
  have k2 : (nearN ps g F.1 ps.length).1 = none := k
  simp only [nearD, k2]
theorem nearD_s {fo : Option Frm} {F : Frm} {P : Pr} {ps : List Pr} {g : Nat} (h : fo = some F) (k : nearF (some F) ps g = some P) : nearD fo ps g = nI (dst P.2.1.1 F.1) := by
  rw [h]
  have k2 : (nearN ps g F.1 ps.length).1 = some P := k
  simp only [nearD, k2]

set_option maxHeartbeats 4000000 in
set_option maxRecDepth 100000 in
theorem kX2_nearDistance (l : Launch) (hl0 : l.stackTraces = false) (K : m_K) (A : Nat → Prop) (H0 : Heap) (o : Nat) (ad : Nat → Nat) (fb : Nat → Nat) (on fw : Nat → Int32) (dr : List Int32) (fm : Nat → Option Frm) (vs ch : Nat → Int32) (ps : List Pr) (hc9 : cOK K A H0 o ad fb on fw dr fm vs ch ps) (x y z w9 : Int32) : vx_Met l yX2_nearDistance wsX2_nearDistance ({ frames := 8, cells := 4, slots := 24, locals := 127 } : Room) (m_Pc K A H0 [.ref o, .int x, .int y, .int z, .int w9]) (va_Qi (fun r H1 => okF x y z w9 ∧ r = nearD (fm (54 * tN x + 3 * tN z + tN w9)) ps (tN y) ∧ cOK K A H1 o ad fb on fw dr fm vs ch ps) m_B A) (m_X (fun E => E = m_IO ∧ ¬ okF x y z w9) H0 A) 4 24 A := by
  refine m_ofX (by decide) rfl (Nat.le_of_ble_eq_true rfl) ?_
  intro p e s m args below meth c ls hx hb hr hml hown hts hlk hnm htab hE hsz hS hl
  have hl : lv_has ls 7 [(0, .ref o), (1, .int x), (2, .int y), (3, .int z), (4, .int w9)] := hl
  obtain ⟨f, d, ft, li, T, hP, hD, hR⟩ := hc9
  obtain ⟨hfb, hon, hfw, hdr, hfm, hvs, hch, hls⟩ := id hR
  obtain ⟨hd9, hdl, hdj⟩ := hdr
  have iX2 : ∀ w ∈ wsX20, w ∈ wsX2_nearDistance := by decide +kernel
  have f34 := hts (.fieldLink RX2 34 "PhraseCatalogue" "formTable" "[LPhraseCatalogue$Form;") (by decide +kernel)
  have iX1 : ∀ w ∈ wsX10, w ∈ wsX2_nearDistance := by decide +kernel
  have f165 := hts (.fieldLink RX2 165 "PhraseCatalogue$Pair" "old" "LPhraseCatalogue$Form;") (by decide +kernel)
  refine lv_iload_n hx hb dX2_nearDistance_0 rfl (lv_at hl 1 rfl) ?_
  refine lv_iload_n hx hb dX2_nearDistance_1 rfl (lv_at hl 2 rfl) ?_
  refine lv_iload_n hx hb dX2_nearDistance_2 rfl (lv_at hl 3 rfl) ?_
  refine lv_iload hx hb dX2_nearDistance_3 (lv_at hl 4 rfl) ?_
  refine m_xSv (rest := []) ⟨hx, hb, hml, hown, hts⟩ hE hS (fun _ h => h) (kX2_requireForm l hl0 K A H0 x y z w9) (va_cwS 4 hts gX2_nearDistance_X2_requireForm rfl rfl rfl (by decide +kernel) ⟨Nat.le_of_ble_eq_true rfl, Nat.le_of_ble_eq_true rfl⟩) rfl rfl hl.1 rfl (Nat.le_of_ble_eq_true rfl) dX2_nearDistance_5 ⟨Nat.le_of_ble_eq_true rfl, Nat.le_of_ble_eq_true rfl⟩ (fun E ce q9 H1 locs1 hx9 hs9 hS9 g1 g2 g3 => m_out htab hlk hx9 hs9 hS9 g1 g2 g3 (Nat.le_of_ble_eq_true rfl) (Nat.le_of_ble_eq_true rfl)) (fun H1 locs hp hS hk => ?_)
  obtain ⟨rfl, h1⟩ := hp
  obtain ⟨k, hk_k, rfl⟩ := okN_of h1.1 (by decide)
  obtain ⟨g, hk_g, rfl⟩ := okN_of h1.2.1 (by decide)
  obtain ⟨i, hk_i, rfl⟩ := okN_of h1.2.2.1 (by decide)
  obtain ⟨u, hk_u, rfl⟩ := okN_of h1.2.2.2 (by decide)
  have hl : lv_has ls 7 [(0, .ref o), (1, .int (nI k)), (2, .int (nI g)), (3, .int (nI i)), (4, .int (nI u))] := hl
  refine lv_aload_n hx hb dX2_nearDistance_8 rfl (lv_at hl 0 rfl) ?_
  refine va_get (D := K.1) (ci := 3) (v := .ref (ad 5)) (C := RX2) (T := TX2) (N := 10) hx hb hts iX2 hown hE.k hP 0 rfl rfl 5 (by decide) f34 (fun _ h9 => h9) rfl dX2_nearDistance_9 ?_
  refine lv_iload_n hx hb dX2_nearDistance_12 rfl (lv_at hl 1 rfl) ?_
  refine lv_iconst (v := nI 0) hx hb dX2_nearDistance_13 (by decide) ?_
  refine lv_iload_n hx hb dX2_nearDistance_14 rfl (lv_at hl 3 rfl) ?_
  refine lv_iload hx hb dX2_nearDistance_15 (lv_at hl 4 rfl) ?_
  refine m_cSi (rest := [.ref (ad 5)]) ⟨hx, hb, hml, hown, hts⟩ hE hS (fun _ h => h) (kX2_slotOf l K A _ k 0 i u (54 * k + 3 * i + u) (by omega)) (va_cwS 4 hts gX2_nearDistance_X2_slotOf rfl rfl rfl (by decide +kernel) ⟨Nat.le_of_ble_eq_true rfl, Nat.le_of_ble_eq_true rfl⟩) rfl rfl hl.1 rfl (Nat.le_of_ble_eq_true rfl) dX2_nearDistance_17 ⟨Nat.le_of_ble_eq_true rfl, Nat.le_of_ble_eq_true rfl⟩ (fun r H1 locs hp hS hk => ?_)
  obtain ⟨rfl, rfl⟩ := hp
  refine m_aald2 hx hb hE.k hP 5 rfl (by omega) (by omega) rfl dX2_nearDistance_20 ?_
  have hf9 := hfm (54 * k + 3 * i + u) (by omega)
  cases e9 : ft (54 * k + 3 * i + u) with
  | none =>
    rw [e9] at hf9
    refine lv_astoreN (lv' := [(5, .null), (0, .ref o), (1, .int (nI k)), (2, .int (nI g)), (3, .int (nI i)), (4, .int (nI u))]) hx hb dX2_nearDistance_21 hl (by decide) rfl (fun ls hl => ?_)
    refine lv_aload_n hx hb dX2_nearDistance_23 rfl (lv_at hl 1 rfl) ?_
    refine lv_aloadN hx hb dX2_nearDistance_24 (lv_at hl 0 rfl) ?_
    refine lv_iload_n hx hb dX2_nearDistance_26 rfl (lv_at hl 3 rfl) ?_
    refine m_cVq (rest := []) ⟨hx, hb, hml, hown, hts⟩ hE hS (fun _ h => h) (kX2_findNear l K A H0 o ad f d ft li T hP hD ps hls g hk_g none none rfl) (cwV 2 hts gX2_nearDistance_X2_findNear rfl rfl rfl (by decide +kernel) ⟨Nat.le_of_ble_eq_true rfl, Nat.le_of_ble_eq_true rfl⟩) (va_recv hE.k hP (ci := 3) (q0 := 0) rfl rfl) rfl rfl hl.1 rfl (Nat.le_of_ble_eq_true rfl) dX2_nearDistance_27 ⟨Nat.le_of_ble_eq_true rfl, Nat.le_of_ble_eq_true rfl⟩ (fun r H locs hp hS hk => ?_)
    obtain ⟨hpo, w, hP, hD⟩ := hp
    have hpo : r = none := hpo
    subst hpo
    refine lv_astoreN (lv' := [(6, .null), (5, .null), (0, .ref o), (1, .int (nI k)), (2, .int (nI g)), (3, .int (nI i)), (4, .int (nI u))]) hx hb dX2_nearDistance_30 hl (by decide) rfl (fun ls hl => ?_)
    refine lv_aloadN hx hb dX2_nearDistance_32 (lv_at hl 1 rfl) ?_
    refine lv_ifnullN (tgt := 42) hx hb dX2_nearDistance_34 (by decide) ?_
    refine lv_iconst (v := (-1)) hx hb dX2_nearDistance_42 (by decide) ?_
    refine lv_goto (tgt := 57) hx hb dX2_nearDistance_43 (by decide) ?_
    exact vx_ret (m_iret hx hb hr hlk hS (Nat.le_of_ble_eq_true rfl) (Nat.le_of_ble_eq_true rfl) dX2_nearDistance_57 (⟨h1, by rw [tN_nI (by omega), tN_nI (by omega), tN_nI (by omega), tN_nI (by omega)]; exact (nearD_n (FOpt_has hf9 rfl)).symm, ⟨va_up f 9 w, d, ft, li, T, hP, hD, ⟨hfb, hon, hfw, ⟨hd9, hdl, hdj⟩, hfm, hvs, hch, hls⟩⟩⟩))
  | some a9 =>
    rw [e9] at hf9
    obtain ⟨F, hF, hFa⟩ := FOpt_at hf9 rfl
    refine lv_astore (lv' := [(5, .ref a9), (0, .ref o), (1, .int (nI k)), (2, .int (nI g)), (3, .int (nI i)), (4, .int (nI u))]) hx hb dX2_nearDistance_21 hl (by decide) rfl (fun ls hl => ?_)
    refine lv_aload_n hx hb dX2_nearDistance_23 rfl (lv_at hl 1 rfl) ?_
    refine lv_aload hx hb dX2_nearDistance_24 (lv_at hl 0 rfl) ?_
    refine lv_iload_n hx hb dX2_nearDistance_26 rfl (lv_at hl 3 rfl) ?_
    refine m_cVq (rest := []) ⟨hx, hb, hml, hown, hts⟩ hE hS (fun _ h => h) (kX2_findNear l K A H0 o ad f d ft li T hP hD ps hls g hk_g (some a9) (some F) ⟨a9, rfl, hFa⟩) (cwV 2 hts gX2_nearDistance_X2_findNear rfl rfl rfl (by decide +kernel) ⟨Nat.le_of_ble_eq_true rfl, Nat.le_of_ble_eq_true rfl⟩) (va_recv hE.k hP (ci := 3) (q0 := 0) rfl rfl) rfl rfl hl.1 rfl (Nat.le_of_ble_eq_true rfl) dX2_nearDistance_27 ⟨Nat.le_of_ble_eq_true rfl, Nat.le_of_ble_eq_true rfl⟩ (fun r H locs hp hS hk => ?_)
    obtain ⟨hpo, w, hP, hD⟩ := hp
    refine m_astoreq (lv' := [(5, .ref a9), (0, .ref o), (1, .int (nI k)), (2, .int (nI g)), (3, .int (nI i)), (4, .int (nI u))]) hx hb dX2_nearDistance_30 hl (by decide) (fun v9 hv9 => rfl) (fun ls hl => ?_)
    refine lv_aload hx hb dX2_nearDistance_32 (lv_at hl 1 rfl) ?_
    refine lv_ifnull hx hb dX2_nearDistance_34 ?_
    refine m_aloadq hx hb dX2_nearDistance_37 (lv_at hl 0 rfl) ?_
    refine m_ifnonnull (tgt := 46) hx hb dX2_nearDistance_39 (by decide) (fun a_39 c_39 => ?_) (fun c_39 => ?_)
    · obtain ⟨P, hPn, hPa⟩ := POpt_s hpo c_39
      obtain ⟨ip, fa, ga, hip, hfa, hga, hP6⟩ := id hPa
      rw [c_39] at hl
      have hl : lv_has ls 7 [(6, .ref a_39), (5, .ref a9), (0, .ref o), (1, .int (nI k)), (2, .int (nI g)), (3, .int (nI i)), (4, .int (nI u))] := hl
      refine lv_aload_n hx hb dX2_nearDistance_46 rfl (lv_at hl 2 rfl) ?_
      refine lv_aload hx hb dX2_nearDistance_47 (lv_at hl 0 rfl) ?_
      refine va_get (D := K.1) (ci := 2) (v := .ref fa) (C := RX1) (T := TX1) (N := 3) hx hb hts iX1 hown hE.k hP (ip + 10) (cW_t hip) rfl 1 (by decide) f165 (fun _ h9 => h9) rfl dX2_nearDistance_49 ?_
      refine lv_aload hx hb dX2_nearDistance_52 (lv_at hl 1 rfl) ?_
      refine m_cVi (rest := []) ⟨hx, hb, hml, hown, hts⟩ hE hS (fun _ h => h) (kX2_distance l K A _ o ad (va_up f 9 w) d ft li T hP hD fa a9 P.2.1 F hfa hFa) (cwV 2 hts gX2_nearDistance_X2_distance rfl rfl rfl (by decide +kernel) ⟨Nat.le_of_ble_eq_true rfl, Nat.le_of_ble_eq_true rfl⟩) (va_recv hE.k hP (ci := 3) (q0 := 0) rfl rfl) rfl rfl hl.1 rfl (Nat.le_of_ble_eq_true rfl) dX2_nearDistance_54 ⟨Nat.le_of_ble_eq_true rfl, Nat.le_of_ble_eq_true rfl⟩ (fun r H locs hp hS hk => ?_)
      obtain ⟨rfl, w2, hP, hD⟩ := hp
      exact vx_ret (m_iret hx hb hr hlk hS (Nat.le_of_ble_eq_true rfl) (Nat.le_of_ble_eq_true rfl) dX2_nearDistance_57 (⟨h1, by rw [tN_nI (by omega), tN_nI (by omega), tN_nI (by omega), tN_nI (by omega)]; exact (nearD_s hF hPn).symm, ⟨va_up f 9 w2, d, ft, li, T, hP, hD, ⟨hfb, hon, hfw, ⟨hd9, hdl, hdj⟩, hfm, hvs, hch, hls⟩⟩⟩))
    · refine lv_iconst (v := (-1)) hx hb dX2_nearDistance_42 (by decide) ?_
      refine lv_goto (tgt := 57) hx hb dX2_nearDistance_43 (by decide) ?_
      exact vx_ret (m_iret hx hb hr hlk hS (Nat.le_of_ble_eq_true rfl) (Nat.le_of_ble_eq_true rfl) dX2_nearDistance_57 (⟨h1, by rw [tN_nI (by omega), tN_nI (by omega), tN_nI (by omega), tN_nI (by omega)]; exact (nearD_0 hF (POpt_n hpo c_39)).symm, ⟨va_up f 9 w, d, ft, li, T, hP, hD, ⟨hfb, hon, hfw, ⟨hd9, hdl, hdj⟩, hfm, hvs, hch, hls⟩⟩⟩))

theorem nearS_n {fo : Option Frm} {ps : List Pr} {g j : Nat} (h : nearF fo ps g = none) : nearS fo ps g j = nI 0 := by simp only [nearS, h]
theorem nearS_s {fo : Option Frm} {P : Pr} {ps : List Pr} {g j : Nat} (h : nearF fo ps g = some P) (k : j < P.2.2.1.length) : nearS fo ps g j = P.2.2.1.getD j 0 := by
  simp only [nearS, h]
  rw [if_pos k]
theorem nearS_0 {fo : Option Frm} {P : Pr} {ps : List Pr} {g j : Nat} (h : nearF fo ps g = some P) (k : ¬ j < P.2.2.1.length) : nearS fo ps g j = nI 0 := by
  simp only [nearS, h]
  rw [if_neg k]

set_option maxHeartbeats 4000000 in
set_option maxRecDepth 100000 in
theorem kX2_nearSign (l : Launch) (hl0 : l.stackTraces = false) (K : m_K) (A : Nat → Prop) (H0 : Heap) (o : Nat) (ad : Nat → Nat) (fb : Nat → Nat) (on fw : Nat → Int32) (dr : List Int32) (fm : Nat → Option Frm) (vs ch : Nat → Int32) (ps : List Pr) (hc9 : cOK K A H0 o ad fb on fw dr fm vs ch ps) (x y z w9 v : Int32) : vx_Met l yX2_nearSign wsX2_nearSign ({ frames := 8, cells := 6, slots := 36, locals := 127 } : Room) (m_Pc K A H0 [.ref o, .int x, .int y, .int z, .int w9, .int v]) (va_Qi (fun r H1 => okF x y z w9 ∧ okN v 2147483648 ∧ r = nearS (fm (54 * tN x + 3 * tN z + tN w9)) ps (tN y) (tN v) ∧ cOK K A H1 o ad fb on fw dr fm vs ch ps) m_B A) (m_X (fun E => E = m_IO ∧ ¬ (okF x y z w9 ∧ okN v 2147483648)) H0 A) 6 36 A := by
  refine m_ofX (by decide) rfl (Nat.le_of_ble_eq_true rfl) ?_
  intro p e s m args below meth c ls hx hb hr hml hown hts hlk hnm htab hE hsz hS hl
  have hl : lv_has ls 7 [(0, .ref o), (1, .int x), (2, .int y), (3, .int z), (4, .int w9), (5, .int v)] := hl
  obtain ⟨f, d, ft, li, T, hP, hD, hR⟩ := hc9
  obtain ⟨hfb, hon, hfw, hdr, hfm, hvs, hch, hls⟩ := id hR
  obtain ⟨hd9, hdl, hdj⟩ := hdr
  have iX2 : ∀ w ∈ wsX20, w ∈ wsX2_nearSign := by decide +kernel
  have f34 := hts (.fieldLink RX2 34 "PhraseCatalogue" "formTable" "[LPhraseCatalogue$Form;") (by decide +kernel)
  have iX1 : ∀ w ∈ wsX10, w ∈ wsX2_nearSign := by decide +kernel
  have f177 := hts (.fieldLink RX2 177 "PhraseCatalogue$Pair" "translation" "LPhraseCatalogue$Form;") (by decide +kernel)
  have iX0 : ∀ w ∈ wsX00, w ∈ wsX2_nearSign := by decide +kernel
  have f118 := hts (.fieldLink RX2 118 "PhraseCatalogue$Form" "signs" "[I") (by decide +kernel)
  have k58 := hts (.classLink RX2 58 m_IO) (by decide +kernel)
  have kk58 := hts (.initialized m_IO) (by decide +kernel)
  have kg58 : ∀ w ∈ (vx_atS RX2 62 m_IO m_RT).filter goodWord, w.before args s = true := fun w hw => hts w (m_gIO_X2_nearSign w hw)
  refine lv_iload_n hx hb dX2_nearSign_0 rfl (lv_at hl 1 rfl) ?_
  refine lv_iload_n hx hb dX2_nearSign_1 rfl (lv_at hl 2 rfl) ?_
  refine lv_iload_n hx hb dX2_nearSign_2 rfl (lv_at hl 3 rfl) ?_
  refine lv_iload hx hb dX2_nearSign_3 (lv_at hl 4 rfl) ?_
  refine m_xSv (rest := []) ⟨hx, hb, hml, hown, hts⟩ hE hS (fun _ h => h) (kX2_requireForm l hl0 K A H0 x y z w9) (va_cwS 4 hts gX2_nearSign_X2_requireForm rfl rfl rfl (by decide +kernel) ⟨Nat.le_of_ble_eq_true rfl, Nat.le_of_ble_eq_true rfl⟩) rfl rfl hl.1 rfl (Nat.le_of_ble_eq_true rfl) dX2_nearSign_5 ⟨Nat.le_of_ble_eq_true rfl, Nat.le_of_ble_eq_true rfl⟩ (fun E ce q9 H1 locs1 hx9 hs9 hS9 g1 g2 g3 => m_out htab hlk (⟨hx9.1, fun q => hx9.2 q.1⟩) hs9 hS9 g1 g2 g3 (Nat.le_of_ble_eq_true rfl) (Nat.le_of_ble_eq_true rfl)) (fun H1 locs hp hS hk => ?_)
  obtain ⟨rfl, h1⟩ := hp
  obtain ⟨k, hk_k, rfl⟩ := okN_of h1.1 (by decide)
  obtain ⟨g, hk_g, rfl⟩ := okN_of h1.2.1 (by decide)
  obtain ⟨i, hk_i, rfl⟩ := okN_of h1.2.2.1 (by decide)
  obtain ⟨u, hk_u, rfl⟩ := okN_of h1.2.2.2 (by decide)
  have hl : lv_has ls 7 [(0, .ref o), (1, .int (nI k)), (2, .int (nI g)), (3, .int (nI i)), (4, .int (nI u)), (5, .int v)] := hl
  refine lv_iload hx hb dX2_nearSign_8 (lv_at hl 5 rfl) ?_
  refine lv_if_ge (tgt := 23) hx hb dX2_nearSign_10 (by decide) (fun c_10 => ?_) (fun c_10 => ?_)
  · have hp8 := num_pos c_10
    obtain ⟨j9, hk_j9, rfl⟩ : ∃ j9, j9 < 2147483648 ∧ v = nI j9 := ⟨tN v, (okN_big hp8).2, (okN_big hp8).1⟩
    have hl : lv_has ls 7 [(0, .ref o), (1, .int (nI k)), (2, .int (nI g)), (3, .int (nI i)), (4, .int (nI u)), (5, .int (nI j9))] := hl
    refine lv_aload_n hx hb dX2_nearSign_23 rfl (lv_at hl 0 rfl) ?_
    refine lv_aload_n hx hb dX2_nearSign_24 rfl (lv_at hl 0 rfl) ?_
    refine va_get (D := K.1) (ci := 3) (v := .ref (ad 5)) (C := RX2) (T := TX2) (N := 10) hx hb hts iX2 hown hE.k hP 0 rfl rfl 5 (by decide) f34 (fun _ h9 => h9) rfl dX2_nearSign_25 ?_
    refine lv_iload_n hx hb dX2_nearSign_28 rfl (lv_at hl 1 rfl) ?_
    refine lv_iconst (v := nI 0) hx hb dX2_nearSign_29 (by decide) ?_
    refine lv_iload_n hx hb dX2_nearSign_30 rfl (lv_at hl 3 rfl) ?_
    refine lv_iload hx hb dX2_nearSign_31 (lv_at hl 4 rfl) ?_
    refine m_cSi (rest := [.ref (ad 5), .ref o]) ⟨hx, hb, hml, hown, hts⟩ hE hS (fun _ h => h) (kX2_slotOf l K A _ k 0 i u (54 * k + 3 * i + u) (by omega)) (va_cwS 4 hts gX2_nearSign_X2_slotOf rfl rfl rfl (by decide +kernel) ⟨Nat.le_of_ble_eq_true rfl, Nat.le_of_ble_eq_true rfl⟩) rfl rfl hl.1 rfl (Nat.le_of_ble_eq_true rfl) dX2_nearSign_33 ⟨Nat.le_of_ble_eq_true rfl, Nat.le_of_ble_eq_true rfl⟩ (fun r H1 locs hp hS hk => ?_)
    obtain ⟨rfl, rfl⟩ := hp
    refine m_aald2 hx hb hE.k hP 5 rfl (by omega) (by omega) rfl dX2_nearSign_36 ?_
    have hf9 := hfm (54 * k + 3 * i + u) (by omega)
    cases e9 : ft (54 * k + 3 * i + u) with
    | none =>
      rw [e9] at hf9
      refine lv_iload_n hx hb dX2_nearSign_37 rfl (lv_at hl 2 rfl) ?_
      refine m_cVq (rest := []) ⟨hx, hb, hml, hown, hts⟩ hE hS (fun _ h => h) (kX2_findNear l K A H0 o ad f d ft li T hP hD ps hls g hk_g none none rfl) (cwV 2 hts gX2_nearSign_X2_findNear rfl rfl rfl (by decide +kernel) ⟨Nat.le_of_ble_eq_true rfl, Nat.le_of_ble_eq_true rfl⟩) (va_recv hE.k hP (ci := 3) (q0 := 0) rfl rfl) rfl rfl hl.1 rfl (Nat.le_of_ble_eq_true rfl) dX2_nearSign_38 ⟨Nat.le_of_ble_eq_true rfl, Nat.le_of_ble_eq_true rfl⟩ (fun r H locs hp hS hk => ?_)
      obtain ⟨hpo, w, hP, hD⟩ := hp
      have hpo : r = none := hpo
      subst hpo
      refine lv_astoreN (lv' := [(6, .null), (0, .ref o), (1, .int (nI k)), (2, .int (nI g)), (3, .int (nI i)), (4, .int (nI u)), (5, .int (nI j9))]) hx hb dX2_nearSign_41 hl (by decide) rfl (fun ls hl => ?_)
      refine lv_aloadN hx hb dX2_nearSign_43 (lv_at hl 0 rfl) ?_
      refine lv_ifnullN (tgt := 62) hx hb dX2_nearSign_45 (by decide) ?_
      refine lv_iconst (v := nI 0) hx hb dX2_nearSign_62 (by decide) ?_
      refine lv_goto (tgt := 77) hx hb dX2_nearSign_63 (by decide) ?_
      exact vx_ret (m_iret hx hb hr hlk hS (Nat.le_of_ble_eq_true rfl) (Nat.le_of_ble_eq_true rfl) dX2_nearSign_77 (⟨h1, hp8, by rw [tN_nI (by omega), tN_nI (by omega), tN_nI (by omega), tN_nI (by omega), tN_nI (by omega)]; rw [FOpt_has hf9 rfl]; exact (nearS_n (by rfl)).symm, ⟨va_up f 9 w, d, ft, li, T, hP, hD, ⟨hfb, hon, hfw, ⟨hd9, hdl, hdj⟩, hfm, hvs, hch, hls⟩⟩⟩))
    | some a9 =>
      rw [e9] at hf9
      obtain ⟨F, hF, hFa⟩ := FOpt_at hf9 rfl
      refine lv_iload_n hx hb dX2_nearSign_37 rfl (lv_at hl 2 rfl) ?_
      refine m_cVq (rest := []) ⟨hx, hb, hml, hown, hts⟩ hE hS (fun _ h => h) (kX2_findNear l K A H0 o ad f d ft li T hP hD ps hls g hk_g (some a9) (some F) ⟨a9, rfl, hFa⟩) (cwV 2 hts gX2_nearSign_X2_findNear rfl rfl rfl (by decide +kernel) ⟨Nat.le_of_ble_eq_true rfl, Nat.le_of_ble_eq_true rfl⟩) (va_recv hE.k hP (ci := 3) (q0 := 0) rfl rfl) rfl rfl hl.1 rfl (Nat.le_of_ble_eq_true rfl) dX2_nearSign_38 ⟨Nat.le_of_ble_eq_true rfl, Nat.le_of_ble_eq_true rfl⟩ (fun r H locs hp hS hk => ?_)
      obtain ⟨hpo, w, hP, hD⟩ := hp
      refine m_astoreq (lv' := [(0, .ref o), (1, .int (nI k)), (2, .int (nI g)), (3, .int (nI i)), (4, .int (nI u)), (5, .int (nI j9))]) hx hb dX2_nearSign_41 hl (by decide) (fun v9 hv9 => rfl) (fun ls hl => ?_)
      refine m_aloadq hx hb dX2_nearSign_43 (lv_at hl 0 rfl) ?_
      refine m_ifnull (tgt := 62) hx hb dX2_nearSign_45 (by decide) (fun c_45 => ?_) (fun a_45 c_45 => ?_)
      · refine lv_iconst (v := nI 0) hx hb dX2_nearSign_62 (by decide) ?_
        refine lv_goto (tgt := 77) hx hb dX2_nearSign_63 (by decide) ?_
        exact vx_ret (m_iret hx hb hr hlk hS (Nat.le_of_ble_eq_true rfl) (Nat.le_of_ble_eq_true rfl) dX2_nearSign_77 (⟨h1, hp8, by rw [tN_nI (by omega), tN_nI (by omega), tN_nI (by omega), tN_nI (by omega), tN_nI (by omega)]; rw [hF]; exact (nearS_n (POpt_n hpo c_45)).symm, ⟨va_up f 9 w, d, ft, li, T, hP, hD, ⟨hfb, hon, hfw, ⟨hd9, hdl, hdj⟩, hfm, hvs, hch, hls⟩⟩⟩))
      · obtain ⟨P, hPn, hPa⟩ := POpt_s hpo c_45
        obtain ⟨ip, fa, ga, hip, hfa, hga, hP6⟩ := id hPa
        rw [c_45] at hl
        have hl : lv_has ls 7 [(6, .ref a_45), (0, .ref o), (1, .int (nI k)), (2, .int (nI g)), (3, .int (nI i)), (4, .int (nI u)), (5, .int (nI j9))] := hl
        obtain ⟨ix, sq, jx, sg, hix, hjx, hsg, hl1, hl8⟩ := id hga
        refine lv_iload hx hb dX2_nearSign_48 (lv_at hl 6 rfl) ?_
        refine lv_aload hx hb dX2_nearSign_50 (lv_at hl 0 rfl) ?_
        refine va_get (D := K.1) (ci := 2) (v := .ref ga) (C := RX1) (T := TX1) (N := 3) hx hb hts iX1 hown hE.k hP (ip + 10) (cW_t hip) rfl 2 (by decide) f177 (fun _ h9 => h9) rfl dX2_nearSign_52 ?_
        refine va_get (D := K.1) (ci := 1) (v := .ref sq) (C := RX0) (T := TX0) (N := 3) hx hb hts iX0 hown hE.k hP (ix + 10) (cW_t hix) rfl 0 (by decide) f118 (fun _ h9 => h9) rfl dX2_nearSign_55 ?_
        refine va_alen (v := nI P.2.2.1.length) hx hb hE.k hP (jx + 10) 0 (cW_t hjx) rfl rfl dX2_nearSign_58 ?_
        refine m_icmp_lt (tgt := 66) hx hb (by omega) (by omega) dX2_nearSign_59 (by decide) (fun c_59 => ?_) (fun c_59 => ?_)
        · refine lv_aload hx hb dX2_nearSign_66 (lv_at hl 0 rfl) ?_
          refine va_get (D := K.1) (ci := 2) (v := .ref ga) (C := RX1) (T := TX1) (N := 3) hx hb hts iX1 hown hE.k hP (ip + 10) (cW_t hip) rfl 2 (by decide) f177 (fun _ h9 => h9) rfl dX2_nearSign_68 ?_
          refine va_get (D := K.1) (ci := 1) (v := .ref sq) (C := RX0) (T := TX0) (N := 3) hx hb hts iX0 hown hE.k hP (ix + 10) (cW_t hix) rfl 0 (by decide) f118 (fun _ h9 => h9) rfl dX2_nearSign_71 ?_
          refine lv_iload hx hb dX2_nearSign_74 (lv_at hl 6 rfl) ?_
          refine m_iald hx hb hE.k hP (jx + 10) (cW_t hjx) (by omega) (by omega) (hsg _ (by omega)) dX2_nearSign_76 ?_
          exact vx_ret (m_iret hx hb hr hlk hS (Nat.le_of_ble_eq_true rfl) (Nat.le_of_ble_eq_true rfl) dX2_nearSign_77 (⟨h1, hp8, by rw [tN_nI (by omega), tN_nI (by omega), tN_nI (by omega), tN_nI (by omega), tN_nI (by omega)]; rw [hF]; exact (nearS_s hPn c_59).symm, ⟨va_up f 9 w, d, ft, li, T, hP, hD, ⟨hfb, hon, hfw, ⟨hd9, hdl, hdj⟩, hfm, hvs, hch, hls⟩⟩⟩))
        · refine lv_iconst (v := nI 0) hx hb dX2_nearSign_62 (by decide) ?_
          refine lv_goto (tgt := 77) hx hb dX2_nearSign_63 (by decide) ?_
          exact vx_ret (m_iret hx hb hr hlk hS (Nat.le_of_ble_eq_true rfl) (Nat.le_of_ble_eq_true rfl) dX2_nearSign_77 (⟨h1, hp8, by rw [tN_nI (by omega), tN_nI (by omega), tN_nI (by omega), tN_nI (by omega), tN_nI (by omega)]; rw [hF]; exact (nearS_0 hPn c_59).symm, ⟨va_up f 9 w, d, ft, li, T, hP, hD, ⟨hfb, hon, hfw, ⟨hd9, hdl, hdj⟩, hfm, hvs, hch, hls⟩⟩⟩))
  · exact m_thrIO (is := 175) (text := "there is no place below 0") hx hb hl0 hown hE k58 kk58 kg58 (by decide +kernel) hS m_same.rf (hl.1.trans hml.symm) dX2_nearSign_13 dX2_nearSign_16 dX2_nearSign_17 dX2_nearSign_19 dX2_nearSign_22 htab hlk (Nat.le_of_ble_eq_true rfl) (Nat.le_of_ble_eq_true rfl) (Nat.le_of_ble_eq_true rfl) (Nat.le_of_ble_eq_true rfl) (⟨rfl, fun q => absurd (num_neg c_10) (fun z => z q.2)⟩) (Nat.le_of_ble_eq_true rfl) (Nat.le_of_ble_eq_true rfl)

theorem fill_up {g : Nat → Int32} {j : Nat} {v : Int32} (h : ∀ t, t < j → g t = v) : ∀ t, t < j + 1 → upd g j v t = v := by
  intro t ht
  unfold upd
  split
  · rfl
  · exact h t (by omega)

set_option maxHeartbeats 4000000 in
set_option maxRecDepth 100000 in
theorem kJ7_fill_53178 (l : Launch) (K : m_K) (A : Nat → Prop) (H0 : Heap) (a n : Nat) (f9 : Nat → Int32) (v : Int32) (hn : n < 65536) (hP : va_P K.1 vwCl [(a, .inl (K.2.1 0, n, .inl f9))] H0) (hD : va_D A [(a, .inl (K.2.1 0, n, .inl f9))]) : Met l yJ7_fill_53178 wsJ7_fill_53178 ({ frames := 0, cells := 0, slots := 0, locals := 0 } : Room) (m_Pc K A H0 [.ref a, .int v]) (va_Qv (fun H1 => ∃ g9, va_P K.1 vwCl [(a, .inl (K.2.1 0, n, .inl g9))] H1 ∧ ∀ t, t < n → g9 t = v) m_B A) 0 0 A := by
  refine m_ofW (by decide) rfl (Nat.le_of_ble_eq_true rfl) ?_
  intro p e s m args below meth c ls hx hb hr hml hown hts hlk hnm hE hsz hS hl
  have hl : lv_has ls 4 [(0, .ref a), (1, .int v)] := hl
  refine lv_iconst (v := nI 0) hx hb dJ7_fill_53178_0 (by decide) ?_
  refine lv_istore_n (lv' := [(2, .int (nI 0)), (0, .ref a), (1, .int v)]) hx hb dJ7_fill_53178_1 rfl hl (by decide) rfl (fun ls hl => ?_)
  refine lv_aload_n hx hb dJ7_fill_53178_2 rfl (lv_at hl 1 rfl) ?_
  refine va_alen (v := nI n) hx hb hE.k hP 0 0 rfl rfl rfl dJ7_fill_53178_3 ?_
  refine lv_istore_n (lv' := [(3, .int (nI n)), (2, .int (nI 0)), (0, .ref a), (1, .int v)]) hx hb dJ7_fill_53178_4 rfl hl (by decide) rfl (fun ls hl => ?_)
  refine (?_ : ∀ (n9 : Nat) (j : Nat) (g9 : Nat → Int32) (H : Heap) (locs : List Loc) (ls : Array Slot), j ≤ n → n < j + n9 → (∀ t, t < j → g9 t = v) → va_P K.1 vwCl ([(a, .inl (K.2.1 0, n, .inl g9))]) H → va_D A ([(a, .inl (K.2.1 0, n, .inl g9))]) → va_S A s.heap H locs → lv_has ls 4 [(2, .int (nI j)), (3, .int (nI n)), (0, .ref a), (1, .int v)] → W p l e _ s m args below meth c H locs 0 0 _ (F0 m 5 ls [])) (n + 1) 0 f9 _ _ ls (by omega) (by omega) (fun t ht => absurd ht (Nat.not_lt_zero t)) hP hD hS (lv_sub hl [1, 0, 2, 3] rfl)
  clear hS hl hP hD
  intro n9
  induction n9 with
  | zero => intro j g9 H locs ls hi9 hn9; exact absurd hn9 (by omega)
  | succ n9 ih =>
    intro j g9 H locs ls hi9 hn9 hg hP hD hS hl
    refine lv_iload_n hx hb dJ7_fill_53178_5 rfl (lv_at hl 0 rfl) ?_
    refine lv_iload_n hx hb dJ7_fill_53178_6 rfl (lv_at hl 1 rfl) ?_
    refine m_icmp_ge (tgt := 20) hx hb (by omega) (by omega) dJ7_fill_53178_7 (by decide) (fun c_7 => ?_) (fun c_7 => ?_)
    · exact m_vret hx hb hr hlk hS (Nat.le_of_ble_eq_true rfl) (Nat.le_of_ble_eq_true rfl) dJ7_fill_53178_20 (⟨g9, hP, fun t ht => hg t (by omega)⟩)
    · refine lv_aload_n hx hb dJ7_fill_53178_10 rfl (lv_at hl 2 rfl) ?_
      refine lv_iload_n hx hb dJ7_fill_53178_11 rfl (lv_at hl 0 rfl) ?_
      refine lv_iload_n hx hb dJ7_fill_53178_12 rfl (lv_at hl 3 rfl) ?_
      refine m_iast hx hb hE.k hP hD hS 0 rfl (by omega) (by omega) dJ7_fill_53178_13 (fun H locs hP hD hS => ?_)
      have hP : va_P K.1 vwCl ([(a, .inl (K.2.1 0, n, .inl (upd g9 j v)))]) H := hP
      have hD : va_D A ([(a, .inl (K.2.1 0, n, .inl (upd g9 j v)))]) := hD
      refine lv_iinc (v := nI (j + 1)) (lv' := [(2, .int (nI (j + 1))), (3, .int (nI n)), (0, .ref a), (1, .int v)]) hx hb dJ7_fill_53178_14 hl (k := 0) rfl (m_inc _) (by decide) rfl (fun ls hl => ?_)
      refine lv_goto (tgt := 5) hx hb dJ7_fill_53178_17 (by decide) ?_
      exact ih (j + 1) (upd g9 j v) _ _ ls (by omega) (by omega) (fill_up hg) hP hD hS (lv_sub hl [0, 1, 2, 3] rfl)

set_option maxHeartbeats 4000000 in
set_option maxRecDepth 100000 in
theorem kJxa1e45_init_da8c8 (l : Launch) (K : m_K) (A : Nat → Prop) (H0 : Heap) (q : Nat) : Met l yJxa1e45_init_da8c8 wsJxa1e45_init_da8c8 ({ frames := 1, cells := 0, slots := 0, locals := 12 } : Room) (m_Pc K A H0 [.ref q]) (va_Qv (fun H1 => H0 = H1) m_B A) 0 0 A := by
  refine m_ofW (by decide) rfl (Nat.le_of_ble_eq_true rfl) ?_
  intro p e s m args below meth c ls hx hb hr hml hown hts hlk hnm hE hsz hS hl
  have hl : lv_has ls 1 [(0, .ref q)] := hl
  have oi1 := hts (.methodLink RJxa1e45 1 objectInit) (by decide +kernel)
  have oii := hts (.instanceMethod objectInit) (by decide +kernel)
  have oic := hts (.code objectInit ⟨#[0xb1]⟩ 1 none) (by decide +kernel)
  refine lv_aload_n hx hb dJxa1e45_init_da8c8_0 rfl (lv_at hl 0 rfl) ?_
  refine W.objInit hx hb hown oi1 oii oic rfl (by rw [hml]; exact hl.1) rfl dJxa1e45_init_da8c8_1 (Nat.le_of_ble_eq_true rfl) (Nat.le_of_ble_eq_true rfl) ?_
  refine W.eq (g2 := F0 m 4 ls []) rfl ?_
  exact m_vret hx hb hr hlk hS (Nat.le_of_ble_eq_true rfl) (Nat.le_of_ble_eq_true rfl) dJxa1e45_init_da8c8_4 rfl

set_option maxHeartbeats 4000000 in
set_option maxRecDepth 100000 in
theorem kJxc12de_init_da8c8 (l : Launch) (K : m_K) (A : Nat → Prop) (H0 : Heap) (q : Nat) (hP : va_P K.1 vwCl [(q, .inr (0, [.int 0, .null, .int 0]))] H0) (hD : va_D A [(q, .inr (0, [.int 0, .null, .int 0]))]) : Met l yJxc12de_init_da8c8 wsJxc12de_init_da8c8 ({ frames := 2, cells := 0, slots := 0, locals := 32 } : Room) (m_Pc K A H0 [.ref q]) (va_Qv (fun H1 => va_P K.1 vwCl [(q, .inr (0, [.int (nI 0), .null, .int 0]))] H1 ∧ va_D A [(q, .inr (0, [.int (nI 0), .null, .int 0]))]) m_B A) 0 0 A := by
  refine m_ofW (by decide) rfl (Nat.le_of_ble_eq_true rfl) ?_
  intro p e s m args below meth c ls hx hb hr hml hown hts hlk hnm hE hsz hS hl
  have hl : lv_has ls 1 [(0, .ref q)] := hl
  have x1 := hts (.methodLink RJxc12de 1 yJxa1e45_init_da8c8) (by decide +kernel)
  have zJxa1e45_init_da8c8 := hts (.instanceMethod yJxa1e45_init_da8c8) (by decide +kernel)
  have nRJxa1e45 := hts (.initialized RJxa1e45) (by decide +kernel)
  have iJx4a65c : ∀ w ∈ wsJx4a65c0, w ∈ wsJxc12de_init_da8c8 := by decide +kernel
  have f7 := hts (.fieldLink RJxc12de 7 "java/util/AbstractList" "modCount" "I") (by decide +kernel)
  refine lv_aload_n hx hb dJxc12de_init_da8c8_0 rfl (lv_at hl 0 rfl) ?_
  refine m_cIv (rest := []) ⟨hx, hb, hml, hown, hts⟩ hE hS (fun _ h => h) (kJxa1e45_init_da8c8 l K A H0 q) (cwI 0 hts gJxc12de_init_da8c8_Jxa1e45_init_da8c8 rfl rfl rfl nRJxa1e45 x1 zJxa1e45_init_da8c8 rfl (by decide +kernel) ⟨Nat.le_of_ble_eq_true rfl, Nat.le_of_ble_eq_true rfl⟩) rfl rfl hl.1 rfl (Nat.le_of_ble_eq_true rfl) dJxc12de_init_da8c8_1 ⟨Nat.le_of_ble_eq_true rfl, Nat.le_of_ble_eq_true rfl⟩ (fun H1 locs hp hS hk => ?_)
  subst hp
  refine lv_aload_n hx hb dJxc12de_init_da8c8_4 rfl (lv_at hl 0 rfl) ?_
  refine lv_iconst (v := nI 0) hx hb dJxc12de_init_da8c8_5 (by decide) ?_
  refine va_put (D := K.1) (ci := 0) (v := .int (nI 0)) (ty := .int) (C := RJx4a65c) (T := TJx4a65c) (N := 3) hx hb hts iJx4a65c tyJx4a65c tyJx4a65c_ok nmJx4a65c hown hE.k hP hD hS 0 rfl rfl 0 (by decide) f7 (fun _ h9 => h9) rfl (by decide +kernel) rfl rfl (Nat.le_of_ble_eq_true rfl) dJxc12de_init_da8c8_6 (fun H locs hP hD hS => ?_)
  have hP : va_P K.1 vwCl ([(q, .inr (0, [.int (nI 0), .null, .int 0]))]) H := hP
  have hD : va_D A ([(q, .inr (0, [.int (nI 0), .null, .int 0]))]) := hD
  exact m_vret hx hb hr hlk hS (Nat.le_of_ble_eq_true rfl) (Nat.le_of_ble_eq_true rfl) dJxc12de_init_da8c8_9 (⟨hP, hD⟩)

set_option maxHeartbeats 4000000 in
set_option maxRecDepth 100000 in
theorem kJx4a65c_init_da8c8 (l : Launch) (K : m_K) (A : Nat → Prop) (H0 : Heap) (q : Nat) (hP : va_P K.1 vwCl [(q, .inr (0, [.int 0, .null, .int 0]))] H0) (hD : va_D A [(q, .inr (0, [.int 0, .null, .int 0]))]) : Met l yJx4a65c_init_da8c8 wsJx4a65c_init_da8c8 ({ frames := 3, cells := 0, slots := 0, locals := 52 } : Room) (m_Pc K A H0 [.ref q]) (va_Qv (fun H1 => va_P K.1 vwCl [(q, .inr (0, [.int (nI 0), .ref (K.2.2 0), .int 0]))] H1) m_B A) 0 0 A := by
  refine m_ofW (by decide) rfl (Nat.le_of_ble_eq_true rfl) ?_
  intro p e s m args below meth c ls hx hb hr hml hown hts hlk hnm hE hsz hS hl
  have hl : lv_has ls 1 [(0, .ref q)] := hl
  have x1 := hts (.methodLink RJx4a65c 1 yJxc12de_init_da8c8) (by decide +kernel)
  have zJxc12de_init_da8c8 := hts (.instanceMethod yJxc12de_init_da8c8) (by decide +kernel)
  have nRJxc12de := hts (.initialized RJxc12de) (by decide +kernel)
  have gsl := hts (.fieldLink RJx4a65c 39 "java/util/ArrayList" "DEFAULTCAPACITY_EMPTY_ELEMENTDATA" "[Ljava/lang/Object;") (by decide +kernel)
  have iJx4a65c : ∀ w ∈ wsJx4a65c0, w ∈ wsJx4a65c_init_da8c8 := by decide +kernel
  have f9 := hts (.fieldLink RJx4a65c 9 "java/util/ArrayList" "elementData" "[Ljava/lang/Object;") (by decide +kernel)
  refine lv_aload_n hx hb dJx4a65c_init_da8c8_0 rfl (lv_at hl 0 rfl) ?_
  refine m_cIv (rest := []) ⟨hx, hb, hml, hown, hts⟩ hE hS (fun _ h => h) (kJxc12de_init_da8c8 l K A H0 q hP hD) (cwI 0 hts gJx4a65c_init_da8c8_Jxc12de_init_da8c8 rfl rfl rfl nRJxc12de x1 zJxc12de_init_da8c8 rfl (by decide +kernel) ⟨Nat.le_of_ble_eq_true rfl, Nat.le_of_ble_eq_true rfl⟩) rfl rfl hl.1 rfl (Nat.le_of_ble_eq_true rfl) dJx4a65c_init_da8c8_1 ⟨Nat.le_of_ble_eq_true rfl, Nat.le_of_ble_eq_true rfl⟩ (fun H locs hp hS hk => ?_)
  obtain ⟨hP, hD⟩ := hp
  refine lv_aload_n hx hb dJx4a65c_init_da8c8_4 rfl (lv_at hl 0 rfl) ?_
  refine va_gets hx hb hE.2.2.2.2.2.2.2.1 hS hown gsl (fun _ h9 => h9) dJx4a65c_init_da8c8_5 ?_
  refine va_put (D := K.1) (ci := 0) (v := .ref (K.2.2 0)) (ty := .array (.object "java/lang/Object")) (C := RJx4a65c) (T := TJx4a65c) (N := 3) hx hb hts iJx4a65c tyJx4a65c tyJx4a65c_ok nmJx4a65c hown hE.k hP hD hS 0 rfl rfl 1 (by decide) f9 (fun _ h9 => h9) rfl (by decide +kernel) rfl rfl (Nat.le_of_ble_eq_true rfl) dJx4a65c_init_da8c8_8 (fun H locs hP hD hS => ?_)
  have hP : va_P K.1 vwCl ([(q, .inr (0, [.int (nI 0), .ref (K.2.2 0), .int 0]))]) H := hP
  have hD : va_D A ([(q, .inr (0, [.int (nI 0), .ref (K.2.2 0), .int 0]))]) := hD
  exact m_vret hx hb hr hlk hS (Nat.le_of_ble_eq_true rfl) (Nat.le_of_ble_eq_true rfl) dJx4a65c_init_da8c8_11 hP

set_option maxHeartbeats 4000000 in
set_option maxRecDepth 100000 in
theorem kX2_init (l : Launch) (K : m_K) (A : Nat → Prop) (H0 : Heap) (o : Nat) (hP : va_P K.1 vwCl [(o, .inr (3, [.null, .null, .null, .null, .int 0, .null, .null, .null, .null, .null]))] H0) (hD : va_D A [(o, .inr (3, [.null, .null, .null, .null, .int 0, .null, .null, .null, .null, .null]))]) (hA : ∀ q, H0.size ≤ q → A q) : Met l yX2_init wsX2_init ({ frames := 4, cells := 10, slots := 660, locals := 72 } : Room) (m_Pc K A H0 [.ref o]) (va_Qv (fun H1 => ∃ ad, cOK K A H1 o ad (fun _ => 0) (fun _ => nI 1) (fun _ => nI 1) [] (fun _ => none) (fun _ => 0) (fun _ => 0) []) m_B A) 10 660 A := by
  refine m_ofW (by decide) rfl (Nat.le_of_ble_eq_true rfl) ?_
  intro p e s m args below meth c ls hx hb hr hml hown hts hlk hnm hE hsz hS hl
  have hl : lv_has ls 1 [(0, .ref o)] := hl
  have hA0 : ∀ q, s.heap.size ≤ q → A q := fun q h => hA q (by rw [← hsz]; exact h)
  have oi1 := hts (.methodLink RX2 1 objectInit) (by decide +kernel)
  have oii := hts (.instanceMethod objectInit) (by decide +kernel)
  have oic := hts (.code objectInit ⟨#[0xb1]⟩ 1 none) (by decide +kernel)
  have ai := hts (.arrayClass .int) (by decide +kernel)
  have iX2 : ∀ w ∈ wsX20, w ∈ wsX2_init := by decide +kernel
  have f9 := hts (.fieldLink RX2 9 "PhraseCatalogue" "fallbacks" "[I") (by decide +kernel)
  have f13 := hts (.fieldLink RX2 13 "PhraseCatalogue" "onesLimits" "[I") (by decide +kernel)
  have f16 := hts (.fieldLink RX2 16 "PhraseCatalogue" "fewLimits" "[I") (by decide +kernel)
  have f25 := hts (.fieldLink RX2 25 "PhraseCatalogue" "draftSigns" "[I") (by decide +kernel)
  have f28 := hts (.fieldLink RX2 28 "PhraseCatalogue" "draftLength" "I") (by decide +kernel)
  have cl32 := hts (.classLink RX2 32 "PhraseCatalogue$Form") (by decide +kernel)
  have f34 := hts (.fieldLink RX2 34 "PhraseCatalogue" "formTable" "[LPhraseCatalogue$Form;") (by decide +kernel)
  have f38 := hts (.fieldLink RX2 38 "PhraseCatalogue" "sourceVersions" "[I") (by decide +kernel)
  have f41 := hts (.fieldLink RX2 41 "PhraseCatalogue" "seenVersions" "[I") (by decide +kernel)
  have iJx4a65c : ∀ w ∈ wsJx4a65c0, w ∈ wsX2_init := by decide +kernel
  have cl44 := hts (.classLink RX2 44 RJx4a65c) (by decide +kernel)
  have inJ := hts (.instantiable RJx4a65c 3) (by decide +kernel)
  have niJ := hts (.initialized RJx4a65c) (by decide +kernel)
  have x46 := hts (.methodLink RX2 46 yJx4a65c_init_da8c8) (by decide +kernel)
  have zJx4a65c_init_da8c8 := hts (.instanceMethod yJx4a65c_init_da8c8) (by decide +kernel)
  have nRJx4a65c := hts (.initialized RJx4a65c) (by decide +kernel)
  have f47 := hts (.fieldLink RX2 47 "PhraseCatalogue" "past" "Ljava/util/ArrayList;") (by decide +kernel)
  have f51 := hts (.fieldLink RX2 51 "PhraseCatalogue" "distanceRow" "[I") (by decide +kernel)
  refine lv_aload_n hx hb dX2_init_0 rfl (lv_at hl 0 rfl) ?_
  refine W.objInit hx hb hown oi1 oii oic rfl (by rw [hml]; exact hl.1) rfl dX2_init_1 (Nat.le_of_ble_eq_true rfl) (Nat.le_of_ble_eq_true rfl) ?_
  refine W.eq (g2 := F0 m 4 ls []) rfl ?_
  refine lv_aload_n hx hb dX2_init_4 rfl (lv_at hl 0 rfl) ?_
  refine lv_bipush (v := nI 6) hx hb dX2_init_5 (by decide) ?_
  refine m_newi hx hb hE.k hP hD hS hA0 ai (by decide) (Nat.le_of_ble_eq_true rfl) (Nat.le_of_ble_eq_true rfl) dX2_init_7 (fun b0 H hb0 hs_b0 hP hD hS => ?_)
  have hP : va_P K.1 vwCl ([(o, .inr (3, [.null, .null, .null, .null, .int 0, .null, .null, .null, .null, .null])), (b0, .inl (K.2.1 0, 6, .inl (fun _ => 0)))]) H := hP
  have hD : va_D A ([(o, .inr (3, [.null, .null, .null, .null, .int 0, .null, .null, .null, .null, .null])), (b0, .inl (K.2.1 0, 6, .inl (fun _ => 0)))]) := hD
  refine va_putF (D := K.1) (ci := 3) (v := .ref b0) (ty := .array .int) (C := RX2) (T := TX2) (N := 10) hx hb hts iX2 tyX2 tyX2_ok nmX2 hown hE.k hP hD hS 0 rfl rfl 0 (by decide) f9 (fun _ h9 => h9) rfl hnm rfl (by decide +kernel) rfl rfl (Nat.le_of_ble_eq_true rfl) dX2_init_9 (fun H locs hP hD hS => ?_)
  have hP : va_P K.1 vwCl ([(o, .inr (3, [.ref b0, .null, .null, .null, .int 0, .null, .null, .null, .null, .null])), (b0, .inl (K.2.1 0, 6, .inl (fun _ => 0)))]) H := hP
  have hD : va_D A ([(o, .inr (3, [.ref b0, .null, .null, .null, .int 0, .null, .null, .null, .null, .null])), (b0, .inl (K.2.1 0, 6, .inl (fun _ => 0)))]) := hD
  refine lv_aload_n hx hb dX2_init_12 rfl (lv_at hl 0 rfl) ?_
  refine lv_bipush (v := nI 6) hx hb dX2_init_13 (by decide) ?_
  refine m_newi hx hb hE.k hP hD hS hA0 ai (by decide) (Nat.le_of_ble_eq_true rfl) (Nat.le_of_ble_eq_true rfl) dX2_init_15 (fun b1 H hb1 hs_b1 hP hD hS => ?_)
  have hP : va_P K.1 vwCl ([(o, .inr (3, [.ref b0, .null, .null, .null, .int 0, .null, .null, .null, .null, .null])), (b0, .inl (K.2.1 0, 6, .inl (fun _ => 0))), (b1, .inl (K.2.1 0, 6, .inl (fun _ => 0)))]) H := hP
  have hD : va_D A ([(o, .inr (3, [.ref b0, .null, .null, .null, .int 0, .null, .null, .null, .null, .null])), (b0, .inl (K.2.1 0, 6, .inl (fun _ => 0))), (b1, .inl (K.2.1 0, 6, .inl (fun _ => 0)))]) := hD
  refine va_putF (D := K.1) (ci := 3) (v := .ref b1) (ty := .array .int) (C := RX2) (T := TX2) (N := 10) hx hb hts iX2 tyX2 tyX2_ok nmX2 hown hE.k hP hD hS 0 rfl rfl 1 (by decide) f13 (fun _ h9 => h9) rfl hnm rfl (by decide +kernel) rfl rfl (Nat.le_of_ble_eq_true rfl) dX2_init_17 (fun H locs hP hD hS => ?_)
  have hP : va_P K.1 vwCl ([(o, .inr (3, [.ref b0, .ref b1, .null, .null, .int 0, .null, .null, .null, .null, .null])), (b0, .inl (K.2.1 0, 6, .inl (fun _ => 0))), (b1, .inl (K.2.1 0, 6, .inl (fun _ => 0)))]) H := hP
  have hD : va_D A ([(o, .inr (3, [.ref b0, .ref b1, .null, .null, .int 0, .null, .null, .null, .null, .null])), (b0, .inl (K.2.1 0, 6, .inl (fun _ => 0))), (b1, .inl (K.2.1 0, 6, .inl (fun _ => 0)))]) := hD
  refine lv_aload_n hx hb dX2_init_20 rfl (lv_at hl 0 rfl) ?_
  refine lv_bipush (v := nI 6) hx hb dX2_init_21 (by decide) ?_
  refine m_newi hx hb hE.k hP hD hS hA0 ai (by decide) (Nat.le_of_ble_eq_true rfl) (Nat.le_of_ble_eq_true rfl) dX2_init_23 (fun b2 H hb2 hs_b2 hP hD hS => ?_)
  have hP : va_P K.1 vwCl ([(o, .inr (3, [.ref b0, .ref b1, .null, .null, .int 0, .null, .null, .null, .null, .null])), (b0, .inl (K.2.1 0, 6, .inl (fun _ => 0))), (b1, .inl (K.2.1 0, 6, .inl (fun _ => 0))), (b2, .inl (K.2.1 0, 6, .inl (fun _ => 0)))]) H := hP
  have hD : va_D A ([(o, .inr (3, [.ref b0, .ref b1, .null, .null, .int 0, .null, .null, .null, .null, .null])), (b0, .inl (K.2.1 0, 6, .inl (fun _ => 0))), (b1, .inl (K.2.1 0, 6, .inl (fun _ => 0))), (b2, .inl (K.2.1 0, 6, .inl (fun _ => 0)))]) := hD
  refine va_putF (D := K.1) (ci := 3) (v := .ref b2) (ty := .array .int) (C := RX2) (T := TX2) (N := 10) hx hb hts iX2 tyX2 tyX2_ok nmX2 hown hE.k hP hD hS 0 rfl rfl 2 (by decide) f16 (fun _ h9 => h9) rfl hnm rfl (by decide +kernel) rfl rfl (Nat.le_of_ble_eq_true rfl) dX2_init_25 (fun H locs hP hD hS => ?_)
  have hP : va_P K.1 vwCl ([(o, .inr (3, [.ref b0, .ref b1, .ref b2, .null, .int 0, .null, .null, .null, .null, .null])), (b0, .inl (K.2.1 0, 6, .inl (fun _ => 0))), (b1, .inl (K.2.1 0, 6, .inl (fun _ => 0))), (b2, .inl (K.2.1 0, 6, .inl (fun _ => 0)))]) H := hP
  have hD : va_D A ([(o, .inr (3, [.ref b0, .ref b1, .ref b2, .null, .int 0, .null, .null, .null, .null, .null])), (b0, .inl (K.2.1 0, 6, .inl (fun _ => 0))), (b1, .inl (K.2.1 0, 6, .inl (fun _ => 0))), (b2, .inl (K.2.1 0, 6, .inl (fun _ => 0)))]) := hD
  refine lv_aload_n hx hb dX2_init_28 rfl (lv_at hl 0 rfl) ?_
  refine va_get (D := K.1) (ci := 3) (v := .ref b1) (C := RX2) (T := TX2) (N := 10) hx hb hts iX2 hown hE.k hP 0 rfl rfl 1 (by decide) f13 (fun _ h9 => h9) rfl dX2_init_29 ?_
  refine lv_iconst (v := nI 1) hx hb dX2_init_32 (by decide) ?_
  refine m_cSv (rest := []) ⟨hx, hb, hml, hown, hts⟩ hE hS (fun x hx => by rw [hx]; exact hD.2 2 _ rfl) (kJ7_fill_53178 l K (fun x => x = b1) _ b1 6 (fun _ => 0) (nI 1) (by decide) (m_sing hP (k := 2) rfl) m_one) (va_cwS 2 hts gX2_init_J7_fill_53178 rfl rfl rfl (by decide +kernel) ⟨Nat.le_of_ble_eq_true rfl, Nat.le_of_ble_eq_true rfl⟩) rfl rfl hl.1 rfl (Nat.le_of_ble_eq_true rfl) dX2_init_33 ⟨Nat.le_of_ble_eq_true rfl, Nat.le_of_ble_eq_true rfl⟩ (fun H1 locs hp hS hk => ?_)
  obtain ⟨g1, hp, hg1⟩ := hp
  obtain ⟨hP, hD⟩ := m_upd1 (i := 2) hP hD rfl hk hp
  clear hp hk
  generalize H1 = H at hP hS ⊢
  have hP : va_P K.1 vwCl ([(o, .inr (3, [.ref b0, .ref b1, .ref b2, .null, .int 0, .null, .null, .null, .null, .null])), (b0, .inl (K.2.1 0, 6, .inl (fun _ => 0))), (b1, .inl (K.2.1 0, 6, .inl g1)), (b2, .inl (K.2.1 0, 6, .inl (fun _ => 0)))]) H := hP
  have hD : va_D A ([(o, .inr (3, [.ref b0, .ref b1, .ref b2, .null, .int 0, .null, .null, .null, .null, .null])), (b0, .inl (K.2.1 0, 6, .inl (fun _ => 0))), (b1, .inl (K.2.1 0, 6, .inl g1)), (b2, .inl (K.2.1 0, 6, .inl (fun _ => 0)))]) := hD
  refine lv_aload_n hx hb dX2_init_36 rfl (lv_at hl 0 rfl) ?_
  refine va_get (D := K.1) (ci := 3) (v := .ref b2) (C := RX2) (T := TX2) (N := 10) hx hb hts iX2 hown hE.k hP 0 rfl rfl 2 (by decide) f16 (fun _ h9 => h9) rfl dX2_init_37 ?_
  refine lv_iconst (v := nI 1) hx hb dX2_init_40 (by decide) ?_
  refine m_cSv (rest := []) ⟨hx, hb, hml, hown, hts⟩ hE hS (fun x hx => by rw [hx]; exact hD.2 3 _ rfl) (kJ7_fill_53178 l K (fun x => x = b2) _ b2 6 (fun _ => 0) (nI 1) (by decide) (m_sing hP (k := 3) rfl) m_one) (va_cwS 2 hts gX2_init_J7_fill_53178 rfl rfl rfl (by decide +kernel) ⟨Nat.le_of_ble_eq_true rfl, Nat.le_of_ble_eq_true rfl⟩) rfl rfl hl.1 rfl (Nat.le_of_ble_eq_true rfl) dX2_init_41 ⟨Nat.le_of_ble_eq_true rfl, Nat.le_of_ble_eq_true rfl⟩ (fun H1 locs hp hS hk => ?_)
  obtain ⟨g2, hp, hg2⟩ := hp
  obtain ⟨hP, hD⟩ := m_upd1 (i := 3) hP hD rfl hk hp
  clear hp hk
  generalize H1 = H at hP hS ⊢
  have hP : va_P K.1 vwCl ([(o, .inr (3, [.ref b0, .ref b1, .ref b2, .null, .int 0, .null, .null, .null, .null, .null])), (b0, .inl (K.2.1 0, 6, .inl (fun _ => 0))), (b1, .inl (K.2.1 0, 6, .inl g1)), (b2, .inl (K.2.1 0, 6, .inl g2))]) H := hP
  have hD : va_D A ([(o, .inr (3, [.ref b0, .ref b1, .ref b2, .null, .int 0, .null, .null, .null, .null, .null])), (b0, .inl (K.2.1 0, 6, .inl (fun _ => 0))), (b1, .inl (K.2.1 0, 6, .inl g1)), (b2, .inl (K.2.1 0, 6, .inl g2))]) := hD
  refine lv_aload_n hx hb dX2_init_44 rfl (lv_at hl 0 rfl) ?_
  refine lv_bipush (v := nI 8) hx hb dX2_init_45 (by decide) ?_
  refine m_newi hx hb hE.k hP hD hS hA0 ai (by decide) (Nat.le_of_ble_eq_true rfl) (Nat.le_of_ble_eq_true rfl) dX2_init_47 (fun b3 H hb3 hs_b3 hP hD hS => ?_)
  have hP : va_P K.1 vwCl ([(o, .inr (3, [.ref b0, .ref b1, .ref b2, .null, .int 0, .null, .null, .null, .null, .null])), (b0, .inl (K.2.1 0, 6, .inl (fun _ => 0))), (b1, .inl (K.2.1 0, 6, .inl g1)), (b2, .inl (K.2.1 0, 6, .inl g2)), (b3, .inl (K.2.1 0, 8, .inl (fun _ => 0)))]) H := hP
  have hD : va_D A ([(o, .inr (3, [.ref b0, .ref b1, .ref b2, .null, .int 0, .null, .null, .null, .null, .null])), (b0, .inl (K.2.1 0, 6, .inl (fun _ => 0))), (b1, .inl (K.2.1 0, 6, .inl g1)), (b2, .inl (K.2.1 0, 6, .inl g2)), (b3, .inl (K.2.1 0, 8, .inl (fun _ => 0)))]) := hD
  refine va_putF (D := K.1) (ci := 3) (v := .ref b3) (ty := .array .int) (C := RX2) (T := TX2) (N := 10) hx hb hts iX2 tyX2 tyX2_ok nmX2 hown hE.k hP hD hS 0 rfl rfl 3 (by decide) f25 (fun _ h9 => h9) rfl hnm rfl (by decide +kernel) rfl rfl (Nat.le_of_ble_eq_true rfl) dX2_init_49 (fun H locs hP hD hS => ?_)
  have hP : va_P K.1 vwCl ([(o, .inr (3, [.ref b0, .ref b1, .ref b2, .ref b3, .int 0, .null, .null, .null, .null, .null])), (b0, .inl (K.2.1 0, 6, .inl (fun _ => 0))), (b1, .inl (K.2.1 0, 6, .inl g1)), (b2, .inl (K.2.1 0, 6, .inl g2)), (b3, .inl (K.2.1 0, 8, .inl (fun _ => 0)))]) H := hP
  have hD : va_D A ([(o, .inr (3, [.ref b0, .ref b1, .ref b2, .ref b3, .int 0, .null, .null, .null, .null, .null])), (b0, .inl (K.2.1 0, 6, .inl (fun _ => 0))), (b1, .inl (K.2.1 0, 6, .inl g1)), (b2, .inl (K.2.1 0, 6, .inl g2)), (b3, .inl (K.2.1 0, 8, .inl (fun _ => 0)))]) := hD
  refine lv_aload_n hx hb dX2_init_52 rfl (lv_at hl 0 rfl) ?_
  refine lv_iconst (v := nI 0) hx hb dX2_init_53 (by decide) ?_
  refine va_put (D := K.1) (ci := 3) (v := .int (nI 0)) (ty := .int) (C := RX2) (T := TX2) (N := 10) hx hb hts iX2 tyX2 tyX2_ok nmX2 hown hE.k hP hD hS 0 rfl rfl 4 (by decide) f28 (fun _ h9 => h9) rfl (by decide +kernel) rfl rfl (Nat.le_of_ble_eq_true rfl) dX2_init_54 (fun H locs hP hD hS => ?_)
  have hP : va_P K.1 vwCl ([(o, .inr (3, [.ref b0, .ref b1, .ref b2, .ref b3, .int (nI 0), .null, .null, .null, .null, .null])), (b0, .inl (K.2.1 0, 6, .inl (fun _ => 0))), (b1, .inl (K.2.1 0, 6, .inl g1)), (b2, .inl (K.2.1 0, 6, .inl g2)), (b3, .inl (K.2.1 0, 8, .inl (fun _ => 0)))]) H := hP
  have hD : va_D A ([(o, .inr (3, [.ref b0, .ref b1, .ref b2, .ref b3, .int (nI 0), .null, .null, .null, .null, .null])), (b0, .inl (K.2.1 0, 6, .inl (fun _ => 0))), (b1, .inl (K.2.1 0, 6, .inl g1)), (b2, .inl (K.2.1 0, 6, .inl g2)), (b3, .inl (K.2.1 0, 8, .inl (fun _ => 0)))]) := hD
  refine lv_aload_n hx hb dX2_init_57 rfl (lv_at hl 0 rfl) ?_
  refine lv_sipush (v := nI 540) hx hb dX2_init_58 (by decide) ?_
  refine m_newq2 hx hb hE.k hP hD hS hA0 hown cl32 hE.2.2.2.2.2.2.2.2.2.2.2.1 (by decide) (Nat.le_of_ble_eq_true rfl) (Nat.le_of_ble_eq_true rfl) dX2_init_61 (fun b5 H hb5 hs_b5 hP hD hS => ?_)
  have hP : va_P K.1 vwCl ([(o, .inr (3, [.ref b0, .ref b1, .ref b2, .ref b3, .int (nI 0), .null, .null, .null, .null, .null])), (b0, .inl (K.2.1 0, 6, .inl (fun _ => 0))), (b1, .inl (K.2.1 0, 6, .inl g1)), (b2, .inl (K.2.1 0, 6, .inl g2)), (b3, .inl (K.2.1 0, 8, .inl (fun _ => 0))), (b5, .inl (K.2.1 2, 540, .inr (.inr (.inr (.inr (fun _ => none))))))]) H := hP
  have hD : va_D A ([(o, .inr (3, [.ref b0, .ref b1, .ref b2, .ref b3, .int (nI 0), .null, .null, .null, .null, .null])), (b0, .inl (K.2.1 0, 6, .inl (fun _ => 0))), (b1, .inl (K.2.1 0, 6, .inl g1)), (b2, .inl (K.2.1 0, 6, .inl g2)), (b3, .inl (K.2.1 0, 8, .inl (fun _ => 0))), (b5, .inl (K.2.1 2, 540, .inr (.inr (.inr (.inr (fun _ => none))))))]) := hD
  refine va_putF (D := K.1) (ci := 3) (v := .ref b5) (ty := .array (.object "PhraseCatalogue$Form")) (C := RX2) (T := TX2) (N := 10) hx hb hts iX2 tyX2 tyX2_ok nmX2 hown hE.k hP hD hS 0 rfl rfl 5 (by decide) f34 (fun _ h9 => h9) rfl hnm rfl (by decide +kernel) rfl rfl (Nat.le_of_ble_eq_true rfl) dX2_init_64 (fun H locs hP hD hS => ?_)
  have hP : va_P K.1 vwCl ([(o, .inr (3, [.ref b0, .ref b1, .ref b2, .ref b3, .int (nI 0), .ref b5, .null, .null, .null, .null])), (b0, .inl (K.2.1 0, 6, .inl (fun _ => 0))), (b1, .inl (K.2.1 0, 6, .inl g1)), (b2, .inl (K.2.1 0, 6, .inl g2)), (b3, .inl (K.2.1 0, 8, .inl (fun _ => 0))), (b5, .inl (K.2.1 2, 540, .inr (.inr (.inr (.inr (fun _ => none))))))]) H := hP
  have hD : va_D A ([(o, .inr (3, [.ref b0, .ref b1, .ref b2, .ref b3, .int (nI 0), .ref b5, .null, .null, .null, .null])), (b0, .inl (K.2.1 0, 6, .inl (fun _ => 0))), (b1, .inl (K.2.1 0, 6, .inl g1)), (b2, .inl (K.2.1 0, 6, .inl g2)), (b3, .inl (K.2.1 0, 8, .inl (fun _ => 0))), (b5, .inl (K.2.1 2, 540, .inr (.inr (.inr (.inr (fun _ => none))))))]) := hD
  refine lv_aload_n hx hb dX2_init_67 rfl (lv_at hl 0 rfl) ?_
  refine lv_bipush (v := nI 10) hx hb dX2_init_68 (by decide) ?_
  refine m_newi hx hb hE.k hP hD hS hA0 ai (by decide) (Nat.le_of_ble_eq_true rfl) (Nat.le_of_ble_eq_true rfl) dX2_init_70 (fun b6 H hb6 hs_b6 hP hD hS => ?_)
  have hP : va_P K.1 vwCl ([(o, .inr (3, [.ref b0, .ref b1, .ref b2, .ref b3, .int (nI 0), .ref b5, .null, .null, .null, .null])), (b0, .inl (K.2.1 0, 6, .inl (fun _ => 0))), (b1, .inl (K.2.1 0, 6, .inl g1)), (b2, .inl (K.2.1 0, 6, .inl g2)), (b3, .inl (K.2.1 0, 8, .inl (fun _ => 0))), (b5, .inl (K.2.1 2, 540, .inr (.inr (.inr (.inr (fun _ => none)))))), (b6, .inl (K.2.1 0, 10, .inl (fun _ => 0)))]) H := hP
  have hD : va_D A ([(o, .inr (3, [.ref b0, .ref b1, .ref b2, .ref b3, .int (nI 0), .ref b5, .null, .null, .null, .null])), (b0, .inl (K.2.1 0, 6, .inl (fun _ => 0))), (b1, .inl (K.2.1 0, 6, .inl g1)), (b2, .inl (K.2.1 0, 6, .inl g2)), (b3, .inl (K.2.1 0, 8, .inl (fun _ => 0))), (b5, .inl (K.2.1 2, 540, .inr (.inr (.inr (.inr (fun _ => none)))))), (b6, .inl (K.2.1 0, 10, .inl (fun _ => 0)))]) := hD
  refine va_putF (D := K.1) (ci := 3) (v := .ref b6) (ty := .array .int) (C := RX2) (T := TX2) (N := 10) hx hb hts iX2 tyX2 tyX2_ok nmX2 hown hE.k hP hD hS 0 rfl rfl 6 (by decide) f38 (fun _ h9 => h9) rfl hnm rfl (by decide +kernel) rfl rfl (Nat.le_of_ble_eq_true rfl) dX2_init_72 (fun H locs hP hD hS => ?_)
  have hP : va_P K.1 vwCl ([(o, .inr (3, [.ref b0, .ref b1, .ref b2, .ref b3, .int (nI 0), .ref b5, .ref b6, .null, .null, .null])), (b0, .inl (K.2.1 0, 6, .inl (fun _ => 0))), (b1, .inl (K.2.1 0, 6, .inl g1)), (b2, .inl (K.2.1 0, 6, .inl g2)), (b3, .inl (K.2.1 0, 8, .inl (fun _ => 0))), (b5, .inl (K.2.1 2, 540, .inr (.inr (.inr (.inr (fun _ => none)))))), (b6, .inl (K.2.1 0, 10, .inl (fun _ => 0)))]) H := hP
  have hD : va_D A ([(o, .inr (3, [.ref b0, .ref b1, .ref b2, .ref b3, .int (nI 0), .ref b5, .ref b6, .null, .null, .null])), (b0, .inl (K.2.1 0, 6, .inl (fun _ => 0))), (b1, .inl (K.2.1 0, 6, .inl g1)), (b2, .inl (K.2.1 0, 6, .inl g2)), (b3, .inl (K.2.1 0, 8, .inl (fun _ => 0))), (b5, .inl (K.2.1 2, 540, .inr (.inr (.inr (.inr (fun _ => none)))))), (b6, .inl (K.2.1 0, 10, .inl (fun _ => 0)))]) := hD
  refine lv_aload_n hx hb dX2_init_75 rfl (lv_at hl 0 rfl) ?_
  refine lv_bipush (v := nI 60) hx hb dX2_init_76 (by decide) ?_
  refine m_newi hx hb hE.k hP hD hS hA0 ai (by decide) (Nat.le_of_ble_eq_true rfl) (Nat.le_of_ble_eq_true rfl) dX2_init_78 (fun b7 H hb7 hs_b7 hP hD hS => ?_)
  have hP : va_P K.1 vwCl ([(o, .inr (3, [.ref b0, .ref b1, .ref b2, .ref b3, .int (nI 0), .ref b5, .ref b6, .null, .null, .null])), (b0, .inl (K.2.1 0, 6, .inl (fun _ => 0))), (b1, .inl (K.2.1 0, 6, .inl g1)), (b2, .inl (K.2.1 0, 6, .inl g2)), (b3, .inl (K.2.1 0, 8, .inl (fun _ => 0))), (b5, .inl (K.2.1 2, 540, .inr (.inr (.inr (.inr (fun _ => none)))))), (b6, .inl (K.2.1 0, 10, .inl (fun _ => 0))), (b7, .inl (K.2.1 0, 60, .inl (fun _ => 0)))]) H := hP
  have hD : va_D A ([(o, .inr (3, [.ref b0, .ref b1, .ref b2, .ref b3, .int (nI 0), .ref b5, .ref b6, .null, .null, .null])), (b0, .inl (K.2.1 0, 6, .inl (fun _ => 0))), (b1, .inl (K.2.1 0, 6, .inl g1)), (b2, .inl (K.2.1 0, 6, .inl g2)), (b3, .inl (K.2.1 0, 8, .inl (fun _ => 0))), (b5, .inl (K.2.1 2, 540, .inr (.inr (.inr (.inr (fun _ => none)))))), (b6, .inl (K.2.1 0, 10, .inl (fun _ => 0))), (b7, .inl (K.2.1 0, 60, .inl (fun _ => 0)))]) := hD
  refine va_putF (D := K.1) (ci := 3) (v := .ref b7) (ty := .array .int) (C := RX2) (T := TX2) (N := 10) hx hb hts iX2 tyX2 tyX2_ok nmX2 hown hE.k hP hD hS 0 rfl rfl 7 (by decide) f41 (fun _ h9 => h9) rfl hnm rfl (by decide +kernel) rfl rfl (Nat.le_of_ble_eq_true rfl) dX2_init_80 (fun H locs hP hD hS => ?_)
  have hP : va_P K.1 vwCl ([(o, .inr (3, [.ref b0, .ref b1, .ref b2, .ref b3, .int (nI 0), .ref b5, .ref b6, .ref b7, .null, .null])), (b0, .inl (K.2.1 0, 6, .inl (fun _ => 0))), (b1, .inl (K.2.1 0, 6, .inl g1)), (b2, .inl (K.2.1 0, 6, .inl g2)), (b3, .inl (K.2.1 0, 8, .inl (fun _ => 0))), (b5, .inl (K.2.1 2, 540, .inr (.inr (.inr (.inr (fun _ => none)))))), (b6, .inl (K.2.1 0, 10, .inl (fun _ => 0))), (b7, .inl (K.2.1 0, 60, .inl (fun _ => 0)))]) H := hP
  have hD : va_D A ([(o, .inr (3, [.ref b0, .ref b1, .ref b2, .ref b3, .int (nI 0), .ref b5, .ref b6, .ref b7, .null, .null])), (b0, .inl (K.2.1 0, 6, .inl (fun _ => 0))), (b1, .inl (K.2.1 0, 6, .inl g1)), (b2, .inl (K.2.1 0, 6, .inl g2)), (b3, .inl (K.2.1 0, 8, .inl (fun _ => 0))), (b5, .inl (K.2.1 2, 540, .inr (.inr (.inr (.inr (fun _ => none)))))), (b6, .inl (K.2.1 0, 10, .inl (fun _ => 0))), (b7, .inl (K.2.1 0, 60, .inl (fun _ => 0)))]) := hD
  refine lv_aload_n hx hb dX2_init_83 rfl (lv_at hl 0 rfl) ?_
  refine va_new (ci := 0) (fs := [.int 0, .null, .int 0]) (C := RJx4a65c) (T := TJx4a65c) (N := 3) hx hb hts iJx4a65c tyJx4a65c tyJx4a65c_ok hown cl44 inJ niJ hE.k hP hD hS hA0 rfl (fun j hj => by rcases (show j = 0 ∨ j = 1 ∨ j = 2 by omega) with rfl | rfl | rfl <;> rfl) (Nat.le_of_ble_eq_true rfl) (Nat.le_of_ble_eq_true rfl) dX2_init_84 (fun b8 H hP hD hS => ?_)
  have hP : va_P K.1 vwCl ([(o, .inr (3, [.ref b0, .ref b1, .ref b2, .ref b3, .int (nI 0), .ref b5, .ref b6, .ref b7, .null, .null])), (b0, .inl (K.2.1 0, 6, .inl (fun _ => 0))), (b1, .inl (K.2.1 0, 6, .inl g1)), (b2, .inl (K.2.1 0, 6, .inl g2)), (b3, .inl (K.2.1 0, 8, .inl (fun _ => 0))), (b5, .inl (K.2.1 2, 540, .inr (.inr (.inr (.inr (fun _ => none)))))), (b6, .inl (K.2.1 0, 10, .inl (fun _ => 0))), (b7, .inl (K.2.1 0, 60, .inl (fun _ => 0))), (b8, .inr (0, [.int 0, .null, .int 0]))]) H := hP
  have hD : va_D A ([(o, .inr (3, [.ref b0, .ref b1, .ref b2, .ref b3, .int (nI 0), .ref b5, .ref b6, .ref b7, .null, .null])), (b0, .inl (K.2.1 0, 6, .inl (fun _ => 0))), (b1, .inl (K.2.1 0, 6, .inl g1)), (b2, .inl (K.2.1 0, 6, .inl g2)), (b3, .inl (K.2.1 0, 8, .inl (fun _ => 0))), (b5, .inl (K.2.1 2, 540, .inr (.inr (.inr (.inr (fun _ => none)))))), (b6, .inl (K.2.1 0, 10, .inl (fun _ => 0))), (b7, .inl (K.2.1 0, 60, .inl (fun _ => 0))), (b8, .inr (0, [.int 0, .null, .int 0]))]) := hD
  refine lv_dup hx hb dX2_init_87 rfl ?_
  refine m_cIv (rest := [.ref b8, .ref o]) ⟨hx, hb, hml, hown, hts⟩ hE hS (fun x hx => by rw [hx]; exact hD.2 8 _ rfl) (kJx4a65c_init_da8c8 l K (fun x => x = b8) _ b8 (m_sing hP (k := 8) rfl) m_one) (cwI 0 hts gX2_init_Jx4a65c_init_da8c8 rfl rfl rfl nRJx4a65c x46 zJx4a65c_init_da8c8 rfl (by decide +kernel) ⟨Nat.le_of_ble_eq_true rfl, Nat.le_of_ble_eq_true rfl⟩) rfl rfl hl.1 rfl (Nat.le_of_ble_eq_true rfl) dX2_init_88 ⟨Nat.le_of_ble_eq_true rfl, Nat.le_of_ble_eq_true rfl⟩ (fun H1 locs hp hS hk => ?_)
  obtain ⟨hP, hD⟩ := m_upd1 (i := 8) hP hD rfl hk hp
  clear hp hk
  generalize H1 = H at hP hS ⊢
  have hP : va_P K.1 vwCl ([(o, .inr (3, [.ref b0, .ref b1, .ref b2, .ref b3, .int (nI 0), .ref b5, .ref b6, .ref b7, .null, .null])), (b0, .inl (K.2.1 0, 6, .inl (fun _ => 0))), (b1, .inl (K.2.1 0, 6, .inl g1)), (b2, .inl (K.2.1 0, 6, .inl g2)), (b3, .inl (K.2.1 0, 8, .inl (fun _ => 0))), (b5, .inl (K.2.1 2, 540, .inr (.inr (.inr (.inr (fun _ => none)))))), (b6, .inl (K.2.1 0, 10, .inl (fun _ => 0))), (b7, .inl (K.2.1 0, 60, .inl (fun _ => 0))), (b8, .inr (0, [.int (nI 0), .ref (K.2.2 0), .int 0]))]) H := hP
  have hD : va_D A ([(o, .inr (3, [.ref b0, .ref b1, .ref b2, .ref b3, .int (nI 0), .ref b5, .ref b6, .ref b7, .null, .null])), (b0, .inl (K.2.1 0, 6, .inl (fun _ => 0))), (b1, .inl (K.2.1 0, 6, .inl g1)), (b2, .inl (K.2.1 0, 6, .inl g2)), (b3, .inl (K.2.1 0, 8, .inl (fun _ => 0))), (b5, .inl (K.2.1 2, 540, .inr (.inr (.inr (.inr (fun _ => none)))))), (b6, .inl (K.2.1 0, 10, .inl (fun _ => 0))), (b7, .inl (K.2.1 0, 60, .inl (fun _ => 0))), (b8, .inr (0, [.int (nI 0), .ref (K.2.2 0), .int 0]))]) := hD
  refine va_putF (D := K.1) (ci := 3) (v := .ref b8) (ty := .object "java/util/ArrayList") (C := RX2) (T := TX2) (N := 10) hx hb hts iX2 tyX2 tyX2_ok nmX2 hown hE.k hP hD hS 0 rfl rfl 8 (by decide) f47 (fun _ h9 => h9) rfl hnm rfl (by decide +kernel) rfl rfl (Nat.le_of_ble_eq_true rfl) dX2_init_91 (fun H locs hP hD hS => ?_)
  have hP : va_P K.1 vwCl ([(o, .inr (3, [.ref b0, .ref b1, .ref b2, .ref b3, .int (nI 0), .ref b5, .ref b6, .ref b7, .ref b8, .null])), (b0, .inl (K.2.1 0, 6, .inl (fun _ => 0))), (b1, .inl (K.2.1 0, 6, .inl g1)), (b2, .inl (K.2.1 0, 6, .inl g2)), (b3, .inl (K.2.1 0, 8, .inl (fun _ => 0))), (b5, .inl (K.2.1 2, 540, .inr (.inr (.inr (.inr (fun _ => none)))))), (b6, .inl (K.2.1 0, 10, .inl (fun _ => 0))), (b7, .inl (K.2.1 0, 60, .inl (fun _ => 0))), (b8, .inr (0, [.int (nI 0), .ref (K.2.2 0), .int 0]))]) H := hP
  have hD : va_D A ([(o, .inr (3, [.ref b0, .ref b1, .ref b2, .ref b3, .int (nI 0), .ref b5, .ref b6, .ref b7, .ref b8, .null])), (b0, .inl (K.2.1 0, 6, .inl (fun _ => 0))), (b1, .inl (K.2.1 0, 6, .inl g1)), (b2, .inl (K.2.1 0, 6, .inl g2)), (b3, .inl (K.2.1 0, 8, .inl (fun _ => 0))), (b5, .inl (K.2.1 2, 540, .inr (.inr (.inr (.inr (fun _ => none)))))), (b6, .inl (K.2.1 0, 10, .inl (fun _ => 0))), (b7, .inl (K.2.1 0, 60, .inl (fun _ => 0))), (b8, .inr (0, [.int (nI 0), .ref (K.2.2 0), .int 0]))]) := hD
  refine lv_aload_n hx hb dX2_init_94 rfl (lv_at hl 0 rfl) ?_
  refine lv_bipush (v := nI 9) hx hb dX2_init_95 (by decide) ?_
  refine m_newi hx hb hE.k hP hD hS hA0 ai (by decide) (Nat.le_of_ble_eq_true rfl) (Nat.le_of_ble_eq_true rfl) dX2_init_97 (fun b9 H hb9 hs_b9 hP hD hS => ?_)
  have hP : va_P K.1 vwCl ([(o, .inr (3, [.ref b0, .ref b1, .ref b2, .ref b3, .int (nI 0), .ref b5, .ref b6, .ref b7, .ref b8, .null])), (b0, .inl (K.2.1 0, 6, .inl (fun _ => 0))), (b1, .inl (K.2.1 0, 6, .inl g1)), (b2, .inl (K.2.1 0, 6, .inl g2)), (b3, .inl (K.2.1 0, 8, .inl (fun _ => 0))), (b5, .inl (K.2.1 2, 540, .inr (.inr (.inr (.inr (fun _ => none)))))), (b6, .inl (K.2.1 0, 10, .inl (fun _ => 0))), (b7, .inl (K.2.1 0, 60, .inl (fun _ => 0))), (b8, .inr (0, [.int (nI 0), .ref (K.2.2 0), .int 0])), (b9, .inl (K.2.1 0, 9, .inl (fun _ => 0)))]) H := hP
  have hD : va_D A ([(o, .inr (3, [.ref b0, .ref b1, .ref b2, .ref b3, .int (nI 0), .ref b5, .ref b6, .ref b7, .ref b8, .null])), (b0, .inl (K.2.1 0, 6, .inl (fun _ => 0))), (b1, .inl (K.2.1 0, 6, .inl g1)), (b2, .inl (K.2.1 0, 6, .inl g2)), (b3, .inl (K.2.1 0, 8, .inl (fun _ => 0))), (b5, .inl (K.2.1 2, 540, .inr (.inr (.inr (.inr (fun _ => none)))))), (b6, .inl (K.2.1 0, 10, .inl (fun _ => 0))), (b7, .inl (K.2.1 0, 60, .inl (fun _ => 0))), (b8, .inr (0, [.int (nI 0), .ref (K.2.2 0), .int 0])), (b9, .inl (K.2.1 0, 9, .inl (fun _ => 0)))]) := hD
  refine va_putF (D := K.1) (ci := 3) (v := .ref b9) (ty := .array .int) (C := RX2) (T := TX2) (N := 10) hx hb hts iX2 tyX2 tyX2_ok nmX2 hown hE.k hP hD hS 0 rfl rfl 9 (by decide) f51 (fun _ h9 => h9) rfl hnm rfl (by decide +kernel) rfl rfl (Nat.le_of_ble_eq_true rfl) dX2_init_99 (fun H locs hP hD hS => ?_)
  have hP : va_P K.1 vwCl ([(o, .inr (3, [.ref b0, .ref b1, .ref b2, .ref b3, .int (nI 0), .ref b5, .ref b6, .ref b7, .ref b8, .ref b9])), (b0, .inl (K.2.1 0, 6, .inl (fun _ => 0))), (b1, .inl (K.2.1 0, 6, .inl g1)), (b2, .inl (K.2.1 0, 6, .inl g2)), (b3, .inl (K.2.1 0, 8, .inl (fun _ => 0))), (b5, .inl (K.2.1 2, 540, .inr (.inr (.inr (.inr (fun _ => none)))))), (b6, .inl (K.2.1 0, 10, .inl (fun _ => 0))), (b7, .inl (K.2.1 0, 60, .inl (fun _ => 0))), (b8, .inr (0, [.int (nI 0), .ref (K.2.2 0), .int 0])), (b9, .inl (K.2.1 0, 9, .inl (fun _ => 0)))]) H := hP
  have hD : va_D A ([(o, .inr (3, [.ref b0, .ref b1, .ref b2, .ref b3, .int (nI 0), .ref b5, .ref b6, .ref b7, .ref b8, .ref b9])), (b0, .inl (K.2.1 0, 6, .inl (fun _ => 0))), (b1, .inl (K.2.1 0, 6, .inl g1)), (b2, .inl (K.2.1 0, 6, .inl g2)), (b3, .inl (K.2.1 0, 8, .inl (fun _ => 0))), (b5, .inl (K.2.1 2, 540, .inr (.inr (.inr (.inr (fun _ => none)))))), (b6, .inl (K.2.1 0, 10, .inl (fun _ => 0))), (b7, .inl (K.2.1 0, 60, .inl (fun _ => 0))), (b8, .inr (0, [.int (nI 0), .ref (K.2.2 0), .int 0])), (b9, .inl (K.2.1 0, 9, .inl (fun _ => 0)))]) := hD
  have hP9 := hP.sub (ws' := cW K o (fun j => if j = 0 then b0 else if j = 1 then b1 else if j = 2 then b2 else if j = 3 then b3 else if j = 5 then b5 else if j = 6 then b6 else if j = 7 then b7 else if j = 8 then b8 else b9) (fun j => if j = 1 then g1 else if j = 2 then g2 else fun _ => 0) (nI 0) (fun _ => none) [.int (nI 0), .ref (K.2.2 0), .int (nI 0)] []) [0, 1, 2, 3, 4, 5, 6, 7, 9, 8] rfl
  have hD9 := hD.sub (ws' := cW K o (fun j => if j = 0 then b0 else if j = 1 then b1 else if j = 2 then b2 else if j = 3 then b3 else if j = 5 then b5 else if j = 6 then b6 else if j = 7 then b7 else if j = 8 then b8 else b9) (fun j => if j = 1 then g1 else if j = 2 then g2 else fun _ => 0) (nI 0) (fun _ => none) [.int (nI 0), .ref (K.2.2 0), .int (nI 0)] []) [0, 1, 2, 3, 4, 5, 6, 7, 9, 8] (by decide) rfl
  exact m_vret hx hb hr hlk hS (Nat.le_of_ble_eq_true rfl) (Nat.le_of_ble_eq_true rfl) dX2_init_102 ⟨_, _, _, _, _, _, hP9, hD9, fun i hi => ⟨rfl, by show (0 : Nat) < 6; decide⟩, hg1, hg2, ⟨rfl, by decide, fun j hj => absurd hj (Nat.not_lt_zero j)⟩, fun k hk => rfl, fun k hk => rfl, fun k g hk hg h0 => rfl, ⟨nI 0, .ref (K.2.2 0), fun _ => none, rfl, Or.inl ⟨rfl, rfl⟩, by decide, fun i P hP => by simp at hP⟩⟩
