
theorem inCls_lt {fm : Nat → Option Frm} {k g i u s : Nat} (h : inCls fm k g i u = some s) (hk : k < 10) (hg : g < 6) (hi : i < 3) (hu : u < 3) : s < 540 ∧ s / 9 % 6 = g := by
  unfold inCls at h
  split at h
  · cases h; omega
  · split at h
    · cases h; omega
    · cases h
theorem inLang_lt {fm : Nat → Option Frm} {k g i u s : Nat} (h : inLang fm k g i u = some s) (hk : k < 10) (hg : g < 6) (hi : i < 3) (hu : u < 3) : s < 540 ∧ s / 9 % 6 = g := by
  unfold inLang at h
  split at h
  · rename_i s9 e
    cases h
    exact inCls_lt e hk hg hi hu
  · exact inCls_lt h hk hg (by decide) hu

set_option maxHeartbeats 4000000 in
set_option maxRecDepth 100000 in
/-- findInClass -/
theorem kX2_findInClass (l : Launch) (K : m_K) (A : Nat → Prop) (H0 : Heap) (o : Nat) (ad : Nat → Nat) (f : Nat → Nat → Int32) (d : Int32) (ft : Nat → Option Nat) (li : List Value) (T : va_W) (hP : va_P K.1 vwCl (cW K o ad f d ft li T) H0) (fm : Nat → Option Frm) (hfm : ∀ k, k < 540 → FOpt K T (ft k) (fm k)) (k g i u : Nat) (hk9 : k < 10) (hg9 : g < 6) (hi9 : i < 3) (hu9 : u < 3) : Met l yX2_findInClass wsX2_findInClass ({ frames := 4, cells := 0, slots := 0, locals := 94 } : Room) (m_Pc K A H0 [.ref o, .int (nI k), .int (nI g), .int (nI i), .int (nI u)]) (va_Qi (fun r H1 => r = oI (inCls fm k g i u) ∧ H0 = H1) m_B A) 0 0 A := by
  refine m_ofW (by decide) rfl (Nat.le_of_ble_eq_true rfl) ?_
  intro p e s m args below meth c ls hx hb hr hml hown hts hlk hnm hE hsz hS hl
  have hl : lv_has ls 7 [(0, .ref o), (1, .int (nI k)), (2, .int (nI g)), (3, .int (nI i)), (4, .int (nI u))] := hl
  have iX2 : ∀ w ∈ wsX20, w ∈ wsX2_findInClass := by decide +kernel
  have f34 := hts (.fieldLink RX2 34 "PhraseCatalogue" "formTable" "[LPhraseCatalogue$Form;") (by decide +kernel)
  refine lv_iload_n hx hb dX2_findInClass_0 rfl (lv_at hl 1 rfl) ?_
  refine lv_iload_n hx hb dX2_findInClass_1 rfl (lv_at hl 2 rfl) ?_
  refine lv_iload_n hx hb dX2_findInClass_2 rfl (lv_at hl 3 rfl) ?_
  refine lv_iload hx hb dX2_findInClass_3 (lv_at hl 4 rfl) ?_
  refine m_cSi (rest := []) ⟨hx, hb, hml, hown, hts⟩ hE hS (fun _ h => h) (kX2_slotOf l K A _ k g i u (54 * k + 9 * g + 3 * i + u) (by omega)) (va_cwS 4 hts gX2_findInClass_X2_slotOf rfl rfl rfl (by decide +kernel) ⟨Nat.le_of_ble_eq_true rfl, Nat.le_of_ble_eq_true rfl⟩) rfl rfl hl.1 rfl (Nat.le_of_ble_eq_true rfl) dX2_findInClass_5 ⟨Nat.le_of_ble_eq_true rfl, Nat.le_of_ble_eq_true rfl⟩ (fun r H1 locs hp hS hk => ?_)
  obtain ⟨rfl, rfl⟩ := hp
  refine lv_istore (lv' := [(5, .int (nI (54 * k + 9 * g + 3 * i + u))), (0, .ref o), (1, .int (nI k)), (2, .int (nI g)), (3, .int (nI i)), (4, .int (nI u))]) hx hb dX2_findInClass_8 hl (by decide) rfl (fun ls hl => ?_)
  refine lv_aload_n hx hb dX2_findInClass_10 rfl (lv_at hl 1 rfl) ?_
  refine lv_iload_n hx hb dX2_findInClass_11 rfl (lv_at hl 2 rfl) ?_
  refine lv_aload_n hx hb dX2_findInClass_12 rfl (lv_at hl 1 rfl) ?_
  refine va_get (D := K.1) (ci := 3) (v := .ref (ad 5)) (C := RX2) (T := TX2) (N := 10) hx hb hts iX2 hown hE.k hP 0 rfl rfl 5 (by decide) f34 (fun _ h9 => h9) rfl dX2_findInClass_13 ?_
  refine lv_iload hx hb dX2_findInClass_16 (lv_at hl 0 rfl) ?_
  refine m_aald2 hx hb hE.k hP 5 rfl (by omega) (by omega) rfl dX2_findInClass_18 ?_
  refine m_cVi (rest := []) ⟨hx, hb, hml, hown, hts⟩ hE hS (fun _ h => h) (kX2_isFitting l K A H0 o ad f d ft li T hP fm hfm k hk9 (ft (54 * k + 9 * g + 3 * i + u)) (fm (54 * k + 9 * g + 3 * i + u)) (hfm (54 * k + 9 * g + 3 * i + u) (by omega))) (cwV 2 hts gX2_findInClass_X2_isFitting rfl rfl rfl (by decide +kernel) ⟨Nat.le_of_ble_eq_true rfl, Nat.le_of_ble_eq_true rfl⟩) (va_recv hE.k hP (ci := 3) (q0 := 0) rfl rfl) rfl rfl hl.1 rfl (Nat.le_of_ble_eq_true rfl) dX2_findInClass_19 ⟨Nat.le_of_ble_eq_true rfl, Nat.le_of_ble_eq_true rfl⟩ (fun r H1 locs hp hS hk => ?_)
  obtain ⟨rfl, rfl⟩ := hp
  refine m_if_eq_b (tgt := 28) hx hb dX2_findInClass_22 (by decide) (fun c_22 => ?_) (fun c_22 => ?_)
  · refine lv_iload_n hx hb dX2_findInClass_28 rfl (lv_at hl 2 rfl) ?_
    refine lv_iload_n hx hb dX2_findInClass_29 rfl (lv_at hl 3 rfl) ?_
    refine lv_iload_n hx hb dX2_findInClass_30 rfl (lv_at hl 4 rfl) ?_
    refine lv_iconst (v := nI 0) hx hb dX2_findInClass_31 (by decide) ?_
    refine m_cSi (rest := []) ⟨hx, hb, hml, hown, hts⟩ hE hS (fun _ h => h) (kX2_slotOf l K A _ k g i 0 (54 * k + 9 * g + 3 * i + 0) (by omega)) (va_cwS 4 hts gX2_findInClass_X2_slotOf rfl rfl rfl (by decide +kernel) ⟨Nat.le_of_ble_eq_true rfl, Nat.le_of_ble_eq_true rfl⟩) rfl rfl hl.1 rfl (Nat.le_of_ble_eq_true rfl) dX2_findInClass_32 ⟨Nat.le_of_ble_eq_true rfl, Nat.le_of_ble_eq_true rfl⟩ (fun r H1 locs hp hS hk => ?_)
    obtain ⟨rfl, rfl⟩ := hp
    refine lv_istore (lv' := [(6, .int (nI (54 * k + 9 * g + 3 * i + 0))), (5, .int (nI (54 * k + 9 * g + 3 * i + u))), (0, .ref o), (1, .int (nI k)), (2, .int (nI g)), (3, .int (nI i)), (4, .int (nI u))]) hx hb dX2_findInClass_35 hl (by decide) rfl (fun ls hl => ?_)
    refine lv_aload_n hx hb dX2_findInClass_37 rfl (lv_at hl 2 rfl) ?_
    refine lv_iload_n hx hb dX2_findInClass_38 rfl (lv_at hl 3 rfl) ?_
    refine lv_aload_n hx hb dX2_findInClass_39 rfl (lv_at hl 2 rfl) ?_
    refine va_get (D := K.1) (ci := 3) (v := .ref (ad 5)) (C := RX2) (T := TX2) (N := 10) hx hb hts iX2 hown hE.k hP 0 rfl rfl 5 (by decide) f34 (fun _ h9 => h9) rfl dX2_findInClass_40 ?_
    refine lv_iload hx hb dX2_findInClass_43 (lv_at hl 0 rfl) ?_
    refine m_aald2 hx hb hE.k hP 5 rfl (by omega) (by omega) rfl dX2_findInClass_45 ?_
    refine m_cVi (rest := []) ⟨hx, hb, hml, hown, hts⟩ hE hS (fun _ h => h) (kX2_isFitting l K A H0 o ad f d ft li T hP fm hfm k hk9 (ft (54 * k + 9 * g + 3 * i + 0)) (fm (54 * k + 9 * g + 3 * i + 0)) (hfm (54 * k + 9 * g + 3 * i + 0) (by omega))) (cwV 2 hts gX2_findInClass_X2_isFitting rfl rfl rfl (by decide +kernel) ⟨Nat.le_of_ble_eq_true rfl, Nat.le_of_ble_eq_true rfl⟩) (va_recv hE.k hP (ci := 3) (q0 := 0) rfl rfl) rfl rfl hl.1 rfl (Nat.le_of_ble_eq_true rfl) dX2_findInClass_46 ⟨Nat.le_of_ble_eq_true rfl, Nat.le_of_ble_eq_true rfl⟩ (fun r H1 locs hp hS hk => ?_)
    obtain ⟨rfl, rfl⟩ := hp
    refine m_if_eq_b (tgt := 57) hx hb dX2_findInClass_49 (by decide) (fun c_49 => ?_) (fun c_49 => ?_)
    · refine lv_iconst (v := (-1)) hx hb dX2_findInClass_57 (by decide) ?_
      exact m_iret hx hb hr hlk hS (Nat.le_of_ble_eq_true rfl) (Nat.le_of_ble_eq_true rfl) dX2_findInClass_58 (⟨by rw [inCls, if_neg (by rw [c_22]; decide), if_neg (by rw [c_49]; decide)]; rfl, rfl⟩)
    · refine lv_iload hx hb dX2_findInClass_52 (lv_at hl 0 rfl) ?_
      refine lv_goto (tgt := 58) hx hb dX2_findInClass_54 (by decide) ?_
      exact m_iret hx hb hr hlk hS (Nat.le_of_ble_eq_true rfl) (Nat.le_of_ble_eq_true rfl) dX2_findInClass_58 (⟨by rw [inCls, if_neg (by rw [c_22]; decide), if_pos c_49]; rfl, rfl⟩)
  · refine lv_iload hx hb dX2_findInClass_25 (lv_at hl 0 rfl) ?_
    exact m_iret hx hb hr hlk hS (Nat.le_of_ble_eq_true rfl) (Nat.le_of_ble_eq_true rfl) dX2_findInClass_27 (⟨by rw [inCls, if_pos c_22]; rfl, rfl⟩)

set_option maxHeartbeats 4000000 in
set_option maxRecDepth 100000 in
/-- findInLanguage -/
theorem kX2_findInLanguage (l : Launch) (K : m_K) (A : Nat → Prop) (H0 : Heap) (o : Nat) (ad : Nat → Nat) (f : Nat → Nat → Int32) (d : Int32) (ft : Nat → Option Nat) (li : List Value) (T : va_W) (hP : va_P K.1 vwCl (cW K o ad f d ft li T) H0) (fm : Nat → Option Frm) (hfm : ∀ k, k < 540 → FOpt K T (ft k) (fm k)) (on fw : Nat → Int32) (hon : ∀ g, g < 6 → f 1 g = on g) (hfw : ∀ g, g < 6 → f 2 g = fw g) (k g : Nat) (x : Int32) (u : Nat) (hk9 : k < 10) (hg9 : g < 6) (hu9 : u < 3) : Met l yX2_findInLanguage wsX2_findInLanguage ({ frames := 5, cells := 0, slots := 0, locals := 120 } : Room) (m_Pc K A H0 [.ref o, .int (nI k), .int (nI g), .int x, .int (nI u)]) (va_Qi (fun r H1 => r = oI (inLang fm k g (kindF on fw g x) u) ∧ H0 = H1) m_B A) 0 0 A := by
  refine m_ofW (by decide) rfl (Nat.le_of_ble_eq_true rfl) ?_
  intro p e s m args below meth c ls hx hb hr hml hown hts hlk hnm hE hsz hS hl
  have hl : lv_has ls 6 [(0, .ref o), (1, .int (nI k)), (2, .int (nI g)), (3, .int x), (4, .int (nI u))] := hl
  refine lv_aload_n hx hb dX2_findInLanguage_0 rfl (lv_at hl 0 rfl) ?_
  refine lv_iload_n hx hb dX2_findInLanguage_1 rfl (lv_at hl 1 rfl) ?_
  refine lv_iload_n hx hb dX2_findInLanguage_2 rfl (lv_at hl 2 rfl) ?_
  refine lv_aload_n hx hb dX2_findInLanguage_3 rfl (lv_at hl 0 rfl) ?_
  refine lv_iload_n hx hb dX2_findInLanguage_4 rfl (lv_at hl 2 rfl) ?_
  refine lv_iload_n hx hb dX2_findInLanguage_5 rfl (lv_at hl 3 rfl) ?_
  refine m_cVi (rest := [.int (nI g), .int (nI k), .ref o]) ⟨hx, hb, hml, hown, hts⟩ hE hS (fun _ h => h) (kX2_classOf l K A H0 o ad f d ft li T hP on fw hon hfw g (by assumption) x) (cwV 2 hts gX2_findInLanguage_X2_classOf rfl rfl rfl (by decide +kernel) ⟨Nat.le_of_ble_eq_true rfl, Nat.le_of_ble_eq_true rfl⟩) (va_recv hE.k hP (ci := 3) (q0 := 0) rfl rfl) rfl rfl hl.1 rfl (Nat.le_of_ble_eq_true rfl) dX2_findInLanguage_6 ⟨Nat.le_of_ble_eq_true rfl, Nat.le_of_ble_eq_true rfl⟩ (fun r H1 locs hp hS hk => ?_)
  obtain ⟨rfl, rfl⟩ := hp
  have hkd := kindF_lt on fw g x
  refine lv_iload hx hb dX2_findInLanguage_9 (lv_at hl 4 rfl) ?_
  refine m_cVi (rest := []) ⟨hx, hb, hml, hown, hts⟩ hE hS (fun _ h => h) (kX2_findInClass l K A H0 o ad f d ft li T hP fm hfm k g (kindF on fw g x) u hk9 hg9 (by omega) hu9) (cwV 4 hts gX2_findInLanguage_X2_findInClass rfl rfl rfl (by decide +kernel) ⟨Nat.le_of_ble_eq_true rfl, Nat.le_of_ble_eq_true rfl⟩) (va_recv hE.k hP (ci := 3) (q0 := 0) rfl rfl) rfl rfl hl.1 rfl (Nat.le_of_ble_eq_true rfl) dX2_findInLanguage_11 ⟨Nat.le_of_ble_eq_true rfl, Nat.le_of_ble_eq_true rfl⟩ (fun r H1 locs hp hS hk => ?_)
  obtain ⟨rfl, rfl⟩ := hp
  refine lv_istore (lv' := [(5, .int (oI (inCls fm k g (kindF on fw g x) u))), (0, .ref o), (1, .int (nI k)), (2, .int (nI g)), (3, .int x), (4, .int (nI u))]) hx hb dX2_findInLanguage_14 hl (by decide) rfl (fun ls hl => ?_)
  refine lv_iload hx hb dX2_findInLanguage_16 (lv_at hl 0 rfl) ?_
  refine lv_iconst (v := (-1)) hx hb dX2_findInLanguage_18 (by decide) ?_
  refine m_icmp_eq_o (tgt := 27) hx hb (fun z hz => Nat.lt_trans (inCls_lt hz hk9 hg9 (by omega) hu9).1 (by decide)) dX2_findInLanguage_19 (by decide) (fun c_19 => ?_) (fun k_19 c_19 => ?_)
  · refine lv_aload_n hx hb dX2_findInLanguage_27 rfl (lv_at hl 1 rfl) ?_
    refine lv_iload_n hx hb dX2_findInLanguage_28 rfl (lv_at hl 2 rfl) ?_
    refine lv_iload_n hx hb dX2_findInLanguage_29 rfl (lv_at hl 3 rfl) ?_
    refine lv_iconst (v := nI 2) hx hb dX2_findInLanguage_30 (by decide) ?_
    refine lv_iload hx hb dX2_findInLanguage_31 (lv_at hl 5 rfl) ?_
    refine m_cVi (rest := []) ⟨hx, hb, hml, hown, hts⟩ hE hS (fun _ h => h) (kX2_findInClass l K A H0 o ad f d ft li T hP fm hfm k g 2 u hk9 hg9 (by omega) hu9) (cwV 4 hts gX2_findInLanguage_X2_findInClass rfl rfl rfl (by decide +kernel) ⟨Nat.le_of_ble_eq_true rfl, Nat.le_of_ble_eq_true rfl⟩) (va_recv hE.k hP (ci := 3) (q0 := 0) rfl rfl) rfl rfl hl.1 rfl (Nat.le_of_ble_eq_true rfl) dX2_findInLanguage_33 ⟨Nat.le_of_ble_eq_true rfl, Nat.le_of_ble_eq_true rfl⟩ (fun r H1 locs hp hS hk => ?_)
    obtain ⟨rfl, rfl⟩ := hp
    exact m_iret hx hb hr hlk hS (Nat.le_of_ble_eq_true rfl) (Nat.le_of_ble_eq_true rfl) dX2_findInLanguage_36 (⟨by rw [inLang, c_19], rfl⟩)
  · refine lv_iload hx hb dX2_findInLanguage_22 (lv_at hl 0 rfl) ?_
    refine lv_goto (tgt := 36) hx hb dX2_findInLanguage_24 (by decide) ?_
    exact m_iret hx hb hr hlk hS (Nat.le_of_ble_eq_true rfl) (Nat.le_of_ble_eq_true rfl) dX2_findInLanguage_36 (⟨by rw [inLang, c_19], rfl⟩)

set_option maxHeartbeats 4000000 in
set_option maxRecDepth 100000 in
/-- findAlongChain -/
theorem kX2_findAlongChain (l : Launch) (K : m_K) (A : Nat → Prop) (H0 : Heap) (o : Nat) (ad : Nat → Nat) (f : Nat → Nat → Int32) (d : Int32) (ft : Nat → Option Nat) (li : List Value) (T : va_W) (hP : va_P K.1 vwCl (cW K o ad f d ft li T) H0) (fb : Nat → Nat) (hfb : ∀ l, l < 6 → f 0 l = nI (fb l) ∧ fb l < 6) (fm : Nat → Option Frm) (hfm : ∀ k, k < 540 → FOpt K T (ft k) (fm k)) (on fw : Nat → Int32) (hon : ∀ g, g < 6 → f 1 g = on g) (hfw : ∀ g, g < 6 → f 2 g = fw g) (k a : Nat) (x : Int32) (u : Nat) (hk9 : k < 10) (ha : a < 6) (hu9 : u < 3) : Met l yX2_findAlongChain wsX2_findAlongChain ({ frames := 6, cells := 0, slots := 0, locals := 145 } : Room) (m_Pc K A H0 [.ref o, .int (nI k), .int (nI a), .int x, .int (nI u)]) (va_Qi (fun r H1 => r = oI (tellN fb (fun g => inLang fm k g (kindF on fw g x) u) 6 a) ∧ H0 = H1) m_B A) 0 0 A := by
  refine m_ofW (by decide) rfl (Nat.le_of_ble_eq_true rfl) ?_
  intro p e s m args below meth c ls hx hb hr hml hown hts hlk hnm hE hsz hS hl
  have hl : lv_has ls 8 [(0, .ref o), (1, .int (nI k)), (2, .int (nI a)), (3, .int x), (4, .int (nI u))] := hl
  have iX2 : ∀ w ∈ wsX20, w ∈ wsX2_findAlongChain := by decide +kernel
  have f9 := hts (.fieldLink RX2 9 "PhraseCatalogue" "fallbacks" "[I") (by decide +kernel)
  refine lv_iload_n hx hb dX2_findAlongChain_0 rfl (lv_at hl 2 rfl) ?_
  refine lv_istore (lv' := [(5, .int (nI a)), (0, .ref o), (1, .int (nI k)), (2, .int (nI a)), (3, .int x), (4, .int (nI u))]) hx hb dX2_findAlongChain_1 hl (by decide) rfl (fun ls hl => ?_)
  refine lv_iconst (v := nI 0) hx hb dX2_findAlongChain_3 (by decide) ?_
  refine lv_istore (lv' := [(6, .int (nI 0)), (5, .int (nI a)), (0, .ref o), (1, .int (nI k)), (2, .int (nI a)), (3, .int x), (4, .int (nI u))]) hx hb dX2_findAlongChain_4 hl (by decide) rfl (fun ls hl => ?_)
  refine (?_ : ∀ (n9 : Nat) (i : Nat) (at9 : Nat) (locs : List Loc) (ls : Array Slot), i ≤ 6 → 6 < i + n9 → at9 < 6 → tellN fb (fun g => inLang fm k g (kindF on fw g x) u) (6 - i) at9 = tellN fb (fun g => inLang fm k g (kindF on fw g x) u) 6 a → va_S A s.heap H0 locs → lv_has ls 8 [(5, .int (nI at9)), (6, .int (nI i)), (0, .ref o), (1, .int (nI k)), (2, .int (nI a)), (3, .int x), (4, .int (nI u))] → W p l e _ s m args below meth c H0 locs 0 0 _ (F0 m 6 ls [])) (6 + 1) 0 a _ ls (by omega) (by omega) ha rfl hS (lv_sub hl [1, 0, 2, 3, 4, 5, 6] rfl)
  clear hS hl
  intro n9
  induction n9 with
  | zero => intro i at9 locs ls hi9 hn9; exact absurd hn9 (by omega)
  | succ n9 ih =>
    intro i at9 locs ls hi9 hn9 hat hinv hS hl
    refine lv_iload hx hb dX2_findAlongChain_6 (lv_at hl 1 rfl) ?_
    refine lv_bipush (v := nI 6) hx hb dX2_findAlongChain_8 (by decide) ?_
    refine m_icmp_ge (tgt := 54) hx hb (by omega) (by omega) dX2_findAlongChain_10 (by decide) (fun c_10 => ?_) (fun c_10 => ?_)
    · refine lv_iconst (v := (-1)) hx hb dX2_findAlongChain_54 (by decide) ?_
      exact m_iret hx hb hr hlk hS (Nat.le_of_ble_eq_true rfl) (Nat.le_of_ble_eq_true rfl) dX2_findAlongChain_55 (⟨by rw [← hinv, show 6 - i = 0 by omega]; rfl, rfl⟩)
    · refine lv_aload_n hx hb dX2_findAlongChain_13 rfl (lv_at hl 2 rfl) ?_
      refine lv_iload_n hx hb dX2_findAlongChain_14 rfl (lv_at hl 3 rfl) ?_
      refine lv_iload hx hb dX2_findAlongChain_15 (lv_at hl 0 rfl) ?_
      refine lv_iload_n hx hb dX2_findAlongChain_17 rfl (lv_at hl 5 rfl) ?_
      refine lv_iload hx hb dX2_findAlongChain_18 (lv_at hl 6 rfl) ?_
      refine m_cVi (rest := []) ⟨hx, hb, hml, hown, hts⟩ hE hS (fun _ h => h) (kX2_findInLanguage l K A H0 o ad f d ft li T hP fm hfm on fw hon hfw k at9 x u hk9 hat hu9) (cwV 4 hts gX2_findAlongChain_X2_findInLanguage rfl rfl rfl (by decide +kernel) ⟨Nat.le_of_ble_eq_true rfl, Nat.le_of_ble_eq_true rfl⟩) (va_recv hE.k hP (ci := 3) (q0 := 0) rfl rfl) rfl rfl hl.1 rfl (Nat.le_of_ble_eq_true rfl) dX2_findAlongChain_20 ⟨Nat.le_of_ble_eq_true rfl, Nat.le_of_ble_eq_true rfl⟩ (fun r H1 locs hp hS hk => ?_)
      obtain ⟨rfl, rfl⟩ := hp
      refine lv_istore (lv' := [(7, .int (oI (inLang fm k at9 (kindF on fw at9 x) u))), (5, .int (nI at9)), (6, .int (nI i)), (0, .ref o), (1, .int (nI k)), (2, .int (nI a)), (3, .int x), (4, .int (nI u))]) hx hb dX2_findAlongChain_23 hl (by decide) rfl (fun ls hl => ?_)
      refine lv_iload hx hb dX2_findAlongChain_25 (lv_at hl 0 rfl) ?_
      refine lv_iconst (v := (-1)) hx hb dX2_findAlongChain_27 (by decide) ?_
      refine m_icmp_ne_o (tgt := 36) hx hb (fun z hz => Nat.lt_trans (inLang_lt hz hk9 hat (kindF_lt _ _ _ _) hu9).1 (by decide)) dX2_findAlongChain_28 (by decide) (fun k_28 c_28 => ?_) (fun c_28 => ?_)
      · refine lv_iload hx hb dX2_findAlongChain_36 (lv_at hl 0 rfl) ?_
        exact m_iret hx hb hr hlk hS (Nat.le_of_ble_eq_true rfl) (Nat.le_of_ble_eq_true rfl) dX2_findAlongChain_38 (⟨by rw [← hinv, show 6 - i = (6 - (i + 1)) + 1 by omega, tellN, c_28], rfl⟩)
      · refine lv_iload hx hb dX2_findAlongChain_31 (lv_at hl 1 rfl) ?_
        refine m_if_ne (tgt := 39) hx hb (by omega) dX2_findAlongChain_33 (by decide) (fun c_33 => ?_) (fun c_33 => ?_)
        · refine lv_aload_n hx hb dX2_findAlongChain_39 rfl (lv_at hl 3 rfl) ?_
          refine va_get (D := K.1) (ci := 3) (v := .ref (ad 0)) (C := RX2) (T := TX2) (N := 10) hx hb hts iX2 hown hE.k hP 0 rfl rfl 0 (by decide) f9 (fun _ h9 => h9) rfl dX2_findAlongChain_40 ?_
          refine lv_iload hx hb dX2_findAlongChain_43 (lv_at hl 1 rfl) ?_
          refine m_iald hx hb hE.k hP 1 rfl (by omega) (by omega) ((hfb _ (by omega)).1) dX2_findAlongChain_45 ?_
          refine lv_istore (lv' := [(5, .int (nI (fb at9))), (7, .int (oI (inLang fm k at9 (kindF on fw at9 x) u))), (6, .int (nI i)), (0, .ref o), (1, .int (nI k)), (2, .int (nI a)), (3, .int x), (4, .int (nI u))]) hx hb dX2_findAlongChain_46 hl (by decide) rfl (fun ls hl => ?_)
          refine lv_iinc (v := nI (i + 1)) (lv' := [(6, .int (nI (i + 1))), (5, .int (nI (fb at9))), (7, .int (oI (inLang fm k at9 (kindF on fw at9 x) u))), (0, .ref o), (1, .int (nI k)), (2, .int (nI a)), (3, .int x), (4, .int (nI u))]) hx hb dX2_findAlongChain_48 hl (k := 2) rfl (m_inc _) (by decide) rfl (fun ls hl => ?_)
          refine lv_goto (tgt := 6) hx hb dX2_findAlongChain_51 (by decide) ?_
          exact ih (i + 1) (fb at9) _ ls (by omega) (by omega) ((hfb _ hat).2) (by rw [← hinv, show 6 - i = (6 - (i + 1)) + 1 by omega, tellN, c_28]; exact (if_neg c_33).symm) hS (lv_sub hl [1, 0, 3, 4, 5, 6, 7] rfl)
        · refine lv_iload hx hb dX2_findAlongChain_36 (lv_at hl 0 rfl) ?_
          exact m_iret hx hb hr hlk hS (Nat.le_of_ble_eq_true rfl) (Nat.le_of_ble_eq_true rfl) dX2_findAlongChain_38 (⟨by rw [← hinv, show 6 - i = (6 - (i + 1)) + 1 by omega, tellN, c_28]; exact congrArg oI (if_pos c_33).symm, rfl⟩)

theorem tryF_n {i u a b : Nat} (h : ¬ i = a ∧ ¬ i = 2 ∨ ¬ u = b ∧ ¬ u = 0) : tryF i u a b = none := by
  unfold tryF
  rw [if_neg]
  rintro ⟨h1, h2⟩
  omega
theorem tryF_y {i u a b x y : Nat} (h : (i = a ∨ i = 2) ∧ (u = b ∨ u = 0)) (hx : x = if i = a then 0 else 2) (hy : y = if u = b then 0 else 1) : nI (x + y) = oI (tryF i u a b) := by
  unfold tryF
  rw [if_pos h, hx, hy]
  rfl

set_option maxHeartbeats 4000000 in
set_option maxRecDepth 100000 in
/-- tryOf -/
theorem kX2_tryOf (l : Launch) (K : m_K) (A : Nat → Prop) (H0 : Heap) (i u a b : Nat) (hi : i < 3) (hu : u < 3) (ha : a < 3) (hb9 : b < 3) : Met l yX2_tryOf wsX2_tryOf ({ frames := 0, cells := 0, slots := 0, locals := 0 } : Room) (m_Pc K A H0 [.int (nI i), .int (nI u), .int (nI a), .int (nI b)]) (va_Qi (fun r H1 => r = oI (tryF i u a b) ∧ H0 = H1) m_B A) 0 0 A := by
  refine m_ofW (by decide) rfl (Nat.le_of_ble_eq_true rfl) ?_
  intro p e s m args below meth c ls hx hb hr hml hown hts hlk hnm hE hsz hS hl
  have hl : lv_has ls 4 [(0, .int (nI i)), (1, .int (nI u)), (2, .int (nI a)), (3, .int (nI b))] := hl
  refine lv_iload_n hx hb dX2_tryOf_0 rfl (lv_at hl 0 rfl) ?_
  refine lv_iload_n hx hb dX2_tryOf_1 rfl (lv_at hl 2 rfl) ?_
  refine m_icmp_eq (tgt := 10) hx hb (by omega) (by omega) dX2_tryOf_2 (by decide) (fun c_2 => ?_) (fun c_2 => ?_)
  · refine lv_iload_n hx hb dX2_tryOf_10 rfl (lv_at hl 1 rfl) ?_
    refine lv_iload_n hx hb dX2_tryOf_11 rfl (lv_at hl 3 rfl) ?_
    refine m_icmp_eq (tgt := 21) hx hb (by omega) (by omega) dX2_tryOf_12 (by decide) (fun c_12 => ?_) (fun c_12 => ?_)
    · refine lv_iload_n hx hb dX2_tryOf_21 rfl (lv_at hl 0 rfl) ?_
      refine lv_iload_n hx hb dX2_tryOf_22 rfl (lv_at hl 2 rfl) ?_
      refine m_icmp_ne (tgt := 30) hx hb (by omega) (by omega) dX2_tryOf_23 (by decide) (fun c_23 => ?_) (fun c_23 => ?_)
      · refine lv_iconst (v := nI 2) hx hb dX2_tryOf_30 (by decide) ?_
        refine lv_iload_n hx hb dX2_tryOf_31 rfl (lv_at hl 1 rfl) ?_
        refine lv_iload_n hx hb dX2_tryOf_32 rfl (lv_at hl 3 rfl) ?_
        refine m_icmp_ne (tgt := 40) hx hb (by omega) (by omega) dX2_tryOf_33 (by decide) (fun c_33 => ?_) (fun c_33 => ?_)
        · refine lv_iconst (v := nI 1) hx hb dX2_tryOf_40 (by decide) ?_
          refine m_iadd hx hb dX2_tryOf_41 ?_
          exact m_iret hx hb hr hlk hS (Nat.le_of_ble_eq_true rfl) (Nat.le_of_ble_eq_true rfl) dX2_tryOf_42 (⟨tryF_y (by omega) (by split <;> omega) (by split <;> omega), rfl⟩)
        · refine lv_iconst (v := nI 0) hx hb dX2_tryOf_36 (by decide) ?_
          refine lv_goto (tgt := 41) hx hb dX2_tryOf_37 (by decide) ?_
          refine m_iadd hx hb dX2_tryOf_41 ?_
          exact m_iret hx hb hr hlk hS (Nat.le_of_ble_eq_true rfl) (Nat.le_of_ble_eq_true rfl) dX2_tryOf_42 (⟨tryF_y (by omega) (by split <;> omega) (by split <;> omega), rfl⟩)
      · refine lv_iconst (v := nI 0) hx hb dX2_tryOf_26 (by decide) ?_
        refine lv_goto (tgt := 31) hx hb dX2_tryOf_27 (by decide) ?_
        refine lv_iload_n hx hb dX2_tryOf_31 rfl (lv_at hl 1 rfl) ?_
        refine lv_iload_n hx hb dX2_tryOf_32 rfl (lv_at hl 3 rfl) ?_
        refine m_icmp_ne (tgt := 40) hx hb (by omega) (by omega) dX2_tryOf_33 (by decide) (fun c_33 => ?_) (fun c_33 => ?_)
        · refine lv_iconst (v := nI 1) hx hb dX2_tryOf_40 (by decide) ?_
          refine m_iadd hx hb dX2_tryOf_41 ?_
          exact m_iret hx hb hr hlk hS (Nat.le_of_ble_eq_true rfl) (Nat.le_of_ble_eq_true rfl) dX2_tryOf_42 (⟨tryF_y (by omega) (by split <;> omega) (by split <;> omega), rfl⟩)
        · refine lv_iconst (v := nI 0) hx hb dX2_tryOf_36 (by decide) ?_
          refine lv_goto (tgt := 41) hx hb dX2_tryOf_37 (by decide) ?_
          refine m_iadd hx hb dX2_tryOf_41 ?_
          exact m_iret hx hb hr hlk hS (Nat.le_of_ble_eq_true rfl) (Nat.le_of_ble_eq_true rfl) dX2_tryOf_42 (⟨tryF_y (by omega) (by split <;> omega) (by split <;> omega), rfl⟩)
    · refine lv_iload_n hx hb dX2_tryOf_15 rfl (lv_at hl 1 rfl) ?_
      refine m_if_eq (tgt := 21) hx hb (by omega) dX2_tryOf_16 (by decide) (fun c_16 => ?_) (fun c_16 => ?_)
      · refine lv_iload_n hx hb dX2_tryOf_21 rfl (lv_at hl 0 rfl) ?_
        refine lv_iload_n hx hb dX2_tryOf_22 rfl (lv_at hl 2 rfl) ?_
        refine m_icmp_ne (tgt := 30) hx hb (by omega) (by omega) dX2_tryOf_23 (by decide) (fun c_23 => ?_) (fun c_23 => ?_)
        · refine lv_iconst (v := nI 2) hx hb dX2_tryOf_30 (by decide) ?_
          refine lv_iload_n hx hb dX2_tryOf_31 rfl (lv_at hl 1 rfl) ?_
          refine lv_iload_n hx hb dX2_tryOf_32 rfl (lv_at hl 3 rfl) ?_
          refine m_icmp_ne (tgt := 40) hx hb (by omega) (by omega) dX2_tryOf_33 (by decide) (fun c_33 => ?_) (fun c_33 => ?_)
          · refine lv_iconst (v := nI 1) hx hb dX2_tryOf_40 (by decide) ?_
            refine m_iadd hx hb dX2_tryOf_41 ?_
            exact m_iret hx hb hr hlk hS (Nat.le_of_ble_eq_true rfl) (Nat.le_of_ble_eq_true rfl) dX2_tryOf_42 (⟨tryF_y (by omega) (by split <;> omega) (by split <;> omega), rfl⟩)
          · refine lv_iconst (v := nI 0) hx hb dX2_tryOf_36 (by decide) ?_
            refine lv_goto (tgt := 41) hx hb dX2_tryOf_37 (by decide) ?_
            refine m_iadd hx hb dX2_tryOf_41 ?_
            exact m_iret hx hb hr hlk hS (Nat.le_of_ble_eq_true rfl) (Nat.le_of_ble_eq_true rfl) dX2_tryOf_42 (⟨tryF_y (by omega) (by split <;> omega) (by split <;> omega), rfl⟩)
        · refine lv_iconst (v := nI 0) hx hb dX2_tryOf_26 (by decide) ?_
          refine lv_goto (tgt := 31) hx hb dX2_tryOf_27 (by decide) ?_
          refine lv_iload_n hx hb dX2_tryOf_31 rfl (lv_at hl 1 rfl) ?_
          refine lv_iload_n hx hb dX2_tryOf_32 rfl (lv_at hl 3 rfl) ?_
          refine m_icmp_ne (tgt := 40) hx hb (by omega) (by omega) dX2_tryOf_33 (by decide) (fun c_33 => ?_) (fun c_33 => ?_)
          · refine lv_iconst (v := nI 1) hx hb dX2_tryOf_40 (by decide) ?_
            refine m_iadd hx hb dX2_tryOf_41 ?_
            exact m_iret hx hb hr hlk hS (Nat.le_of_ble_eq_true rfl) (Nat.le_of_ble_eq_true rfl) dX2_tryOf_42 (⟨tryF_y (by omega) (by split <;> omega) (by split <;> omega), rfl⟩)
          · refine lv_iconst (v := nI 0) hx hb dX2_tryOf_36 (by decide) ?_
            refine lv_goto (tgt := 41) hx hb dX2_tryOf_37 (by decide) ?_
            refine m_iadd hx hb dX2_tryOf_41 ?_
            exact m_iret hx hb hr hlk hS (Nat.le_of_ble_eq_true rfl) (Nat.le_of_ble_eq_true rfl) dX2_tryOf_42 (⟨tryF_y (by omega) (by split <;> omega) (by split <;> omega), rfl⟩)
      · refine lv_iconst (v := (-1)) hx hb dX2_tryOf_19 (by decide) ?_
        exact m_iret hx hb hr hlk hS (Nat.le_of_ble_eq_true rfl) (Nat.le_of_ble_eq_true rfl) dX2_tryOf_20 (⟨by rw [tryF_n (by omega)]; rfl, rfl⟩)
  · refine lv_iload_n hx hb dX2_tryOf_5 rfl (lv_at hl 0 rfl) ?_
    refine lv_iconst (v := nI 2) hx hb dX2_tryOf_6 (by decide) ?_
    refine m_icmp_ne (tgt := 19) hx hb (by omega) (by omega) dX2_tryOf_7 (by decide) (fun c_7 => ?_) (fun c_7 => ?_)
    · refine lv_iconst (v := (-1)) hx hb dX2_tryOf_19 (by decide) ?_
      exact m_iret hx hb hr hlk hS (Nat.le_of_ble_eq_true rfl) (Nat.le_of_ble_eq_true rfl) dX2_tryOf_20 (⟨by rw [tryF_n (by omega)]; rfl, rfl⟩)
    · refine lv_iload_n hx hb dX2_tryOf_10 rfl (lv_at hl 1 rfl) ?_
      refine lv_iload_n hx hb dX2_tryOf_11 rfl (lv_at hl 3 rfl) ?_
      refine m_icmp_eq (tgt := 21) hx hb (by omega) (by omega) dX2_tryOf_12 (by decide) (fun c_12 => ?_) (fun c_12 => ?_)
      · refine lv_iload_n hx hb dX2_tryOf_21 rfl (lv_at hl 0 rfl) ?_
        refine lv_iload_n hx hb dX2_tryOf_22 rfl (lv_at hl 2 rfl) ?_
        refine m_icmp_ne (tgt := 30) hx hb (by omega) (by omega) dX2_tryOf_23 (by decide) (fun c_23 => ?_) (fun c_23 => ?_)
        · refine lv_iconst (v := nI 2) hx hb dX2_tryOf_30 (by decide) ?_
          refine lv_iload_n hx hb dX2_tryOf_31 rfl (lv_at hl 1 rfl) ?_
          refine lv_iload_n hx hb dX2_tryOf_32 rfl (lv_at hl 3 rfl) ?_
          refine m_icmp_ne (tgt := 40) hx hb (by omega) (by omega) dX2_tryOf_33 (by decide) (fun c_33 => ?_) (fun c_33 => ?_)
          · refine lv_iconst (v := nI 1) hx hb dX2_tryOf_40 (by decide) ?_
            refine m_iadd hx hb dX2_tryOf_41 ?_
            exact m_iret hx hb hr hlk hS (Nat.le_of_ble_eq_true rfl) (Nat.le_of_ble_eq_true rfl) dX2_tryOf_42 (⟨tryF_y (by omega) (by split <;> omega) (by split <;> omega), rfl⟩)
          · refine lv_iconst (v := nI 0) hx hb dX2_tryOf_36 (by decide) ?_
            refine lv_goto (tgt := 41) hx hb dX2_tryOf_37 (by decide) ?_
            refine m_iadd hx hb dX2_tryOf_41 ?_
            exact m_iret hx hb hr hlk hS (Nat.le_of_ble_eq_true rfl) (Nat.le_of_ble_eq_true rfl) dX2_tryOf_42 (⟨tryF_y (by omega) (by split <;> omega) (by split <;> omega), rfl⟩)
        · refine lv_iconst (v := nI 0) hx hb dX2_tryOf_26 (by decide) ?_
          refine lv_goto (tgt := 31) hx hb dX2_tryOf_27 (by decide) ?_
          refine lv_iload_n hx hb dX2_tryOf_31 rfl (lv_at hl 1 rfl) ?_
          refine lv_iload_n hx hb dX2_tryOf_32 rfl (lv_at hl 3 rfl) ?_
          refine m_icmp_ne (tgt := 40) hx hb (by omega) (by omega) dX2_tryOf_33 (by decide) (fun c_33 => ?_) (fun c_33 => ?_)
          · refine lv_iconst (v := nI 1) hx hb dX2_tryOf_40 (by decide) ?_
            refine m_iadd hx hb dX2_tryOf_41 ?_
            exact m_iret hx hb hr hlk hS (Nat.le_of_ble_eq_true rfl) (Nat.le_of_ble_eq_true rfl) dX2_tryOf_42 (⟨tryF_y (by omega) (by split <;> omega) (by split <;> omega), rfl⟩)
          · refine lv_iconst (v := nI 0) hx hb dX2_tryOf_36 (by decide) ?_
            refine lv_goto (tgt := 41) hx hb dX2_tryOf_37 (by decide) ?_
            refine m_iadd hx hb dX2_tryOf_41 ?_
            exact m_iret hx hb hr hlk hS (Nat.le_of_ble_eq_true rfl) (Nat.le_of_ble_eq_true rfl) dX2_tryOf_42 (⟨tryF_y (by omega) (by split <;> omega) (by split <;> omega), rfl⟩)
      · refine lv_iload_n hx hb dX2_tryOf_15 rfl (lv_at hl 1 rfl) ?_
        refine m_if_eq (tgt := 21) hx hb (by omega) dX2_tryOf_16 (by decide) (fun c_16 => ?_) (fun c_16 => ?_)
        · refine lv_iload_n hx hb dX2_tryOf_21 rfl (lv_at hl 0 rfl) ?_
          refine lv_iload_n hx hb dX2_tryOf_22 rfl (lv_at hl 2 rfl) ?_
          refine m_icmp_ne (tgt := 30) hx hb (by omega) (by omega) dX2_tryOf_23 (by decide) (fun c_23 => ?_) (fun c_23 => ?_)
          · refine lv_iconst (v := nI 2) hx hb dX2_tryOf_30 (by decide) ?_
            refine lv_iload_n hx hb dX2_tryOf_31 rfl (lv_at hl 1 rfl) ?_
            refine lv_iload_n hx hb dX2_tryOf_32 rfl (lv_at hl 3 rfl) ?_
            refine m_icmp_ne (tgt := 40) hx hb (by omega) (by omega) dX2_tryOf_33 (by decide) (fun c_33 => ?_) (fun c_33 => ?_)
            · refine lv_iconst (v := nI 1) hx hb dX2_tryOf_40 (by decide) ?_
              refine m_iadd hx hb dX2_tryOf_41 ?_
              exact m_iret hx hb hr hlk hS (Nat.le_of_ble_eq_true rfl) (Nat.le_of_ble_eq_true rfl) dX2_tryOf_42 (⟨tryF_y (by omega) (by split <;> omega) (by split <;> omega), rfl⟩)
            · refine lv_iconst (v := nI 0) hx hb dX2_tryOf_36 (by decide) ?_
              refine lv_goto (tgt := 41) hx hb dX2_tryOf_37 (by decide) ?_
              refine m_iadd hx hb dX2_tryOf_41 ?_
              exact m_iret hx hb hr hlk hS (Nat.le_of_ble_eq_true rfl) (Nat.le_of_ble_eq_true rfl) dX2_tryOf_42 (⟨tryF_y (by omega) (by split <;> omega) (by split <;> omega), rfl⟩)
          · refine lv_iconst (v := nI 0) hx hb dX2_tryOf_26 (by decide) ?_
            refine lv_goto (tgt := 31) hx hb dX2_tryOf_27 (by decide) ?_
            refine lv_iload_n hx hb dX2_tryOf_31 rfl (lv_at hl 1 rfl) ?_
            refine lv_iload_n hx hb dX2_tryOf_32 rfl (lv_at hl 3 rfl) ?_
            refine m_icmp_ne (tgt := 40) hx hb (by omega) (by omega) dX2_tryOf_33 (by decide) (fun c_33 => ?_) (fun c_33 => ?_)
            · refine lv_iconst (v := nI 1) hx hb dX2_tryOf_40 (by decide) ?_
              refine m_iadd hx hb dX2_tryOf_41 ?_
              exact m_iret hx hb hr hlk hS (Nat.le_of_ble_eq_true rfl) (Nat.le_of_ble_eq_true rfl) dX2_tryOf_42 (⟨tryF_y (by omega) (by split <;> omega) (by split <;> omega), rfl⟩)
            · refine lv_iconst (v := nI 0) hx hb dX2_tryOf_36 (by decide) ?_
              refine lv_goto (tgt := 41) hx hb dX2_tryOf_37 (by decide) ?_
              refine m_iadd hx hb dX2_tryOf_41 ?_
              exact m_iret hx hb hr hlk hS (Nat.le_of_ble_eq_true rfl) (Nat.le_of_ble_eq_true rfl) dX2_tryOf_42 (⟨tryF_y (by omega) (by split <;> omega) (by split <;> omega), rfl⟩)
        · refine lv_iconst (v := (-1)) hx hb dX2_tryOf_19 (by decide) ?_
          exact m_iret hx hb hr hlk hS (Nat.le_of_ble_eq_true rfl) (Nat.le_of_ble_eq_true rfl) dX2_tryOf_20 (⟨by rw [tryF_n (by omega)]; rfl, rfl⟩)

theorem chP_lt {fb : Nat → Nat} {b : Nat} : ∀ {n l st c : Nat}, chP fb b n l st = some c → c < st + n
  | 0, _, _, _, h => by cases h
  | n + 1, l, st, c, h => by
    unfold chP at h
    split at h
    · cases h; omega
    · split at h
      · cases h
      · have := chP_lt h
        omega
theorem tryF_lt {i u a b t : Nat} (h : tryF i u a b = some t) : t < 4 := by
  unfold tryF at h
  split at h
  · cases h
    split <;> split <;> decide
  · cases h
/-- when a slot is tried for a question: the place of its language in the chain, the try in it -/
def turnF (fb : Nat → Nat) (on fw : Nat → Int32) (x : Int32) (u a n : Nat) : Option Nat := match chP fb (n / 9 % 6) 6 a 0 with
  | none => none
  | some c => match tryF (n % 9 / 3) (n % 9 % 3) (kindF on fw (n / 9 % 6) x) u with
    | none => none
    | some t => some (c * 4 + t)
theorem turnF_lt {fb : Nat → Nat} {on fw : Nat → Int32} {x : Int32} {u a n t : Nat} (h : turnF fb on fw x u a n = some t) : t < 24 := by
  unfold turnF at h
  split at h
  · cases h
  · rename_i c hc
    split at h
    · cases h
    · rename_i t9 ht
      cases h
      have h1 := chP_lt hc
      have h2 := tryF_lt ht
      omega

set_option maxHeartbeats 4000000 in
set_option maxRecDepth 100000 in
/-- turnOf -/
theorem kX2_turnOf (l : Launch) (K : m_K) (A : Nat → Prop) (H0 : Heap) (o : Nat) (ad : Nat → Nat) (f : Nat → Nat → Int32) (d : Int32) (ft : Nat → Option Nat) (li : List Value) (T : va_W) (hP : va_P K.1 vwCl (cW K o ad f d ft li T) H0) (fb : Nat → Nat) (hfb : ∀ l, l < 6 → f 0 l = nI (fb l) ∧ fb l < 6) (on fw : Nat → Int32) (hon : ∀ g, g < 6 → f 1 g = on g) (hfw : ∀ g, g < 6 → f 2 g = fw g) (n a : Nat) (x : Int32) (u : Nat) (hn9 : n < 540) (ha : a < 6) (hu9 : u < 3) : Met l yX2_turnOf wsX2_turnOf ({ frames := 1, cells := 0, slots := 0, locals := 24 } : Room) (m_Pc K A H0 [.ref o, .int (nI n), .int (nI a), .int x, .int (nI u)]) (va_Qi (fun r H1 => r = oI (turnF fb on fw x u a n) ∧ H0 = H1) m_B A) 0 0 A := by
  refine m_ofW (by decide) rfl (Nat.le_of_ble_eq_true rfl) ?_
  intro p e s m args below meth c ls hx hb hr hml hown hts hlk hnm hE hsz hS hl
  have hl : lv_has ls 9 [(0, .ref o), (1, .int (nI n)), (2, .int (nI a)), (3, .int x), (4, .int (nI u))] := hl
  refine lv_iload_n hx hb dX2_turnOf_0 rfl (lv_at hl 1 rfl) ?_
  refine m_cSi (rest := []) ⟨hx, hb, hml, hown, hts⟩ hE hS (fun _ h => h) (kX2_languageOfSlot l K A H0 (some n) (fun z hz => by cases hz; omega)) (va_cwS 1 hts gX2_turnOf_X2_languageOfSlot rfl rfl rfl (by decide +kernel) ⟨Nat.le_of_ble_eq_true rfl, Nat.le_of_ble_eq_true rfl⟩) rfl rfl hl.1 rfl (Nat.le_of_ble_eq_true rfl) dX2_turnOf_1 ⟨Nat.le_of_ble_eq_true rfl, Nat.le_of_ble_eq_true rfl⟩ (fun r H1 locs hp hS hk => ?_)
  obtain ⟨rfl, rfl⟩ := hp
  have hg9 : n / 9 % 6 < 6 := Nat.mod_lt _ (by decide)
  refine lv_istore (lv' := [(5, .int (nI (n / 9 % 6))), (0, .ref o), (1, .int (nI n)), (2, .int (nI a)), (3, .int x), (4, .int (nI u))]) hx hb dX2_turnOf_4 hl (by decide) rfl (fun ls hl => ?_)
  refine lv_aload_n hx hb dX2_turnOf_6 rfl (lv_at hl 1 rfl) ?_
  refine lv_iload_n hx hb dX2_turnOf_7 rfl (lv_at hl 3 rfl) ?_
  refine lv_iload hx hb dX2_turnOf_8 (lv_at hl 0 rfl) ?_
  refine m_cVi (rest := []) ⟨hx, hb, hml, hown, hts⟩ hE hS (fun _ h => h) (kX2_chainPlace l K A H0 o ad f d ft li T hP fb hfb a (n / 9 % 6) (by assumption) (by assumption)) (cwV 2 hts gX2_turnOf_X2_chainPlace rfl rfl rfl (by decide +kernel) ⟨Nat.le_of_ble_eq_true rfl, Nat.le_of_ble_eq_true rfl⟩) (va_recv hE.k hP (ci := 3) (q0 := 0) rfl rfl) rfl rfl hl.1 rfl (Nat.le_of_ble_eq_true rfl) dX2_turnOf_10 ⟨Nat.le_of_ble_eq_true rfl, Nat.le_of_ble_eq_true rfl⟩ (fun r H1 locs hp hS hk => ?_)
  obtain ⟨rfl, rfl⟩ := hp
  refine lv_istore (lv' := [(6, .int (oI (chP fb (n / 9 % 6) 6 a 0))), (5, .int (nI (n / 9 % 6))), (0, .ref o), (1, .int (nI n)), (2, .int (nI a)), (3, .int x), (4, .int (nI u))]) hx hb dX2_turnOf_13 hl (by decide) rfl (fun ls hl => ?_)
  refine lv_iload hx hb dX2_turnOf_15 (lv_at hl 0 rfl) ?_
  refine lv_iconst (v := (-1)) hx hb dX2_turnOf_17 (by decide) ?_
  refine m_icmp_ne_o (tgt := 23) hx hb (fun z hz => Nat.lt_trans (chP_lt hz) (by decide)) dX2_turnOf_18 (by decide) (fun k_18 c_18 => ?_) (fun c_18 => ?_)
  · rw [c_18] at hl
    have hl : lv_has ls 9 [(6, .int (nI k_18)), (5, .int (nI (n / 9 % 6))), (0, .ref o), (1, .int (nI n)), (2, .int (nI a)), (3, .int x), (4, .int (nI u))] := hl
    refine lv_iload_n hx hb dX2_turnOf_23 rfl (lv_at hl 3 rfl) ?_
    refine lv_bipush (v := nI 9) hx hb dX2_turnOf_24 (by decide) ?_
    refine m_irem hx hb (by omega) (by omega) (by omega) dX2_turnOf_26 ?_
    refine lv_istore (lv' := [(7, .int (nI (n % 9))), (6, .int (nI k_18)), (5, .int (nI (n / 9 % 6))), (0, .ref o), (1, .int (nI n)), (2, .int (nI a)), (3, .int x), (4, .int (nI u))]) hx hb dX2_turnOf_27 hl (by decide) rfl (fun ls hl => ?_)
    refine lv_iload hx hb dX2_turnOf_29 (lv_at hl 0 rfl) ?_
    refine lv_iconst (v := nI 3) hx hb dX2_turnOf_31 (by decide) ?_
    refine m_idiv hx hb (by omega) (by omega) (by omega) dX2_turnOf_32 ?_
    refine lv_iload hx hb dX2_turnOf_33 (lv_at hl 0 rfl) ?_
    refine lv_iconst (v := nI 3) hx hb dX2_turnOf_35 (by decide) ?_
    refine m_irem hx hb (by omega) (by omega) (by omega) dX2_turnOf_36 ?_
    refine lv_aload_n hx hb dX2_turnOf_37 rfl (lv_at hl 3 rfl) ?_
    refine lv_iload hx hb dX2_turnOf_38 (lv_at hl 2 rfl) ?_
    refine lv_iload_n hx hb dX2_turnOf_40 rfl (lv_at hl 6 rfl) ?_
    refine m_cVi (rest := [.int (nI ((n % 9) % 3)), .int (nI ((n % 9) / 3))]) ⟨hx, hb, hml, hown, hts⟩ hE hS (fun _ h => h) (kX2_classOf l K A H0 o ad f d ft li T hP on fw hon hfw (n / 9 % 6) (by assumption) x) (cwV 2 hts gX2_turnOf_X2_classOf rfl rfl rfl (by decide +kernel) ⟨Nat.le_of_ble_eq_true rfl, Nat.le_of_ble_eq_true rfl⟩) (va_recv hE.k hP (ci := 3) (q0 := 0) rfl rfl) rfl rfl hl.1 rfl (Nat.le_of_ble_eq_true rfl) dX2_turnOf_41 ⟨Nat.le_of_ble_eq_true rfl, Nat.le_of_ble_eq_true rfl⟩ (fun r H1 locs hp hS hk => ?_)
    obtain ⟨rfl, rfl⟩ := hp
    have hkd := kindF_lt on fw (n / 9 % 6) x
    refine lv_iload hx hb dX2_turnOf_44 (lv_at hl 7 rfl) ?_
    refine m_cSi (rest := []) ⟨hx, hb, hml, hown, hts⟩ hE hS (fun _ h => h) (kX2_tryOf l K A H0 (n % 9 / 3) (n % 9 % 3) (kindF on fw (n / 9 % 6) x) u (by omega) (by omega) hkd hu9) (va_cwS 4 hts gX2_turnOf_X2_tryOf rfl rfl rfl (by decide +kernel) ⟨Nat.le_of_ble_eq_true rfl, Nat.le_of_ble_eq_true rfl⟩) rfl rfl hl.1 rfl (Nat.le_of_ble_eq_true rfl) dX2_turnOf_46 ⟨Nat.le_of_ble_eq_true rfl, Nat.le_of_ble_eq_true rfl⟩ (fun r H1 locs hp hS hk => ?_)
    obtain ⟨rfl, rfl⟩ := hp
    refine lv_istore (lv' := [(8, .int (oI (tryF (n % 9 / 3) (n % 9 % 3) (kindF on fw (n / 9 % 6) x) u))), (7, .int (nI (n % 9))), (6, .int (nI k_18)), (5, .int (nI (n / 9 % 6))), (0, .ref o), (1, .int (nI n)), (2, .int (nI a)), (3, .int x), (4, .int (nI u))]) hx hb dX2_turnOf_49 hl (by decide) rfl (fun ls hl => ?_)
    refine lv_iload hx hb dX2_turnOf_51 (lv_at hl 0 rfl) ?_
    refine lv_iconst (v := (-1)) hx hb dX2_turnOf_53 (by decide) ?_
    refine m_icmp_ne_o (tgt := 61) hx hb (fun z hz => Nat.lt_trans (tryF_lt hz) (by decide)) dX2_turnOf_54 (by decide) (fun k_54 c_54 => ?_) (fun c_54 => ?_)
    · rw [c_54] at hl
      have hl : lv_has ls 9 [(8, .int (nI k_54)), (7, .int (nI (n % 9))), (6, .int (nI k_18)), (5, .int (nI (n / 9 % 6))), (0, .ref o), (1, .int (nI n)), (2, .int (nI a)), (3, .int x), (4, .int (nI u))] := hl
      refine lv_iload hx hb dX2_turnOf_61 (lv_at hl 2 rfl) ?_
      refine lv_iconst (v := nI 4) hx hb dX2_turnOf_63 (by decide) ?_
      refine m_imul hx hb dX2_turnOf_64 ?_
      refine lv_iload hx hb dX2_turnOf_65 (lv_at hl 0 rfl) ?_
      refine m_iadd hx hb dX2_turnOf_67 ?_
      exact m_iret hx hb hr hlk hS (Nat.le_of_ble_eq_true rfl) (Nat.le_of_ble_eq_true rfl) dX2_turnOf_68 (⟨by rw [turnF, c_18]; simp only [c_54]; rfl, rfl⟩)
    · refine lv_iconst (v := (-1)) hx hb dX2_turnOf_57 (by decide) ?_
      refine lv_goto (tgt := 68) hx hb dX2_turnOf_58 (by decide) ?_
      exact m_iret hx hb hr hlk hS (Nat.le_of_ble_eq_true rfl) (Nat.le_of_ble_eq_true rfl) dX2_turnOf_68 (⟨by rw [turnF, c_18]; simp only [c_54]; rfl, rfl⟩)
  · refine lv_iconst (v := (-1)) hx hb dX2_turnOf_21 (by decide) ?_
    exact m_iret hx hb hr hlk hS (Nat.le_of_ble_eq_true rfl) (Nat.le_of_ble_eq_true rfl) dX2_turnOf_22 (⟨by rw [turnF, c_18]; rfl, rfl⟩)

/-- of the first i slots the one that is tried first, and when -/
def lookN (fm : Nat → Option Frm) (k : Nat) (tn : Nat → Option Nat) : Nat → Option Nat × Nat
  | 0 => (none, 24)
  | i + 1 => match tn (54 * k + i) with
    | none => lookN fm k tn i
    | some t => if t < (lookN fm k tn i).2 ∧ fitF fm k (fm (54 * k + i)) = true then (some (54 * k + i), t) else lookN fm k tn i
theorem lookN_2 {fm : Nat → Option Frm} {k : Nat} {tn : Nat → Option Nat} (ht : ∀ n t, tn n = some t → t < 24) : ∀ i, (lookN fm k tn i).2 ≤ 24
  | 0 => Nat.le_refl _
  | i + 1 => by
    unfold lookN
    split
    · exact lookN_2 ht i
    · rename_i t e
      split
      · exact Nat.le_of_lt (ht _ _ e)
      · exact lookN_2 ht i
theorem lookN_1 {fm : Nat → Option Frm} {k : Nat} {tn : Nat → Option Nat} (hk : k < 10) : ∀ i, i ≤ 54 → ∀ s, (lookN fm k tn i).1 = some s → s < 540
  | 0, _, s, h => by cases h
  | i + 1, hi, s, h => by
    unfold lookN at h
    split at h
    · exact lookN_1 hk i (by omega) s h
    · split at h
      · cases h; omega
      · exact lookN_1 hk i (by omega) s h

set_option maxHeartbeats 4000000 in
set_option maxRecDepth 100000 in
/-- findByLooking -/
theorem kX2_findByLooking (l : Launch) (K : m_K) (A : Nat → Prop) (H0 : Heap) (o : Nat) (ad : Nat → Nat) (f : Nat → Nat → Int32) (d : Int32) (ft : Nat → Option Nat) (li : List Value) (T : va_W) (hP : va_P K.1 vwCl (cW K o ad f d ft li T) H0) (fb : Nat → Nat) (hfb : ∀ l, l < 6 → f 0 l = nI (fb l) ∧ fb l < 6) (fm : Nat → Option Frm) (hfm : ∀ k, k < 540 → FOpt K T (ft k) (fm k)) (on fw : Nat → Int32) (hon : ∀ g, g < 6 → f 1 g = on g) (hfw : ∀ g, g < 6 → f 2 g = fw g) (k a : Nat) (x : Int32) (u : Nat) (hk9 : k < 10) (ha : a < 6) (hu9 : u < 3) : Met l yX2_findByLooking wsX2_findByLooking ({ frames := 4, cells := 0, slots := 0, locals := 94 } : Room) (m_Pc K A H0 [.ref o, .int (nI k), .int (nI a), .int x, .int (nI u)]) (va_Qi (fun r H1 => r = oI (lookN fm k (turnF fb on fw x u a) 54).1 ∧ H0 = H1) m_B A) 0 0 A := by
  refine m_ofW (by decide) rfl (Nat.le_of_ble_eq_true rfl) ?_
  intro p e s m args below meth c ls hx hb hr hml hown hts hlk hnm hE hsz hS hl
  have hl : lv_has ls 10 [(0, .ref o), (1, .int (nI k)), (2, .int (nI a)), (3, .int x), (4, .int (nI u))] := hl
  have iX2 : ∀ w ∈ wsX20, w ∈ wsX2_findByLooking := by decide +kernel
  have f34 := hts (.fieldLink RX2 34 "PhraseCatalogue" "formTable" "[LPhraseCatalogue$Form;") (by decide +kernel)
  refine lv_iconst (v := (-1)) hx hb dX2_findByLooking_0 (by decide) ?_
  refine lv_istore (lv' := [(5, .int (-1)), (0, .ref o), (1, .int (nI k)), (2, .int (nI a)), (3, .int x), (4, .int (nI u))]) hx hb dX2_findByLooking_1 hl (by decide) rfl (fun ls hl => ?_)
  refine lv_bipush (v := nI 24) hx hb dX2_findByLooking_3 (by decide) ?_
  refine lv_istore (lv' := [(6, .int (nI 24)), (5, .int (-1)), (0, .ref o), (1, .int (nI k)), (2, .int (nI a)), (3, .int x), (4, .int (nI u))]) hx hb dX2_findByLooking_5 hl (by decide) rfl (fun ls hl => ?_)
  refine lv_iload_n hx hb dX2_findByLooking_7 rfl (lv_at hl 3 rfl) ?_
  refine lv_iconst (v := nI 0) hx hb dX2_findByLooking_8 (by decide) ?_
  refine lv_iconst (v := nI 0) hx hb dX2_findByLooking_9 (by decide) ?_
  refine lv_iconst (v := nI 0) hx hb dX2_findByLooking_10 (by decide) ?_
  refine m_cSi (rest := []) ⟨hx, hb, hml, hown, hts⟩ hE hS (fun _ h => h) (kX2_slotOf l K A _ k 0 0 0 (54 * k) (by omega)) (va_cwS 4 hts gX2_findByLooking_X2_slotOf rfl rfl rfl (by decide +kernel) ⟨Nat.le_of_ble_eq_true rfl, Nat.le_of_ble_eq_true rfl⟩) rfl rfl hl.1 rfl (Nat.le_of_ble_eq_true rfl) dX2_findByLooking_11 ⟨Nat.le_of_ble_eq_true rfl, Nat.le_of_ble_eq_true rfl⟩ (fun r H1 locs hp hS hk => ?_)
  obtain ⟨rfl, rfl⟩ := hp
  refine lv_istore (lv' := [(7, .int (nI (54 * k))), (6, .int (nI 24)), (5, .int (-1)), (0, .ref o), (1, .int (nI k)), (2, .int (nI a)), (3, .int x), (4, .int (nI u))]) hx hb dX2_findByLooking_14 hl (by decide) rfl (fun ls hl => ?_)
  refine lv_iconst (v := nI 0) hx hb dX2_findByLooking_16 (by decide) ?_
  refine lv_istore (lv' := [(8, .int (nI 0)), (7, .int (nI (54 * k))), (6, .int (nI 24)), (5, .int (-1)), (0, .ref o), (1, .int (nI k)), (2, .int (nI a)), (3, .int x), (4, .int (nI u))]) hx hb dX2_findByLooking_17 hl (by decide) rfl (fun ls hl => ?_)
  refine (?_ : ∀ (n9 : Nat) (i : Nat) (b9 : Option Nat) (t9 : Nat) (locs : List Loc) (ls : Array Slot), i ≤ 54 → 54 < i + n9 → t9 ≤ 24 → lookN fm k (turnF fb on fw x u a) i = (b9, t9) → va_S A s.heap H0 locs → lv_has ls 10 [(5, .int (oI b9)), (6, .int (nI t9)), (7, .int (nI (54 * k))), (8, .int (nI i)), (0, .ref o), (1, .int (nI k)), (2, .int (nI a)), (3, .int x), (4, .int (nI u))] → W p l e _ s m args below meth c H0 locs 0 0 _ (F0 m 19 ls [])) (54 + 1) 0 none 24 _ ls (by omega) (by omega) (Nat.le_refl _) rfl hS (lv_sub hl [3, 2, 1, 0, 4, 5, 6, 7, 8] rfl)
  clear hS hl
  intro n9
  induction n9 with
  | zero => intro i b9 t9 locs ls hi9 hn9; exact absurd hn9 (by omega)
  | succ n9 ih =>
    intro i b9 t9 locs ls hi9 hn9 ht9 hinv hS hl
    refine lv_iload hx hb dX2_findByLooking_19 (lv_at hl 3 rfl) ?_
    refine lv_bipush (v := nI 54) hx hb dX2_findByLooking_21 (by decide) ?_
    refine m_icmp_ge (tgt := 89) hx hb (by omega) (by omega) dX2_findByLooking_23 (by decide) (fun c_23 => ?_) (fun c_23 => ?_)
    · refine lv_iload hx hb dX2_findByLooking_89 (lv_at hl 0 rfl) ?_
      exact m_iret hx hb hr hlk hS (Nat.le_of_ble_eq_true rfl) (Nat.le_of_ble_eq_true rfl) dX2_findByLooking_91 (⟨by rw [show (54 : Nat) = i by omega, hinv], rfl⟩)
    · refine lv_aload_n hx hb dX2_findByLooking_26 rfl (lv_at hl 4 rfl) ?_
      refine lv_iload hx hb dX2_findByLooking_27 (lv_at hl 2 rfl) ?_
      refine lv_iload hx hb dX2_findByLooking_29 (lv_at hl 3 rfl) ?_
      refine m_iadd hx hb dX2_findByLooking_31 ?_
      refine lv_iload_n hx hb dX2_findByLooking_32 rfl (lv_at hl 6 rfl) ?_
      refine lv_iload_n hx hb dX2_findByLooking_33 rfl (lv_at hl 7 rfl) ?_
      refine lv_iload hx hb dX2_findByLooking_34 (lv_at hl 8 rfl) ?_
      refine m_cVi (rest := []) ⟨hx, hb, hml, hown, hts⟩ hE hS (fun _ h => h) (kX2_turnOf l K A H0 o ad f d ft li T hP fb hfb on fw hon hfw (54 * k + i) a x u (by omega) ha hu9) (cwV 4 hts gX2_findByLooking_X2_turnOf rfl rfl rfl (by decide +kernel) ⟨Nat.le_of_ble_eq_true rfl, Nat.le_of_ble_eq_true rfl⟩) (va_recv hE.k hP (ci := 3) (q0 := 0) rfl rfl) rfl rfl hl.1 rfl (Nat.le_of_ble_eq_true rfl) dX2_findByLooking_36 ⟨Nat.le_of_ble_eq_true rfl, Nat.le_of_ble_eq_true rfl⟩ (fun r H1 locs hp hS hk => ?_)
      obtain ⟨rfl, rfl⟩ := hp
      refine lv_istore (lv' := [(9, .int (oI (turnF fb on fw x u a (54 * k + i)))), (5, .int (oI b9)), (6, .int (nI t9)), (7, .int (nI (54 * k))), (8, .int (nI i)), (0, .ref o), (1, .int (nI k)), (2, .int (nI a)), (3, .int x), (4, .int (nI u))]) hx hb dX2_findByLooking_39 hl (by decide) rfl (fun ls hl => ?_)
      refine lv_iload hx hb dX2_findByLooking_41 (lv_at hl 0 rfl) ?_
      refine lv_iconst (v := (-1)) hx hb dX2_findByLooking_43 (by decide) ?_
      refine m_icmp_eq_o (tgt := 83) hx hb (fun z hz => Nat.lt_trans (turnF_lt hz) (by decide)) dX2_findByLooking_44 (by decide) (fun c_44 => ?_) (fun k_44 c_44 => ?_)
      · refine lv_iinc (v := nI (i + 1)) (lv' := [(8, .int (nI (i + 1))), (9, .int (oI (turnF fb on fw x u a (54 * k + i)))), (5, .int (oI b9)), (6, .int (nI t9)), (7, .int (nI (54 * k))), (0, .ref o), (1, .int (nI k)), (2, .int (nI a)), (3, .int x), (4, .int (nI u))]) hx hb dX2_findByLooking_83 hl (k := 4) rfl (m_inc _) (by decide) rfl (fun ls hl => ?_)
        refine lv_goto (tgt := 19) hx hb dX2_findByLooking_86 (by decide) ?_
        exact ih (i + 1) b9 t9 _ ls (by omega) (by omega) (by omega) (by rw [lookN, c_44, hinv]) hS (lv_sub hl [2, 3, 4, 0, 5, 6, 7, 8, 9] rfl)
      · rw [c_44] at hl
        have hl : lv_has ls 10 [(9, .int (nI k_44)), (5, .int (oI b9)), (6, .int (nI t9)), (7, .int (nI (54 * k))), (8, .int (nI i)), (0, .ref o), (1, .int (nI k)), (2, .int (nI a)), (3, .int x), (4, .int (nI u))] := hl
        have hk44 := turnF_lt c_44
        refine lv_iload hx hb dX2_findByLooking_47 (lv_at hl 0 rfl) ?_
        refine lv_iload hx hb dX2_findByLooking_49 (lv_at hl 2 rfl) ?_
        refine m_icmp_ge (tgt := 83) hx hb (by omega) (by omega) dX2_findByLooking_51 (by decide) (fun c_51 => ?_) (fun c_51 => ?_)
        · refine lv_iinc (v := nI (i + 1)) (lv' := [(8, .int (nI (i + 1))), (9, .int (nI k_44)), (5, .int (oI b9)), (6, .int (nI t9)), (7, .int (nI (54 * k))), (0, .ref o), (1, .int (nI k)), (2, .int (nI a)), (3, .int x), (4, .int (nI u))]) hx hb dX2_findByLooking_83 hl (k := 4) rfl (m_inc _) (by decide) rfl (fun ls hl => ?_)
          refine lv_goto (tgt := 19) hx hb dX2_findByLooking_86 (by decide) ?_
          exact ih (i + 1) b9 t9 _ ls (by omega) (by omega) (by omega) (by rw [lookN, c_44]; simp only [hinv]; rw [if_neg (fun z => absurd z.1 (by omega))]) hS (lv_sub hl [2, 3, 4, 0, 5, 6, 7, 8, 9] rfl)
        · refine lv_aload_n hx hb dX2_findByLooking_54 rfl (lv_at hl 5 rfl) ?_
          refine lv_iload_n hx hb dX2_findByLooking_55 rfl (lv_at hl 6 rfl) ?_
          refine lv_aload_n hx hb dX2_findByLooking_56 rfl (lv_at hl 5 rfl) ?_
          refine va_get (D := K.1) (ci := 3) (v := .ref (ad 5)) (C := RX2) (T := TX2) (N := 10) hx hb hts iX2 hown hE.k hP 0 rfl rfl 5 (by decide) f34 (fun _ h9 => h9) rfl dX2_findByLooking_57 ?_
          refine lv_iload hx hb dX2_findByLooking_60 (lv_at hl 3 rfl) ?_
          refine lv_iload hx hb dX2_findByLooking_62 (lv_at hl 4 rfl) ?_
          refine m_iadd hx hb dX2_findByLooking_64 ?_
          refine m_aald2 hx hb hE.k hP 5 rfl (by omega) (by omega) rfl dX2_findByLooking_65 ?_
          refine m_cVi (rest := []) ⟨hx, hb, hml, hown, hts⟩ hE hS (fun _ h => h) (kX2_isFitting l K A H0 o ad f d ft li T hP fm hfm k hk9 (ft (54 * k + i)) (fm (54 * k + i)) (hfm (54 * k + i) (by omega))) (cwV 2 hts gX2_findByLooking_X2_isFitting rfl rfl rfl (by decide +kernel) ⟨Nat.le_of_ble_eq_true rfl, Nat.le_of_ble_eq_true rfl⟩) (va_recv hE.k hP (ci := 3) (q0 := 0) rfl rfl) rfl rfl hl.1 rfl (Nat.le_of_ble_eq_true rfl) dX2_findByLooking_66 ⟨Nat.le_of_ble_eq_true rfl, Nat.le_of_ble_eq_true rfl⟩ (fun r H1 locs hp hS hk => ?_)
          obtain ⟨rfl, rfl⟩ := hp
          refine m_if_eq_b (tgt := 83) hx hb dX2_findByLooking_69 (by decide) (fun c_69 => ?_) (fun c_69 => ?_)
          · refine lv_iinc (v := nI (i + 1)) (lv' := [(8, .int (nI (i + 1))), (9, .int (nI k_44)), (5, .int (oI b9)), (6, .int (nI t9)), (7, .int (nI (54 * k))), (0, .ref o), (1, .int (nI k)), (2, .int (nI a)), (3, .int x), (4, .int (nI u))]) hx hb dX2_findByLooking_83 hl (k := 4) rfl (m_inc _) (by decide) rfl (fun ls hl => ?_)
            refine lv_goto (tgt := 19) hx hb dX2_findByLooking_86 (by decide) ?_
            exact ih (i + 1) b9 t9 _ ls (by omega) (by omega) (by omega) (by rw [lookN, c_44]; simp only [hinv]; rw [if_neg (fun z => absurd z.2 (by rw [c_69]; decide))]) hS (lv_sub hl [2, 3, 4, 0, 5, 6, 7, 8, 9] rfl)
          · refine lv_iload hx hb dX2_findByLooking_72 (lv_at hl 3 rfl) ?_
            refine lv_iload hx hb dX2_findByLooking_74 (lv_at hl 4 rfl) ?_
            refine m_iadd hx hb dX2_findByLooking_76 ?_
            refine lv_istore (lv' := [(5, .int (nI ((54 * k) + i))), (9, .int (nI k_44)), (6, .int (nI t9)), (7, .int (nI (54 * k))), (8, .int (nI i)), (0, .ref o), (1, .int (nI k)), (2, .int (nI a)), (3, .int x), (4, .int (nI u))]) hx hb dX2_findByLooking_77 hl (by decide) rfl (fun ls hl => ?_)
            refine lv_iload hx hb dX2_findByLooking_79 (lv_at hl 1 rfl) ?_
            refine lv_istore (lv' := [(6, .int (nI k_44)), (5, .int (nI ((54 * k) + i))), (9, .int (nI k_44)), (7, .int (nI (54 * k))), (8, .int (nI i)), (0, .ref o), (1, .int (nI k)), (2, .int (nI a)), (3, .int x), (4, .int (nI u))]) hx hb dX2_findByLooking_81 hl (by decide) rfl (fun ls hl => ?_)
            refine lv_iinc (v := nI (i + 1)) (lv' := [(8, .int (nI (i + 1))), (6, .int (nI k_44)), (5, .int (nI ((54 * k) + i))), (9, .int (nI k_44)), (7, .int (nI (54 * k))), (0, .ref o), (1, .int (nI k)), (2, .int (nI a)), (3, .int x), (4, .int (nI u))]) hx hb dX2_findByLooking_83 hl (k := 4) rfl (m_inc _) (by decide) rfl (fun ls hl => ?_)
            refine lv_goto (tgt := 19) hx hb dX2_findByLooking_86 (by decide) ?_
            exact ih (i + 1) (some (54 * k + i)) k_44 _ ls (by omega) (by omega) (Nat.le_of_lt (turnF_lt c_44)) (by rw [lookN, c_44]; simp only [hinv]; rw [if_pos ⟨by omega, c_69⟩]) hS (lv_sub hl [2, 1, 4, 0, 5, 6, 7, 8, 9] rfl)
