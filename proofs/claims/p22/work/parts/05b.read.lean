
set_option maxHeartbeats 4000000 in
set_option maxRecDepth 100000 in
/-- classOf -/
theorem kX2_classOf (l : Launch) (K : m_K) (A : Nat → Prop) (H0 : Heap) (o : Nat) (ad : Nat → Nat) (f : Nat → Nat → Int32) (d : Int32) (ft : Nat → Option Nat) (li : List Value) (T : va_W) (hP : va_P K.1 vwCl (cW K o ad f d ft li T) H0) (on fw : Nat → Int32) (hon : ∀ g, g < 6 → f 1 g = on g) (hfw : ∀ g, g < 6 → f 2 g = fw g) (g : Nat) (hg : g < 6) (x : Int32) : Met l yX2_classOf wsX2_classOf ({ frames := 0, cells := 0, slots := 0, locals := 0 } : Room) (m_Pc K A H0 [.ref o, .int (nI g), .int x]) (va_Qi (fun r H1 => r = nI (kindF on fw g x) ∧ H0 = H1) m_B A) 0 0 A := by
  refine m_ofW (by decide) rfl (Nat.le_of_ble_eq_true rfl) ?_
  intro p e s m args below meth c ls hx hb hr hml hown hts hlk hnm hE hsz hS hl
  have hl : lv_has ls 3 [(0, .ref o), (1, .int (nI g)), (2, .int x)] := hl
  have iX2 : ∀ w ∈ wsX20, w ∈ wsX2_classOf := by decide +kernel
  have f13 := hts (.fieldLink RX2 13 "PhraseCatalogue" "onesLimits" "[I") (by decide +kernel)
  have f16 := hts (.fieldLink RX2 16 "PhraseCatalogue" "fewLimits" "[I") (by decide +kernel)
  refine lv_iload_n hx hb dX2_classOf_0 rfl (lv_at hl 2 rfl) ?_
  refine lv_if_ne (tgt := 6) hx hb dX2_classOf_1 (by decide) (fun c_1 => ?_) (fun c_1 => ?_)
  · refine lv_iload_n hx hb dX2_classOf_6 rfl (lv_at hl 2 rfl) ?_
    refine lv_aload_n hx hb dX2_classOf_7 rfl (lv_at hl 0 rfl) ?_
    refine va_get (D := K.1) (ci := 3) (v := .ref (ad 1)) (C := RX2) (T := TX2) (N := 10) hx hb hts iX2 hown hE.k hP 0 rfl rfl 1 (by decide) f13 (fun _ h9 => h9) rfl dX2_classOf_8 ?_
    refine lv_iload_n hx hb dX2_classOf_11 rfl (lv_at hl 1 rfl) ?_
    refine m_iald hx hb hE.k hP 2 rfl (by omega) (by omega) (hon _ (by omega)) dX2_classOf_12 ?_
    refine lv_icmp_gt (tgt := 18) hx hb dX2_classOf_13 (by decide) (fun c_13 => ?_) (fun c_13 => ?_)
    · refine lv_iload_n hx hb dX2_classOf_18 rfl (lv_at hl 2 rfl) ?_
      refine lv_aload_n hx hb dX2_classOf_19 rfl (lv_at hl 0 rfl) ?_
      refine va_get (D := K.1) (ci := 3) (v := .ref (ad 2)) (C := RX2) (T := TX2) (N := 10) hx hb hts iX2 hown hE.k hP 0 rfl rfl 2 (by decide) f16 (fun _ h9 => h9) rfl dX2_classOf_20 ?_
      refine lv_iload_n hx hb dX2_classOf_23 rfl (lv_at hl 1 rfl) ?_
      refine m_iald hx hb hE.k hP 3 rfl (by omega) (by omega) (hfw _ (by omega)) dX2_classOf_24 ?_
      refine lv_icmp_gt (tgt := 32) hx hb dX2_classOf_25 (by decide) (fun c_25 => ?_) (fun c_25 => ?_)
      · refine lv_iconst (v := nI 2) hx hb dX2_classOf_32 (by decide) ?_
        exact m_iret hx hb hr hlk hS (Nat.le_of_ble_eq_true rfl) (Nat.le_of_ble_eq_true rfl) dX2_classOf_33 (⟨by rw [kindF, if_neg c_1, if_neg (fun q => absurd c_13 (Int32.not_lt.mpr q)), if_neg (fun q => absurd c_25 (Int32.not_lt.mpr q))], rfl⟩)
      · refine lv_iconst (v := nI 1) hx hb dX2_classOf_28 (by decide) ?_
        refine lv_goto (tgt := 33) hx hb dX2_classOf_29 (by decide) ?_
        exact m_iret hx hb hr hlk hS (Nat.le_of_ble_eq_true rfl) (Nat.le_of_ble_eq_true rfl) dX2_classOf_33 (⟨by rw [kindF, if_neg c_1, if_neg (fun q => absurd c_13 (Int32.not_lt.mpr q)), if_pos (Int32.not_lt.mp c_25)], rfl⟩)
    · refine lv_iconst (v := nI 0) hx hb dX2_classOf_16 (by decide) ?_
      exact m_iret hx hb hr hlk hS (Nat.le_of_ble_eq_true rfl) (Nat.le_of_ble_eq_true rfl) dX2_classOf_17 (⟨by rw [kindF, if_neg c_1, if_pos (Int32.not_lt.mp c_13)], rfl⟩)
  · refine lv_iconst (v := nI 2) hx hb dX2_classOf_4 (by decide) ?_
    exact m_iret hx hb hr hlk hS (Nat.le_of_ble_eq_true rfl) (Nat.le_of_ble_eq_true rfl) dX2_classOf_5 (⟨by rw [kindF, if_pos c_1], rfl⟩)

set_option maxHeartbeats 4000000 in
set_option maxRecDepth 100000 in
/-- chainPlace -/
theorem kX2_chainPlace (l : Launch) (K : m_K) (A : Nat → Prop) (H0 : Heap) (o : Nat) (ad : Nat → Nat) (f : Nat → Nat → Int32) (d : Int32) (ft : Nat → Option Nat) (li : List Value) (T : va_W) (hP : va_P K.1 vwCl (cW K o ad f d ft li T) H0) (fb : Nat → Nat) (hfb : ∀ l, l < 6 → f 0 l = nI (fb l) ∧ fb l < 6) (a b : Nat) (ha : a < 6) (hb9 : b < 6) : Met l yX2_chainPlace wsX2_chainPlace ({ frames := 0, cells := 0, slots := 0, locals := 0 } : Room) (m_Pc K A H0 [.ref o, .int (nI a), .int (nI b)]) (va_Qi (fun r H1 => r = oI (chP fb b 6 a 0) ∧ H0 = H1) m_B A) 0 0 A := by
  refine m_ofW (by decide) rfl (Nat.le_of_ble_eq_true rfl) ?_
  intro p e s m args below meth c ls hx hb hr hml hown hts hlk hnm hE hsz hS hl
  have hl : lv_has ls 5 [(0, .ref o), (1, .int (nI a)), (2, .int (nI b))] := hl
  have iX2 : ∀ w ∈ wsX20, w ∈ wsX2_chainPlace := by decide +kernel
  have f9 := hts (.fieldLink RX2 9 "PhraseCatalogue" "fallbacks" "[I") (by decide +kernel)
  refine lv_iload_n hx hb dX2_chainPlace_0 rfl (lv_at hl 1 rfl) ?_
  refine lv_istore_n (lv' := [(3, .int (nI a)), (0, .ref o), (1, .int (nI a)), (2, .int (nI b))]) hx hb dX2_chainPlace_1 rfl hl (by decide) rfl (fun ls hl => ?_)
  refine lv_iconst (v := nI 0) hx hb dX2_chainPlace_2 (by decide) ?_
  refine lv_istore (lv' := [(4, .int (nI 0)), (3, .int (nI a)), (0, .ref o), (1, .int (nI a)), (2, .int (nI b))]) hx hb dX2_chainPlace_3 hl (by decide) rfl (fun ls hl => ?_)
  refine (?_ : ∀ (n9 : Nat) (i : Nat) (at9 : Nat) (locs : List Loc) (ls : Array Slot), i ≤ 6 → 6 < i + n9 → at9 < 6 → chP fb b (6 - i) at9 i = chP fb b 6 a 0 → va_S A s.heap H0 locs → lv_has ls 5 [(3, .int (nI at9)), (4, .int (nI i)), (0, .ref o), (1, .int (nI a)), (2, .int (nI b))] → W p l e _ s m args below meth c H0 locs 0 0 _ (F0 m 5 ls [])) (6 + 1) 0 a _ ls (by omega) (by omega) ha rfl hS (lv_sub hl [1, 0, 2, 3, 4] rfl)
  clear hS hl
  intro n9
  induction n9 with
  | zero => intro i at9 locs ls hi9 hn9; exact absurd hn9 (by omega)
  | succ n9 ih =>
    intro i at9 locs ls hi9 hn9 hat hinv hS hl
    refine lv_iload hx hb dX2_chainPlace_5 (lv_at hl 1 rfl) ?_
    refine lv_bipush (v := nI 6) hx hb dX2_chainPlace_7 (by decide) ?_
    refine m_icmp_ge (tgt := 39) hx hb (by omega) (by omega) dX2_chainPlace_9 (by decide) (fun c_9 => ?_) (fun c_9 => ?_)
    · refine lv_iconst (v := (-1)) hx hb dX2_chainPlace_39 (by decide) ?_
      exact m_iret hx hb hr hlk hS (Nat.le_of_ble_eq_true rfl) (Nat.le_of_ble_eq_true rfl) dX2_chainPlace_40 (⟨by rw [← hinv, show 6 - i = 0 by omega]; rfl, rfl⟩)
    · refine lv_iload_n hx hb dX2_chainPlace_12 rfl (lv_at hl 0 rfl) ?_
      refine lv_iload_n hx hb dX2_chainPlace_13 rfl (lv_at hl 4 rfl) ?_
      refine m_icmp_ne (tgt := 20) hx hb (by omega) (by omega) dX2_chainPlace_14 (by decide) (fun c_14 => ?_) (fun c_14 => ?_)
      · refine lv_iload_n hx hb dX2_chainPlace_20 rfl (lv_at hl 0 rfl) ?_
        refine m_if_ne (tgt := 26) hx hb (by omega) dX2_chainPlace_21 (by decide) (fun c_21 => ?_) (fun c_21 => ?_)
        · refine lv_aload_n hx hb dX2_chainPlace_26 rfl (lv_at hl 2 rfl) ?_
          refine va_get (D := K.1) (ci := 3) (v := .ref (ad 0)) (C := RX2) (T := TX2) (N := 10) hx hb hts iX2 hown hE.k hP 0 rfl rfl 0 (by decide) f9 (fun _ h9 => h9) rfl dX2_chainPlace_27 ?_
          refine lv_iload_n hx hb dX2_chainPlace_30 rfl (lv_at hl 0 rfl) ?_
          refine m_iald hx hb hE.k hP 1 rfl (by omega) (by omega) ((hfb _ (by omega)).1) dX2_chainPlace_31 ?_
          refine lv_istore_n (lv' := [(3, .int (nI (fb at9))), (4, .int (nI i)), (0, .ref o), (1, .int (nI a)), (2, .int (nI b))]) hx hb dX2_chainPlace_32 rfl hl (by decide) rfl (fun ls hl => ?_)
          refine lv_iinc (v := nI (i + 1)) (lv' := [(4, .int (nI (i + 1))), (3, .int (nI (fb at9))), (0, .ref o), (1, .int (nI a)), (2, .int (nI b))]) hx hb dX2_chainPlace_33 hl (k := 1) rfl (m_inc _) (by decide) rfl (fun ls hl => ?_)
          refine lv_goto (tgt := 5) hx hb dX2_chainPlace_36 (by decide) ?_
          exact ih (i + 1) (fb at9) _ ls (by omega) (by omega) ((hfb _ hat).2) (by rw [← hinv, show 6 - i = (6 - (i + 1)) + 1 by omega, chP, if_neg c_14, if_neg c_21]) hS (lv_sub hl [1, 0, 2, 3, 4] rfl)
        · refine lv_iconst (v := (-1)) hx hb dX2_chainPlace_24 (by decide) ?_
          exact m_iret hx hb hr hlk hS (Nat.le_of_ble_eq_true rfl) (Nat.le_of_ble_eq_true rfl) dX2_chainPlace_25 (⟨by rw [← hinv, show 6 - i = (6 - (i + 1)) + 1 by omega, chP, if_neg c_14, if_pos c_21]; rfl, rfl⟩)
      · refine lv_iload hx hb dX2_chainPlace_17 (lv_at hl 1 rfl) ?_
        exact m_iret hx hb hr hlk hS (Nat.le_of_ble_eq_true rfl) (Nat.le_of_ble_eq_true rfl) dX2_chainPlace_19 (⟨by rw [← hinv, show 6 - i = (6 - (i + 1)) + 1 by omega, chP, if_pos c_14]; rfl, rfl⟩)

theorem FOpt_n {K : m_K} {T : va_W} {r : Option Nat} {fo : Option Frm} (h : FOpt K T r fo) (e : r = none) : fo.isSome = false := by
  cases fo with
  | none => rfl
  | some F =>
    obtain ⟨a, h1, -⟩ := h
    rw [e] at h1
    cases h1
theorem FOpt_y {K : m_K} {T : va_W} {r : Option Nat} {a : Nat} {fo : Option Frm} (h : FOpt K T r fo) (e : r = some a) : fo.isSome = true := by
  cases fo with
  | none => exact absurd (e.symm.trans h) (by simp)
  | some F => rfl
theorem cnt_y {b : Bool} {n : Nat} (h : b = true) : n + 1 = n + (if b then 1 else 0) := by rw [h]; rfl
theorem cnt_n {b : Bool} {n : Nat} (h : b = false) : n = n + (if b then 1 else 0) := by rw [h]; rfl

set_option maxHeartbeats 4000000 in
set_option maxRecDepth 100000 in
/-- countForms -/
theorem kX2_countForms (l : Launch) (K : m_K) (A : Nat → Prop) (H0 : Heap) (o : Nat) (ad : Nat → Nat) (f : Nat → Nat → Int32) (d : Int32) (ft : Nat → Option Nat) (li : List Value) (T : va_W) (hP : va_P K.1 vwCl (cW K o ad f d ft li T) H0) (fm : Nat → Option Frm) (hfm : ∀ k, k < 540 → FOpt K T (ft k) (fm k)) (k g : Nat) (hk : k < 10) (hg : g < 6) : Met l yX2_countForms wsX2_countForms ({ frames := 2, cells := 0, slots := 0, locals := 44 } : Room) (m_Pc K A H0 [.ref o, .int (nI k), .int (nI g)]) (va_Qi (fun r H1 => r = nI (cntF fm (54 * k + 9 * g)) ∧ H0 = H1) m_B A) 0 0 A := by
  refine m_ofW (by decide) rfl (Nat.le_of_ble_eq_true rfl) ?_
  intro p e s m args below meth c ls hx hb hr hml hown hts hlk hnm hE hsz hS hl
  have hl : lv_has ls 6 [(0, .ref o), (1, .int (nI k)), (2, .int (nI g))] := hl
  have iX2 : ∀ w ∈ wsX20, w ∈ wsX2_countForms := by decide +kernel
  have f34 := hts (.fieldLink RX2 34 "PhraseCatalogue" "formTable" "[LPhraseCatalogue$Form;") (by decide +kernel)
  refine lv_iload_n hx hb dX2_countForms_0 rfl (lv_at hl 1 rfl) ?_
  refine lv_iload_n hx hb dX2_countForms_1 rfl (lv_at hl 2 rfl) ?_
  refine lv_iconst (v := nI 0) hx hb dX2_countForms_2 (by decide) ?_
  refine lv_iconst (v := nI 0) hx hb dX2_countForms_3 (by decide) ?_
  refine m_cSi (rest := []) ⟨hx, hb, hml, hown, hts⟩ hE hS (fun _ h => h) (kX2_slotOf l K A _ k g 0 0 (54 * k + 9 * g) (by omega)) (va_cwS 4 hts gX2_countForms_X2_slotOf rfl rfl rfl (by decide +kernel) ⟨Nat.le_of_ble_eq_true rfl, Nat.le_of_ble_eq_true rfl⟩) rfl rfl hl.1 rfl (Nat.le_of_ble_eq_true rfl) dX2_countForms_4 ⟨Nat.le_of_ble_eq_true rfl, Nat.le_of_ble_eq_true rfl⟩ (fun r H1 locs hp hS hk => ?_)
  obtain ⟨rfl, rfl⟩ := hp
  refine lv_istore_n (lv' := [(3, .int (nI (54 * k + 9 * g))), (0, .ref o), (1, .int (nI k)), (2, .int (nI g))]) hx hb dX2_countForms_7 rfl hl (by decide) rfl (fun ls hl => ?_)
  refine lv_iconst (v := nI 0) hx hb dX2_countForms_8 (by decide) ?_
  refine lv_istore (lv' := [(4, .int (nI 0)), (3, .int (nI (54 * k + 9 * g))), (0, .ref o), (1, .int (nI k)), (2, .int (nI g))]) hx hb dX2_countForms_9 hl (by decide) rfl (fun ls hl => ?_)
  refine lv_iconst (v := nI 0) hx hb dX2_countForms_11 (by decide) ?_
  refine lv_istore (lv' := [(5, .int (nI 0)), (4, .int (nI 0)), (3, .int (nI (54 * k + 9 * g))), (0, .ref o), (1, .int (nI k)), (2, .int (nI g))]) hx hb dX2_countForms_12 hl (by decide) rfl (fun ls hl => ?_)
  refine (?_ : ∀ (n9 : Nat) (i : Nat) (n : Nat) (locs : List Loc) (ls : Array Slot), i ≤ 9 → 9 < i + n9 → n = cntN (fun j => (fm (54 * k + 9 * g + j)).isSome) i → va_S A s.heap H0 locs → lv_has ls 6 [(5, .int (nI i)), (4, .int (nI n)), (3, .int (nI (54 * k + 9 * g))), (0, .ref o), (1, .int (nI k)), (2, .int (nI g))] → W p l e _ s m args below meth c H0 locs 0 0 _ (F0 m 14 ls [])) (9 + 1) 0 0 _ ls (by omega) (by omega) rfl hS (lv_sub hl [0, 1, 2, 3, 4, 5] rfl)
  clear hS hl
  intro n9
  induction n9 with
  | zero => intro i n locs ls hi9 hn9; exact absurd hn9 (by omega)
  | succ n9 ih =>
    intro i n locs ls hi9 hn9 hinv hS hl
    refine lv_iload hx hb dX2_countForms_14 (lv_at hl 0 rfl) ?_
    refine lv_bipush (v := nI 9) hx hb dX2_countForms_16 (by decide) ?_
    refine m_icmp_ge (tgt := 42) hx hb (by omega) (by omega) dX2_countForms_18 (by decide) (fun c_18 => ?_) (fun c_18 => ?_)
    · refine lv_iload hx hb dX2_countForms_42 (lv_at hl 1 rfl) ?_
      exact m_iret hx hb hr hlk hS (Nat.le_of_ble_eq_true rfl) (Nat.le_of_ble_eq_true rfl) dX2_countForms_44 (⟨by rw [hinv, show i = 9 by omega]; rfl, rfl⟩)
    · refine lv_aload_n hx hb dX2_countForms_21 rfl (lv_at hl 3 rfl) ?_
      refine va_get (D := K.1) (ci := 3) (v := .ref (ad 5)) (C := RX2) (T := TX2) (N := 10) hx hb hts iX2 hown hE.k hP 0 rfl rfl 5 (by decide) f34 (fun _ h9 => h9) rfl dX2_countForms_22 ?_
      refine lv_iload_n hx hb dX2_countForms_25 rfl (lv_at hl 2 rfl) ?_
      refine lv_iload hx hb dX2_countForms_26 (lv_at hl 0 rfl) ?_
      refine m_iadd hx hb dX2_countForms_28 ?_
      refine m_aald2 hx hb hE.k hP 5 rfl (by omega) (by omega) rfl dX2_countForms_29 ?_
      refine m_ifnull (tgt := 36) hx hb dX2_countForms_30 (by decide) (fun c_30 => ?_) (fun a_30 c_30 => ?_)
      · have hz : (fm (54 * k + 9 * g + i)).isSome = false := FOpt_n (hfm _ (by omega)) c_30
        refine lv_iinc (v := nI (i + 1)) (lv' := [(5, .int (nI (i + 1))), (4, .int (nI n)), (3, .int (nI (54 * k + 9 * g))), (0, .ref o), (1, .int (nI k)), (2, .int (nI g))]) hx hb dX2_countForms_36 hl (k := 0) rfl (m_inc _) (by decide) rfl (fun ls hl => ?_)
        refine lv_goto (tgt := 14) hx hb dX2_countForms_39 (by decide) ?_
        exact ih (i + 1) n _ ls (by omega) (by omega) (by rw [cntN, ← hinv]; exact cnt_n hz) hS (lv_sub hl [0, 1, 2, 3, 4, 5] rfl)
      · have hz : (fm (54 * k + 9 * g + i)).isSome = true := FOpt_y (hfm _ (by omega)) c_30
        have hnl := cntN_le (fun j => (fm (54 * k + 9 * g + j)).isSome) i
        refine lv_iinc (v := nI (n + 1)) (lv' := [(4, .int (nI (n + 1))), (5, .int (nI i)), (3, .int (nI (54 * k + 9 * g))), (0, .ref o), (1, .int (nI k)), (2, .int (nI g))]) hx hb dX2_countForms_33 hl (k := 1) rfl (m_inc _) (by decide) rfl (fun ls hl => ?_)
        refine lv_iinc (v := nI (i + 1)) (lv' := [(5, .int (nI (i + 1))), (4, .int (nI (n + 1))), (3, .int (nI (54 * k + 9 * g))), (0, .ref o), (1, .int (nI k)), (2, .int (nI g))]) hx hb dX2_countForms_36 hl (k := 1) rfl (m_inc _) (by decide) rfl (fun ls hl => ?_)
        refine lv_goto (tgt := 14) hx hb dX2_countForms_39 (by decide) ?_
        exact ih (i + 1) (n + 1) _ ls (by omega) (by omega) (by rw [cntN, ← hinv]; exact cnt_y hz) hS (lv_sub hl [0, 1, 2, 3, 4, 5] rfl)

theorem FOpt_has {K : m_K} {T : va_W} {r : Option Nat} {fo : Option Frm} (h : FOpt K T r fo) (e : r = none) : fo = none := by
  cases fo with
  | none => rfl
  | some F =>
    obtain ⟨a, h1, -⟩ := h
    rw [e] at h1
    cases h1
theorem FOpt_at {K : m_K} {T : va_W} {r : Option Nat} {a : Nat} {fo : Option Frm} (h : FOpt K T r fo) (e : r = some a) : ∃ F, fo = some F ∧ FormAt K T a F := by
  cases fo with
  | none => exact absurd (e.symm.trans h) (by simp)
  | some F =>
    obtain ⟨a2, h1, h2⟩ := h
    cases e.symm.trans h1
    exact ⟨F, rfl, h2⟩

theorem any4_n {fm : Nat → Option Frm} {k i : Nat} {x : Int32} (h : x = pbits (anyN (fun j => hasF (fm (54 * k + j)) 0) i) (anyN (fun j => hasF (fm (54 * k + j)) 1) i) (anyN (fun j => hasF (fm (54 * k + j)) 2) i) (anyN (fun j => hasF (fm (54 * k + j)) 3) i)) (e : fm (54 * k + i) = none) : x = pbits (anyN (fun j => hasF (fm (54 * k + j)) 0) (i + 1)) (anyN (fun j => hasF (fm (54 * k + j)) 1) (i + 1)) (anyN (fun j => hasF (fm (54 * k + j)) 2) (i + 1)) (anyN (fun j => hasF (fm (54 * k + j)) 3) (i + 1)) := by
  have key : ∀ z, anyN (fun j => hasF (fm (54 * k + j)) z) (i + 1) = anyN (fun j => hasF (fm (54 * k + j)) z) i := fun z => by
    show (anyN _ i || hasF (fm (54 * k + i)) z) = _
    rw [e]
    exact Bool.or_false _
  rw [key, key, key, key]
  exact h
theorem any4_y {fm : Nat → Option Frm} {k i : Nat} {x : Int32} {F : Frm} (h : x = pbits (anyN (fun j => hasF (fm (54 * k + j)) 0) i) (anyN (fun j => hasF (fm (54 * k + j)) 1) i) (anyN (fun j => hasF (fm (54 * k + j)) 2) i) (anyN (fun j => hasF (fm (54 * k + j)) 3) i)) (e : fm (54 * k + i) = some F) : x ||| (pb F.1) = pbits (anyN (fun j => hasF (fm (54 * k + j)) 0) (i + 1)) (anyN (fun j => hasF (fm (54 * k + j)) 1) (i + 1)) (anyN (fun j => hasF (fm (54 * k + j)) 2) (i + 1)) (anyN (fun j => hasF (fm (54 * k + j)) 3) (i + 1)) := by
  have key : ∀ z, anyN (fun j => hasF (fm (54 * k + j)) z) (i + 1) = (anyN (fun j => hasF (fm (54 * k + j)) z) i || hasP F.1 z) := fun z => by
    show (anyN _ i || hasF (fm (54 * k + i)) z) = _
    rw [e]
    rfl
  rw [key, key, key, key, h, pb, pb_or]

set_option maxHeartbeats 4000000 in
set_option maxRecDepth 100000 in
/-- sourcePlaceholders -/
theorem kX2_sourcePlaceholders (l : Launch) (K : m_K) (A : Nat → Prop) (H0 : Heap) (o : Nat) (ad : Nat → Nat) (f : Nat → Nat → Int32) (d : Int32) (ft : Nat → Option Nat) (li : List Value) (T : va_W) (hP : va_P K.1 vwCl (cW K o ad f d ft li T) H0) (fm : Nat → Option Frm) (hfm : ∀ k, k < 540 → FOpt K T (ft k) (fm k)) (k : Nat) (hk : k < 10) : Met l yX2_sourcePlaceholders wsX2_sourcePlaceholders ({ frames := 2, cells := 0, slots := 0, locals := 44 } : Room) (m_Pc K A H0 [.ref o, .int (nI k)]) (va_Qi (fun r H1 => r = pbits (due fm k 0) (due fm k 1) (due fm k 2) (due fm k 3) ∧ H0 = H1) m_B A) 0 0 A := by
  refine m_ofW (by decide) rfl (Nat.le_of_ble_eq_true rfl) ?_
  intro p e s m args below meth c ls hx hb hr hml hown hts hlk hnm hE hsz hS hl
  have hl : lv_has ls 6 [(0, .ref o), (1, .int (nI k))] := hl
  have iX2 : ∀ w ∈ wsX20, w ∈ wsX2_sourcePlaceholders := by decide +kernel
  have f34 := hts (.fieldLink RX2 34 "PhraseCatalogue" "formTable" "[LPhraseCatalogue$Form;") (by decide +kernel)
  have iX0 : ∀ w ∈ wsX00, w ∈ wsX2_sourcePlaceholders := by decide +kernel
  have f199 := hts (.fieldLink RX2 199 "PhraseCatalogue$Form" "placeholders" "I") (by decide +kernel)
  refine lv_iload_n hx hb dX2_sourcePlaceholders_0 rfl (lv_at hl 1 rfl) ?_
  refine lv_iconst (v := nI 0) hx hb dX2_sourcePlaceholders_1 (by decide) ?_
  refine lv_iconst (v := nI 0) hx hb dX2_sourcePlaceholders_2 (by decide) ?_
  refine lv_iconst (v := nI 0) hx hb dX2_sourcePlaceholders_3 (by decide) ?_
  refine m_cSi (rest := []) ⟨hx, hb, hml, hown, hts⟩ hE hS (fun _ h => h) (kX2_slotOf l K A _ k 0 0 0 (54 * k) (by omega)) (va_cwS 4 hts gX2_sourcePlaceholders_X2_slotOf rfl rfl rfl (by decide +kernel) ⟨Nat.le_of_ble_eq_true rfl, Nat.le_of_ble_eq_true rfl⟩) rfl rfl hl.1 rfl (Nat.le_of_ble_eq_true rfl) dX2_sourcePlaceholders_4 ⟨Nat.le_of_ble_eq_true rfl, Nat.le_of_ble_eq_true rfl⟩ (fun r H1 locs hp hS hk => ?_)
  obtain ⟨rfl, rfl⟩ := hp
  refine lv_istore_n (lv' := [(2, .int (nI (54 * k))), (0, .ref o), (1, .int (nI k))]) hx hb dX2_sourcePlaceholders_7 rfl hl (by decide) rfl (fun ls hl => ?_)
  refine lv_iconst (v := nI 0) hx hb dX2_sourcePlaceholders_8 (by decide) ?_
  refine lv_istore_n (lv' := [(3, .int (nI 0)), (2, .int (nI (54 * k))), (0, .ref o), (1, .int (nI k))]) hx hb dX2_sourcePlaceholders_9 rfl hl (by decide) rfl (fun ls hl => ?_)
  refine lv_iconst (v := nI 0) hx hb dX2_sourcePlaceholders_10 (by decide) ?_
  refine lv_istore (lv' := [(4, .int (nI 0)), (3, .int (nI 0)), (2, .int (nI (54 * k))), (0, .ref o), (1, .int (nI k))]) hx hb dX2_sourcePlaceholders_11 hl (by decide) rfl (fun ls hl => ?_)
  refine (?_ : ∀ (n9 : Nat) (i : Nat) (x : Int32) (locs : List Loc) (ls : Array Slot), i ≤ 9 → 9 < i + n9 → x = pbits (anyN (fun j => hasF (fm (54 * k + j)) 0) i) (anyN (fun j => hasF (fm (54 * k + j)) 1) i) (anyN (fun j => hasF (fm (54 * k + j)) 2) i) (anyN (fun j => hasF (fm (54 * k + j)) 3) i) → va_S A s.heap H0 locs → lv_has ls 6 [(4, .int (nI i)), (3, .int x), (2, .int (nI (54 * k))), (0, .ref o), (1, .int (nI k))] → W p l e _ s m args below meth c H0 locs 0 0 _ (F0 m 13 ls [])) (9 + 1) 0 (nI 0) _ ls (by omega) (by omega) rfl hS (lv_sub hl [0, 1, 2, 3, 4] rfl)
  clear hS hl
  intro n9
  induction n9 with
  | zero => intro i x locs ls hi9 hn9; exact absurd hn9 (by omega)
  | succ n9 ih =>
    intro i x locs ls hi9 hn9 hinv hS hl
    refine lv_iload hx hb dX2_sourcePlaceholders_13 (lv_at hl 0 rfl) ?_
    refine lv_bipush (v := nI 9) hx hb dX2_sourcePlaceholders_15 (by decide) ?_
    refine m_icmp_ge (tgt := 50) hx hb (by omega) (by omega) dX2_sourcePlaceholders_17 (by decide) (fun c_17 => ?_) (fun c_17 => ?_)
    · refine lv_iload_n hx hb dX2_sourcePlaceholders_50 rfl (lv_at hl 1 rfl) ?_
      exact m_iret hx hb hr hlk hS (Nat.le_of_ble_eq_true rfl) (Nat.le_of_ble_eq_true rfl) dX2_sourcePlaceholders_51 (⟨by rw [hinv, show i = 9 by omega]; rfl, rfl⟩)
    · refine lv_aload_n hx hb dX2_sourcePlaceholders_20 rfl (lv_at hl 3 rfl) ?_
      refine va_get (D := K.1) (ci := 3) (v := .ref (ad 5)) (C := RX2) (T := TX2) (N := 10) hx hb hts iX2 hown hE.k hP 0 rfl rfl 5 (by decide) f34 (fun _ h9 => h9) rfl dX2_sourcePlaceholders_21 ?_
      refine lv_iload_n hx hb dX2_sourcePlaceholders_24 rfl (lv_at hl 2 rfl) ?_
      refine lv_iload hx hb dX2_sourcePlaceholders_25 (lv_at hl 0 rfl) ?_
      refine m_iadd hx hb dX2_sourcePlaceholders_27 ?_
      refine m_aald2 hx hb hE.k hP 5 rfl (by omega) (by omega) rfl dX2_sourcePlaceholders_28 ?_
      refine m_astoreq (lv' := [(4, .int (nI i)), (3, .int x), (2, .int (nI (54 * k))), (0, .ref o), (1, .int (nI k))]) hx hb dX2_sourcePlaceholders_29 hl (by decide) (fun v9 hv9 => rfl) (fun ls hl => ?_)
      refine m_aloadq hx hb dX2_sourcePlaceholders_31 (lv_at hl 0 rfl) ?_
      refine m_ifnull (tgt := 44) hx hb dX2_sourcePlaceholders_33 (by decide) (fun c_33 => ?_) (fun a_33 c_33 => ?_)
      · have hF := FOpt_has (hfm (54 * k + i) (by omega)) c_33
        refine lv_iinc (v := nI (i + 1)) (lv' := [(4, .int (nI (i + 1))), (5, va_rf (ft ((54 * k) + i))), (3, .int x), (2, .int (nI (54 * k))), (0, .ref o), (1, .int (nI k))]) hx hb dX2_sourcePlaceholders_44 hl (k := 1) rfl (m_inc _) (by decide) rfl (fun ls hl => ?_)
        refine lv_goto (tgt := 13) hx hb dX2_sourcePlaceholders_47 (by decide) ?_
        exact ih (i + 1) x _ ls (by omega) (by omega) (any4_n hinv hF) hS (lv_sub hl [0, 2, 3, 4, 5] rfl)
      · obtain ⟨F, hF, hat9⟩ := FOpt_at (hfm (54 * k + i) (by omega)) c_33
        obtain ⟨ix, sq, jx, sg, hix, hjx, hsg, hl1, hl8⟩ := hat9
        rw [c_33] at hl
        have hl : lv_has ls 6 [(5, .ref a_33), (4, .int (nI i)), (3, .int x), (2, .int (nI (54 * k))), (0, .ref o), (1, .int (nI k))] := hl
        refine lv_iload_n hx hb dX2_sourcePlaceholders_36 rfl (lv_at hl 2 rfl) ?_
        refine lv_aload hx hb dX2_sourcePlaceholders_37 (lv_at hl 0 rfl) ?_
        refine va_get (D := K.1) (ci := 1) (v := .int (pb F.1)) (C := RX0) (T := TX0) (N := 3) hx hb hts iX0 hown hE.k hP (ix + 10) (cW_t hix) rfl 2 (by decide) f199 (fun _ h9 => h9) rfl dX2_sourcePlaceholders_39 ?_
        refine lv_ior hx hb dX2_sourcePlaceholders_42 ?_
        refine lv_istore_n (lv' := [(3, .int (x ||| (pb F.1))), (5, .ref a_33), (4, .int (nI i)), (2, .int (nI (54 * k))), (0, .ref o), (1, .int (nI k))]) hx hb dX2_sourcePlaceholders_43 rfl hl (by decide) rfl (fun ls hl => ?_)
        refine lv_iinc (v := nI (i + 1)) (lv' := [(4, .int (nI (i + 1))), (3, .int (x ||| (pb F.1))), (5, .ref a_33), (2, .int (nI (54 * k))), (0, .ref o), (1, .int (nI k))]) hx hb dX2_sourcePlaceholders_44 hl (k := 2) rfl (m_inc _) (by decide) rfl (fun ls hl => ?_)
        refine lv_goto (tgt := 13) hx hb dX2_sourcePlaceholders_47 (by decide) ?_
        exact ih (i + 1) (x ||| (pb F.1)) _ ls (by omega) (by omega) (any4_y hinv hF) hS (lv_sub hl [0, 1, 3, 4, 5] rfl)

theorem fitF_some {fm : Nat → Option Frm} {k : Nat} {F : Frm} : fitF fm k (some F) = ((((if hasP F.1 0 then due fm k 0 else (!due fm k 0 || F.2)) && (if hasP F.1 1 then due fm k 1 else (!due fm k 1 || F.2))) && (if hasP F.1 2 then due fm k 2 else (!due fm k 2 || F.2))) && (if hasP F.1 3 then due fm k 3 else (!due fm k 3 || F.2))) := rfl
theorem fit_b1 : ∀ a b c d a' b' c' d' m : Bool, ¬ ((a && !a') || (b && !b') || (c && !c') || (d && !d')) = false → ((((if a then a' else (!a' || m)) && (if b then b' else (!b' || m))) && (if c then c' else (!c' || m))) && (if d then d' else (!d' || m))) = false := by decide +kernel
theorem fit_b2 : ∀ a b c d a' b' c' d' m : Bool, ((a && !a') || (b && !b') || (c && !c') || (d && !d')) = false → ((a' && !a) || (b' && !b) || (c' && !c) || (d' && !d)) = false → ((((if a then a' else (!a' || m)) && (if b then b' else (!b' || m))) && (if c then c' else (!c' || m))) && (if d then d' else (!d' || m))) = true := by decide +kernel
theorem fit_b3 : ∀ a b c d a' b' c' d' m : Bool, ((a && !a') || (b && !b') || (c && !c') || (d && !d')) = false → ¬ ((a' && !a) || (b' && !b) || (c' && !c) || (d' && !d)) = false → ((((if a then a' else (!a' || m)) && (if b then b' else (!b' || m))) && (if c then c' else (!c' || m))) && (if d then d' else (!d' || m))) = m := by decide +kernel
theorem fit_s {fm : Nat → Option Frm} {k : Nat} {F : Frm} (h : ¬ (pb F.1 &&& (pbits (due fm k 0) (due fm k 1) (due fm k 2) (due fm k 3) ^^^ (-1))) = 0) : fitF fm k (some F) = false := by
  rw [pb, pb_not] at h
  rw [fitF_some]
  exact fit_b1 _ _ _ _ _ _ _ _ _ h
theorem fit_l {fm : Nat → Option Frm} {k : Nat} {F : Frm} (h : (pb F.1 &&& (pbits (due fm k 0) (due fm k 1) (due fm k 2) (due fm k 3) ^^^ (-1))) = 0) (h2 : (pbits (due fm k 0) (due fm k 1) (due fm k 2) (due fm k 3) &&& (pb F.1 ^^^ (-1))) = 0) : fitF fm k (some F) = true := by
  rw [pb, pb_not] at h
  rw [pb, pb_not] at h2
  rw [fitF_some]
  exact fit_b2 _ _ _ _ _ _ _ _ _ h h2
theorem fit_m {fm : Nat → Option Frm} {k : Nat} {F : Frm} {b : Bool} (h : (pb F.1 &&& (pbits (due fm k 0) (due fm k 1) (due fm k 2) (due fm k 3) ^^^ (-1))) = 0) (h2 : ¬ (pbits (due fm k 0) (due fm k 1) (due fm k 2) (due fm k 3) &&& (pb F.1 ^^^ (-1))) = 0) (hb : F.2 = b) : fitF fm k (some F) = b := by
  rw [pb, pb_not] at h
  rw [pb, pb_not] at h2
  rw [fitF_some, ← hb]
  exact fit_b3 _ _ _ _ _ _ _ _ _ h h2

set_option maxHeartbeats 4000000 in
set_option maxRecDepth 100000 in
/-- isFitting -/
theorem kX2_isFitting (l : Launch) (K : m_K) (A : Nat → Prop) (H0 : Heap) (o : Nat) (ad : Nat → Nat) (f : Nat → Nat → Int32) (d : Int32) (ft : Nat → Option Nat) (li : List Value) (T : va_W) (hP : va_P K.1 vwCl (cW K o ad f d ft li T) H0) (fm : Nat → Option Frm) (hfm : ∀ k, k < 540 → FOpt K T (ft k) (fm k)) (k : Nat) (hk9 : k < 10) (r9 : Option Nat) (fo : Option Frm) (hr9 : FOpt K T r9 fo) : Met l yX2_isFitting wsX2_isFitting ({ frames := 3, cells := 0, slots := 0, locals := 69 } : Room) (m_Pc K A H0 [.ref o, .int (nI k), va_rf r9]) (va_Qi (fun r H1 => r = bI (fitF fm k fo) ∧ H0 = H1) m_B A) 0 0 A := by
  cases r9 with
  | none =>
    refine m_ofW (by decide) rfl (Nat.le_of_ble_eq_true rfl) ?_
    intro p e s m args below meth c ls hx hb hr hml hown hts hlk hnm hE hsz hS hl
    have hl : lv_has ls 6 [(0, .ref o), (1, .int (nI k)), (2, .null)] := hl
    refine lv_aload_nN hx hb dX2_isFitting_0 rfl (lv_at hl 2 rfl) ?_
    refine lv_ifnonnullN hx hb dX2_isFitting_1 ?_
    refine lv_iconst (v := nI 0) hx hb dX2_isFitting_4 (by decide) ?_
    refine W.eq (g2 := F0 m 5 ls [.int (bI false)]) (by rfl) ?_
    exact m_zret hx hb hr hlk hS (Nat.le_of_ble_eq_true rfl) (Nat.le_of_ble_eq_true rfl) dX2_isFitting_5 (⟨by rw [FOpt_has hr9 rfl]; rfl, rfl⟩)
  | some a9 =>
    refine m_ofW (by decide) rfl (Nat.le_of_ble_eq_true rfl) ?_
    intro p e s m args below meth c ls hx hb hr hml hown hts hlk hnm hE hsz hS hl
    have hl : lv_has ls 6 [(0, .ref o), (1, .int (nI k)), (2, .ref a9)] := hl
    have iX0 : ∀ w ∈ wsX00, w ∈ wsX2_isFitting := by decide +kernel
    have f199 := hts (.fieldLink RX2 199 "PhraseCatalogue$Form" "placeholders" "I") (by decide +kernel)
    have f205 := hts (.fieldLink RX2 205 "PhraseCatalogue$Form" "mayLack" "Z") (by decide +kernel)
    obtain ⟨F, hF, hat9⟩ := FOpt_at hr9 rfl
    obtain ⟨ix, sq, jx, sg, hix, hjx, hsg, hl1, hl8⟩ := hat9
    refine lv_aload_n hx hb dX2_isFitting_0 rfl (lv_at hl 2 rfl) ?_
    refine lv_ifnonnull (tgt := 6) hx hb dX2_isFitting_1 (by decide) ?_
    refine lv_aload_n hx hb dX2_isFitting_6 rfl (lv_at hl 0 rfl) ?_
    refine lv_iload_n hx hb dX2_isFitting_7 rfl (lv_at hl 1 rfl) ?_
    refine m_cVi (rest := []) ⟨hx, hb, hml, hown, hts⟩ hE hS (fun _ h => h) (kX2_sourcePlaceholders l K A H0 o ad f d ft li T hP fm hfm k hk9) (cwV 1 hts gX2_isFitting_X2_sourcePlaceholders rfl rfl rfl (by decide +kernel) ⟨Nat.le_of_ble_eq_true rfl, Nat.le_of_ble_eq_true rfl⟩) (va_recv hE.k hP (ci := 3) (q0 := 0) rfl rfl) rfl rfl hl.1 rfl (Nat.le_of_ble_eq_true rfl) dX2_isFitting_8 ⟨Nat.le_of_ble_eq_true rfl, Nat.le_of_ble_eq_true rfl⟩ (fun r H1 locs hp hS hk => ?_)
    obtain ⟨rfl, rfl⟩ := hp
    refine lv_istore_n (lv' := [(3, .int (pbits (due fm k 0) (due fm k 1) (due fm k 2) (due fm k 3))), (0, .ref o), (1, .int (nI k)), (2, .ref a9)]) hx hb dX2_isFitting_11 rfl hl (by decide) rfl (fun ls hl => ?_)
    refine lv_aload_n hx hb dX2_isFitting_12 rfl (lv_at hl 3 rfl) ?_
    refine va_get (D := K.1) (ci := 1) (v := .int (pb F.1)) (C := RX0) (T := TX0) (N := 3) hx hb hts iX0 hown hE.k hP (ix + 10) (cW_t hix) rfl 2 (by decide) f199 (fun _ h9 => h9) rfl dX2_isFitting_13 ?_
    refine lv_iload_n hx hb dX2_isFitting_16 rfl (lv_at hl 0 rfl) ?_
    refine lv_iconst (v := (-1)) hx hb dX2_isFitting_17 (by decide) ?_
    refine lv_ixor hx hb dX2_isFitting_18 ?_
    refine lv_iand hx hb dX2_isFitting_19 ?_
    refine lv_if_eq (tgt := 27) hx hb dX2_isFitting_20 (by decide) (fun c_20 => ?_) (fun c_20 => ?_)
    · refine lv_iconst (v := nI 0) hx hb dX2_isFitting_27 (by decide) ?_
      refine lv_istore (lv' := [(4, .int (nI 0)), (3, .int (pbits (due fm k 0) (due fm k 1) (due fm k 2) (due fm k 3))), (0, .ref o), (1, .int (nI k)), (2, .ref a9)]) hx hb dX2_isFitting_28 hl (by decide) rfl (fun ls hl => ?_)
      refine lv_iload_n hx hb dX2_isFitting_30 rfl (lv_at hl 1 rfl) ?_
      refine lv_aload_n hx hb dX2_isFitting_31 rfl (lv_at hl 4 rfl) ?_
      refine va_get (D := K.1) (ci := 1) (v := .int (pb F.1)) (C := RX0) (T := TX0) (N := 3) hx hb hts iX0 hown hE.k hP (ix + 10) (cW_t hix) rfl 2 (by decide) f199 (fun _ h9 => h9) rfl dX2_isFitting_32 ?_
      refine lv_iconst (v := (-1)) hx hb dX2_isFitting_35 (by decide) ?_
      refine lv_ixor hx hb dX2_isFitting_36 ?_
      refine lv_iand hx hb dX2_isFitting_37 ?_
      refine lv_if_eq (tgt := 45) hx hb dX2_isFitting_38 (by decide) (fun c_38 => ?_) (fun c_38 => ?_)
      · refine lv_iconst (v := nI 0) hx hb dX2_isFitting_45 (by decide) ?_
        refine lv_istore (lv' := [(5, .int (nI 0)), (4, .int (nI 0)), (3, .int (pbits (due fm k 0) (due fm k 1) (due fm k 2) (due fm k 3))), (0, .ref o), (1, .int (nI k)), (2, .ref a9)]) hx hb dX2_isFitting_46 hl (by decide) rfl (fun ls hl => ?_)
        refine lv_iload hx hb dX2_isFitting_48 (lv_at hl 1 rfl) ?_
        refine m_if_ne (tgt := 69) hx hb (by omega) dX2_isFitting_50 (by decide) (fun c_50 => ?_) (fun c_50 => ?_)
        · exact absurd c_50 (by decide)
        · refine lv_iload hx hb dX2_isFitting_53 (lv_at hl 0 rfl) ?_
          refine m_if_eq (tgt := 65) hx hb (by omega) dX2_isFitting_55 (by decide) (fun c_55 => ?_) (fun c_55 => ?_)
          · refine lv_iconst (v := nI 1) hx hb dX2_isFitting_65 (by decide) ?_
            refine lv_goto (tgt := 70) hx hb dX2_isFitting_66 (by decide) ?_
            refine W.eq (g2 := F0 m 70 ls [.int (bI true)]) (by rfl) ?_
            exact m_zret hx hb hr hlk hS (Nat.le_of_ble_eq_true rfl) (Nat.le_of_ble_eq_true rfl) dX2_isFitting_70 (⟨by rw [hF, fit_l c_20 c_38], rfl⟩)
          · exact absurd c_55 (by decide)
      · refine lv_iconst (v := nI 1) hx hb dX2_isFitting_41 (by decide) ?_
        refine lv_goto (tgt := 46) hx hb dX2_isFitting_42 (by decide) ?_
        refine lv_istore (lv' := [(5, .int (nI 1)), (4, .int (nI 0)), (3, .int (pbits (due fm k 0) (due fm k 1) (due fm k 2) (due fm k 3))), (0, .ref o), (1, .int (nI k)), (2, .ref a9)]) hx hb dX2_isFitting_46 hl (by decide) rfl (fun ls hl => ?_)
        refine lv_iload hx hb dX2_isFitting_48 (lv_at hl 1 rfl) ?_
        refine m_if_ne (tgt := 69) hx hb (by omega) dX2_isFitting_50 (by decide) (fun c_50 => ?_) (fun c_50 => ?_)
        · exact absurd c_50 (by decide)
        · refine lv_iload hx hb dX2_isFitting_53 (lv_at hl 0 rfl) ?_
          refine m_if_eq (tgt := 65) hx hb (by omega) dX2_isFitting_55 (by decide) (fun c_55 => ?_) (fun c_55 => ?_)
          · exact absurd c_55 (by decide)
          · refine lv_aload_n hx hb dX2_isFitting_58 rfl (lv_at hl 5 rfl) ?_
            refine va_get (D := K.1) (ci := 1) (v := .int (bI F.2)) (C := RX0) (T := TX0) (N := 3) hx hb hts iX0 hown hE.k hP (ix + 10) (cW_t hix) rfl 1 (by decide) f205 (fun _ h9 => h9) rfl dX2_isFitting_59 ?_
            refine m_if_eq_b (tgt := 69) hx hb dX2_isFitting_62 (by decide) (fun c_62 => ?_) (fun c_62 => ?_)
            · refine lv_iconst (v := nI 0) hx hb dX2_isFitting_69 (by decide) ?_
              refine W.eq (g2 := F0 m 70 ls [.int (bI false)]) (by rfl) ?_
              exact m_zret hx hb hr hlk hS (Nat.le_of_ble_eq_true rfl) (Nat.le_of_ble_eq_true rfl) dX2_isFitting_70 (⟨by rw [hF, fit_m c_20 c_38 c_62], rfl⟩)
            · refine lv_iconst (v := nI 1) hx hb dX2_isFitting_65 (by decide) ?_
              refine lv_goto (tgt := 70) hx hb dX2_isFitting_66 (by decide) ?_
              refine W.eq (g2 := F0 m 70 ls [.int (bI true)]) (by rfl) ?_
              exact m_zret hx hb hr hlk hS (Nat.le_of_ble_eq_true rfl) (Nat.le_of_ble_eq_true rfl) dX2_isFitting_70 (⟨by rw [hF, fit_m c_20 c_38 c_62], rfl⟩)
    · refine lv_iconst (v := nI 1) hx hb dX2_isFitting_23 (by decide) ?_
      refine lv_goto (tgt := 28) hx hb dX2_isFitting_24 (by decide) ?_
      refine lv_istore (lv' := [(4, .int (nI 1)), (3, .int (pbits (due fm k 0) (due fm k 1) (due fm k 2) (due fm k 3))), (0, .ref o), (1, .int (nI k)), (2, .ref a9)]) hx hb dX2_isFitting_28 hl (by decide) rfl (fun ls hl => ?_)
      refine lv_iload_n hx hb dX2_isFitting_30 rfl (lv_at hl 1 rfl) ?_
      refine lv_aload_n hx hb dX2_isFitting_31 rfl (lv_at hl 4 rfl) ?_
      refine va_get (D := K.1) (ci := 1) (v := .int (pb F.1)) (C := RX0) (T := TX0) (N := 3) hx hb hts iX0 hown hE.k hP (ix + 10) (cW_t hix) rfl 2 (by decide) f199 (fun _ h9 => h9) rfl dX2_isFitting_32 ?_
      refine lv_iconst (v := (-1)) hx hb dX2_isFitting_35 (by decide) ?_
      refine lv_ixor hx hb dX2_isFitting_36 ?_
      refine lv_iand hx hb dX2_isFitting_37 ?_
      refine lv_if_eq (tgt := 45) hx hb dX2_isFitting_38 (by decide) (fun c_38 => ?_) (fun c_38 => ?_)
      · refine lv_iconst (v := nI 0) hx hb dX2_isFitting_45 (by decide) ?_
        refine lv_istore (lv' := [(5, .int (nI 0)), (4, .int (nI 1)), (3, .int (pbits (due fm k 0) (due fm k 1) (due fm k 2) (due fm k 3))), (0, .ref o), (1, .int (nI k)), (2, .ref a9)]) hx hb dX2_isFitting_46 hl (by decide) rfl (fun ls hl => ?_)
        refine lv_iload hx hb dX2_isFitting_48 (lv_at hl 1 rfl) ?_
        refine m_if_ne (tgt := 69) hx hb (by omega) dX2_isFitting_50 (by decide) (fun c_50 => ?_) (fun c_50 => ?_)
        · refine lv_iconst (v := nI 0) hx hb dX2_isFitting_69 (by decide) ?_
          refine W.eq (g2 := F0 m 70 ls [.int (bI false)]) (by rfl) ?_
          exact m_zret hx hb hr hlk hS (Nat.le_of_ble_eq_true rfl) (Nat.le_of_ble_eq_true rfl) dX2_isFitting_70 (⟨by rw [hF, fit_s c_20], rfl⟩)
        · exact absurd c_50 (by decide)
      · refine lv_iconst (v := nI 1) hx hb dX2_isFitting_41 (by decide) ?_
        refine lv_goto (tgt := 46) hx hb dX2_isFitting_42 (by decide) ?_
        refine lv_istore (lv' := [(5, .int (nI 1)), (4, .int (nI 1)), (3, .int (pbits (due fm k 0) (due fm k 1) (due fm k 2) (due fm k 3))), (0, .ref o), (1, .int (nI k)), (2, .ref a9)]) hx hb dX2_isFitting_46 hl (by decide) rfl (fun ls hl => ?_)
        refine lv_iload hx hb dX2_isFitting_48 (lv_at hl 1 rfl) ?_
        refine m_if_ne (tgt := 69) hx hb (by omega) dX2_isFitting_50 (by decide) (fun c_50 => ?_) (fun c_50 => ?_)
        · refine lv_iconst (v := nI 0) hx hb dX2_isFitting_69 (by decide) ?_
          refine W.eq (g2 := F0 m 70 ls [.int (bI false)]) (by rfl) ?_
          exact m_zret hx hb hr hlk hS (Nat.le_of_ble_eq_true rfl) (Nat.le_of_ble_eq_true rfl) dX2_isFitting_70 (⟨by rw [hF, fit_s c_20], rfl⟩)
        · exact absurd c_50 (by decide)
