
def LF (fo : Option Frm) : List Int32 := match fo with
  | none => []
  | some F => F.1
theorem LF_len (fo : Option Frm) : lenF fo = (LF fo).length := by cases fo <;> rfl
theorem mF_sg {g5 g6 g7 : Nat → Int32} {k j : Nat} {fo : Option Frm} (h : mF g5 g6 g7 k fo) (hj : j < lenF fo) : g7 (8 * k + j) = (LF fo).getD j 0 := by
  cases fo with
  | none => exact absurd hj (Nat.not_lt_zero j)
  | some F => exact (h.2.2 F rfl).2.2 j hj
def hasS (fo : Option Frm) (s : Int32) : Bool := anyN (fun t => decide ((LF fo).getD t 0 = s)) (lenF fo)
theorem anyN_list (s : Int32) : ∀ (L : List Int32), anyN (fun t => decide (L.getD t 0 = s)) L.length = L.any (fun x => x == s) := by
  intro L
  have key : ∀ n, n ≤ L.length → anyN (fun t => decide (L.getD t 0 = s)) n = (L.take n).any (fun x => x == s) := by
    intro n
    induction n with
    | zero => intro _; rfl
    | succ n ih =>
      intro hn
      rw [anyN, ih (by omega), List.take_succ, List.any_append, List.getD_eq_getElem?_getD, List.getElem?_eq_getElem (show n < L.length by omega)]
      simp [Bool.beq_eq_decide_eq]
  rw [key _ (Nat.le_refl _), List.take_length]
theorem hasS_F (fo : Option Frm) (i : Nat) : hasS fo (nI (101 + i)) = hasF fo i := by
  cases fo with
  | none => rfl
  | some F => exact anyN_list _ F.1

set_option maxHeartbeats 4000000 in
set_option maxRecDepth 100000 in
theorem kX3_has (l : Launch) (K : m_K) (A : Nat → Prop) (H0 : Heap) (o : Nat) (ad : Nat → Nat) (f : Nat → Nat → Int32) (d pr ta ti la : Int32) (hP : va_P K.1 vwCl (mW K o ad f d pr ta ti la) H0) (fm : Nat → Option Frm) (hfm : ∀ k, k < 540 → mF (f 5) (f 6) (f 7) k (fm k)) (x : Nat) (hx9 : x < 540) (s9 : Int32) : Met l yX3_has wsX3_has ({ frames := 0, cells := 0, slots := 0, locals := 0 } : Room) (m_Pc K A H0 [.ref o, .int (nI x), .int s9]) (va_Qi (fun r H1 => r = bI (hasS (fm x) s9) ∧ H0 = H1) m_B A) 0 0 A := by
  refine m_ofW (by decide) rfl (Nat.le_of_ble_eq_true rfl) ?_
  intro p e s m args below meth c ls hx hb hr hml hown hts hlk hnm hE hsz hS hl
  have hl : lv_has ls 5 [(0, .ref o), (1, .int (nI x)), (2, .int s9)] := hl
  have hl8 : lenF (fm x) ≤ 8 := (hfm x hx9).2.1
  have iX3 : ∀ w ∈ wsX30, w ∈ wsX3_has := by decide +kernel
  have f22 := hts (.fieldLink RX3 22 "PhraseCatalogueModel" "lengths" "[I") (by decide +kernel)
  have f29 := hts (.fieldLink RX3 29 "PhraseCatalogueModel" "signs" "[I") (by decide +kernel)
  refine lv_iconst (v := nI 0) hx hb dX3_has_0 (by decide) ?_
  refine lv_istore_n (lv' := [(3, .int (nI 0)), (0, .ref o), (1, .int (nI x)), (2, .int s9)]) hx hb dX3_has_1 rfl hl (by decide) rfl (fun ls hl => ?_)
  refine lv_iconst (v := nI 0) hx hb dX3_has_2 (by decide) ?_
  refine lv_istore (lv' := [(4, .int (nI 0)), (3, .int (nI 0)), (0, .ref o), (1, .int (nI x)), (2, .int s9)]) hx hb dX3_has_3 hl (by decide) rfl (fun ls hl => ?_)
  refine (?_ : ∀ (n9 : Nat) (k : Nat) (h9 : Bool) (locs : List Loc) (ls : Array Slot), k ≤ lenF (fm x) → lenF (fm x) < k + n9 → h9 = anyN (fun t => decide ((LF (fm x)).getD t 0 = s9)) k → va_S A s.heap H0 locs → lv_has ls 5 [(4, .int (nI k)), (3, .int (bI h9)), (0, .ref o), (1, .int (nI x)), (2, .int s9)] → W p l e _ s m args below meth c H0 locs 0 0 _ (F0 m 5 ls [])) (lenF (fm x) + 1) 0 false _ ls (by omega) (by omega) rfl hS (lv_sub hl [0, 1, 2, 3, 4] rfl)
  clear hS hl
  intro n9
  induction n9 with
  | zero => intro k h9 locs ls hi9 hn9; exact absurd hn9 (by omega)
  | succ n9 ih =>
    intro k h9 locs ls hi9 hn9 hinv hS hl
    refine lv_iload hx hb dX3_has_5 (lv_at hl 0 rfl) ?_
    refine lv_aload_n hx hb dX3_has_7 rfl (lv_at hl 2 rfl) ?_
    refine va_get (D := K.1) (ci := 4) (v := .ref (ad 5)) (C := RX3) (T := TX3) (N := 21) hx hb hts iX3 hown hE.k hP 0 rfl rfl 5 (by decide) f22 (fun _ h9 => h9) rfl dX3_has_8 ?_
    refine lv_iload_n hx hb dX3_has_11 rfl (lv_at hl 3 rfl) ?_
    have hq9 := hfm (x) (by omega)
    have hl9 := hq9.2.1
    refine m_iald hx hb hE.k hP 5 rfl (by omega) (by omega) hq9.1 dX3_has_12 ?_
    refine m_icmp_ge (tgt := 48) hx hb (by omega) (by omega) dX3_has_13 (by decide) (fun c_13 => ?_) (fun c_13 => ?_)
    · refine lv_iload_n hx hb dX3_has_48 rfl (lv_at hl 1 rfl) ?_
      exact m_zret hx hb hr hlk hS (Nat.le_of_ble_eq_true rfl) (Nat.le_of_ble_eq_true rfl) dX3_has_49 (⟨by rw [hasS, hinv, show k = lenF (fm x) by omega], rfl⟩)
    · refine lv_iload_n hx hb dX3_has_16 rfl (lv_at hl 1 rfl) ?_
      refine m_if_ne_b (tgt := 36) hx hb dX3_has_17 (by decide) (fun c_17 => ?_) (fun c_17 => ?_)
      · refine lv_iconst (v := nI 1) hx hb dX3_has_36 (by decide) ?_
        refine lv_goto (tgt := 41) hx hb dX3_has_37 (by decide) ?_
        refine lv_istore_n (lv' := [(3, .int (nI 1)), (4, .int (nI k)), (0, .ref o), (1, .int (nI x)), (2, .int s9)]) hx hb dX3_has_41 rfl hl (by decide) rfl (fun ls hl => ?_)
        refine lv_iinc (v := nI (k + 1)) (lv' := [(4, .int (nI (k + 1))), (3, .int (nI 1)), (0, .ref o), (1, .int (nI x)), (2, .int s9)]) hx hb dX3_has_42 hl (k := 1) rfl (m_inc _) (by decide) rfl (fun ls hl => ?_)
        refine lv_goto (tgt := 5) hx hb dX3_has_45 (by decide) ?_
        exact ih (k + 1) true _ ls (by omega) (by omega) (by rw [anyN, ← hinv, c_17]; rfl) hS (lv_sub hl [0, 1, 2, 3, 4] rfl)
      · refine lv_aload_n hx hb dX3_has_20 rfl (lv_at hl 2 rfl) ?_
        refine va_get (D := K.1) (ci := 4) (v := .ref (ad 7)) (C := RX3) (T := TX3) (N := 21) hx hb hts iX3 hown hE.k hP 0 rfl rfl 7 (by decide) f29 (fun _ h9 => h9) rfl dX3_has_21 ?_
        refine lv_bipush (v := nI 8) hx hb dX3_has_24 (by decide) ?_
        refine lv_iload_n hx hb dX3_has_26 rfl (lv_at hl 3 rfl) ?_
        refine m_imul hx hb dX3_has_27 ?_
        refine lv_iload hx hb dX3_has_28 (lv_at hl 0 rfl) ?_
        refine m_iadd hx hb dX3_has_30 ?_
        refine m_iald hx hb hE.k hP 7 rfl (by omega) (by omega) (mF_sg (hfm x hx9) (Nat.lt_of_not_le c_13)) dX3_has_31 ?_
        refine lv_iload_n hx hb dX3_has_32 rfl (lv_at hl 4 rfl) ?_
        refine lv_icmp_ne (tgt := 40) hx hb dX3_has_33 (by decide) (fun c_33 => ?_) (fun c_33 => ?_)
        · refine lv_iconst (v := nI 0) hx hb dX3_has_40 (by decide) ?_
          refine lv_istore_n (lv' := [(3, .int (nI 0)), (4, .int (nI k)), (0, .ref o), (1, .int (nI x)), (2, .int s9)]) hx hb dX3_has_41 rfl hl (by decide) rfl (fun ls hl => ?_)
          refine lv_iinc (v := nI (k + 1)) (lv' := [(4, .int (nI (k + 1))), (3, .int (nI 0)), (0, .ref o), (1, .int (nI x)), (2, .int s9)]) hx hb dX3_has_42 hl (k := 1) rfl (m_inc _) (by decide) rfl (fun ls hl => ?_)
          refine lv_goto (tgt := 5) hx hb dX3_has_45 (by decide) ?_
          exact ih (k + 1) false _ ls (by omega) (by omega) (by rw [anyN, ← hinv, c_17]; simp only [c_33, decide_false, Bool.or_false]) hS (lv_sub hl [0, 1, 2, 3, 4] rfl)
        · refine lv_iconst (v := nI 1) hx hb dX3_has_36 (by decide) ?_
          refine lv_goto (tgt := 41) hx hb dX3_has_37 (by decide) ?_
          refine lv_istore_n (lv' := [(3, .int (nI 1)), (4, .int (nI k)), (0, .ref o), (1, .int (nI x)), (2, .int s9)]) hx hb dX3_has_41 rfl hl (by decide) rfl (fun ls hl => ?_)
          refine lv_iinc (v := nI (k + 1)) (lv' := [(4, .int (nI (k + 1))), (3, .int (nI 1)), (0, .ref o), (1, .int (nI x)), (2, .int s9)]) hx hb dX3_has_42 hl (k := 1) rfl (m_inc _) (by decide) rfl (fun ls hl => ?_)
          refine lv_goto (tgt := 5) hx hb dX3_has_45 (by decide) ?_
          exact ih (k + 1) true _ ls (by omega) (by omega) (by rw [anyN]; simp only [c_33, decide_true, Bool.or_true]) hS (lv_sub hl [0, 1, 2, 3, 4] rfl)

def laxF (fo : Option Frm) : Bool := match fo with
  | none => false
  | some F => F.2
def fitN (fm : Nat → Option Frm) (key : Nat) (fo : Option Frm) : Nat → Bool
  | 0 => fo.isSome
  | i + 1 => fitN fm key fo i && (if hasF fo i then due fm key i else (!due fm key i || laxF fo))
theorem fitN_4 (fm : Nat → Option Frm) (key : Nat) (fo : Option Frm) : fitN fm key fo 4 = fitF fm key fo := by
  cases fo with
  | none => rfl
  | some F =>
    simp only [fitN, Option.isSome_some, Bool.true_and]
    rfl
theorem fitN_some {fm : Nat → Option Frm} {key : Nat} {fo : Option Frm} : ∀ {i : Nat}, fitN fm key fo i = true → ∃ F, fo = some F
  | 0, h => by
    cases fo with
    | none => cases h
    | some F => exact ⟨F, rfl⟩
  | i + 1, h => fitN_some (i := i) (by
    unfold fitN at h
    rw [Bool.and_eq_true] at h
    exact h.1)

set_option maxHeartbeats 4000000 in
set_option maxRecDepth 100000 in
theorem kX3_isFit (l : Launch) (K : m_K) (A : Nat → Prop) (H0 : Heap) (o : Nat) (ad : Nat → Nat) (f : Nat → Nat → Int32) (d pr ta ti la : Int32) (hP : va_P K.1 vwCl (mW K o ad f d pr ta ti la) H0) (fm : Nat → Option Frm) (hfm : ∀ k, k < 540 → mF (f 5) (f 6) (f 7) k (fm k)) (k x : Nat) (hk9 : k < 10) (hx9 : x < 540) : Met l yX3_isFit wsX3_isFit ({ frames := 1, cells := 0, slots := 0, locals := 24 } : Room) (m_Pc K A H0 [.ref o, .int (nI k), .int (nI x)]) (va_Qi (fun r H1 => r = bI (fitF fm k (fm x)) ∧ H0 = H1) m_B A) 0 0 A := by
  refine m_ofW (by decide) rfl (Nat.le_of_ble_eq_true rfl) ?_
  intro p e s m args below meth c ls hx hb hr hml hown hts hlk hnm hE hsz hS hl
  have hl : lv_has ls 7 [(0, .ref o), (1, .int (nI k)), (2, .int (nI x))] := hl
  have iX3 : ∀ w ∈ wsX30, w ∈ wsX3_isFit := by decide +kernel
  have f22 := hts (.fieldLink RX3 22 "PhraseCatalogueModel" "lengths" "[I") (by decide +kernel)
  have f25 := hts (.fieldLink RX3 25 "PhraseCatalogueModel" "lax" "[Z") (by decide +kernel)
  refine lv_aload_n hx hb dX3_isFit_0 rfl (lv_at hl 0 rfl) ?_
  refine va_get (D := K.1) (ci := 4) (v := .ref (ad 5)) (C := RX3) (T := TX3) (N := 21) hx hb hts iX3 hown hE.k hP 0 rfl rfl 5 (by decide) f22 (fun _ h9 => h9) rfl dX3_isFit_1 ?_
  refine lv_iload_n hx hb dX3_isFit_4 rfl (lv_at hl 2 rfl) ?_
  have hq9 := hfm (x) (by omega)
  have hl9 := hq9.2.1
  refine m_iald hx hb hE.k hP 5 rfl (by omega) (by omega) hq9.1 dX3_isFit_5 ?_
  refine m_if_le (tgt := 13) hx hb (by omega) dX3_isFit_6 (by decide) (fun c_6 => ?_) (fun c_6 => ?_)
  · refine lv_iconst (v := nI 0) hx hb dX3_isFit_13 (by decide) ?_
    refine lv_istore_n (lv' := [(3, .int (nI 0)), (0, .ref o), (1, .int (nI k)), (2, .int (nI x))]) hx hb dX3_isFit_14 rfl hl (by decide) rfl (fun ls hl => ?_)
    refine lv_bipush (v := nI 101) hx hb dX3_isFit_15 (by decide) ?_
    refine lv_istore (lv' := [(4, .int (nI 101)), (3, .int (nI 0)), (0, .ref o), (1, .int (nI k)), (2, .int (nI x))]) hx hb dX3_isFit_17 hl (by decide) rfl (fun ls hl => ?_)
    refine (?_ : ∀ (n9a : Nat) (i : Nat) (b9 : Bool) (locs : List Loc) (ls : Array Slot), i ≤ 4 → 4 < i + n9a → b9 = fitN fm k (fm x) i → va_S A s.heap H0 locs → lv_has ls 7 [(4, .int (nI (101 + i))), (3, .int (bI b9)), (0, .ref o), (1, .int (nI k)), (2, .int (nI x))] → W p l e _ s m args below meth c H0 locs 0 0 _ (F0 m 19 ls [])) (4 + 1) 0 false _ ls (by omega) (by omega) ((len_n hq9 c_6).symm) hS (lv_sub hl [0, 1, 2, 3, 4] rfl)
    clear hS hl
    intro n9a
    induction n9a with
    | zero => intro i b9 locs ls hi9 hn9; exact absurd hn9 (by omega)
    | succ n9a iha =>
      intro i b9 locs ls hi9a hn9a hinv hS hl
      refine lv_iload hx hb dX3_isFit_19 (lv_at hl 0 rfl) ?_
      refine lv_bipush (v := nI 104) hx hb dX3_isFit_21 (by decide) ?_
      refine m_icmp_gt (tgt := 121) hx hb (by omega) (by omega) dX3_isFit_23 (by decide) (fun c_23 => ?_) (fun c_23 => ?_)
      · refine lv_iload_n hx hb dX3_isFit_121 rfl (lv_at hl 1 rfl) ?_
        exact m_zret hx hb hr hlk hS (Nat.le_of_ble_eq_true rfl) (Nat.le_of_ble_eq_true rfl) dX3_isFit_122 (⟨by rw [hinv, show i = 4 by omega, fitN_4], rfl⟩)
      · refine lv_iconst (v := nI 0) hx hb dX3_isFit_26 (by decide) ?_
        refine lv_istore (lv' := [(5, .int (nI 0)), (4, .int (nI (101 + i))), (3, .int (bI b9)), (0, .ref o), (1, .int (nI k)), (2, .int (nI x))]) hx hb dX3_isFit_27 hl (by decide) rfl (fun ls hl => ?_)
        refine lv_iconst (v := nI 0) hx hb dX3_isFit_29 (by decide) ?_
        refine lv_istore (lv' := [(6, .int (nI 0)), (5, .int (nI 0)), (4, .int (nI (101 + i))), (3, .int (bI b9)), (0, .ref o), (1, .int (nI k)), (2, .int (nI x))]) hx hb dX3_isFit_30 hl (by decide) rfl (fun ls hl => ?_)
        have hl := lv_sub (l' := [(4, .int (nI (101 + i))), (3, .int (bI b9)), (0, .ref o), (1, .int (nI k)), (2, .int (nI x)), (5, .int (nI 0)), (6, .int (nI 0))]) hl [2, 3, 4, 5, 6, 1, 0] rfl
        refine (?_ : ∀ (n9b : Nat) (j : Nat) (t9 : Bool) (locs : List Loc) (ls : Array Slot), j ≤ 9 → 9 < j + n9b → t9 = anyN (fun j => hasF (fm (54 * k + j)) i) j → va_S A s.heap H0 locs → lv_has ls 7 [(6, .int (nI j)), (5, .int (bI t9)), (4, .int (nI (101 + i))), (3, .int (bI b9)), (0, .ref o), (1, .int (nI k)), (2, .int (nI x))] → W p l e _ s m args below meth c H0 locs 0 0 _ (F0 m 32 ls [])) (9 + 1) 0 false _ ls (by omega) (by omega) rfl hS (lv_sub hl [6, 5, 0, 1, 2, 3, 4] rfl)
        clear hS hl
        intro n9b
        induction n9b with
        | zero => intro j t9 locs ls hi9 hn9; exact absurd hn9 (by omega)
        | succ n9b ihb =>
          intro j t9 locs ls hi9b hn9b hin2 hS hl
          refine lv_iload hx hb dX3_isFit_32 (lv_at hl 0 rfl) ?_
          refine lv_bipush (v := nI 9) hx hb dX3_isFit_34 (by decide) ?_
          refine m_icmp_ge (tgt := 73) hx hb (by omega) (by omega) dX3_isFit_36 (by decide) (fun c_36 => ?_) (fun c_36 => ?_)
          · have hdue : due fm k i = t9 := by rw [hin2, show j = 9 by omega]; rfl
            refine lv_iload_n hx hb dX3_isFit_73 rfl (lv_at hl 3 rfl) ?_
            refine m_if_eq_b (tgt := 113) hx hb dX3_isFit_74 (by decide) (fun c_74 => ?_) (fun c_74 => ?_)
            · refine lv_iconst (v := nI 0) hx hb dX3_isFit_113 (by decide) ?_
              refine lv_istore_n (lv' := [(3, .int (nI 0)), (6, .int (nI j)), (5, .int (bI t9)), (4, .int (nI (101 + i))), (0, .ref o), (1, .int (nI k)), (2, .int (nI x))]) hx hb dX3_isFit_114 rfl hl (by decide) rfl (fun ls hl => ?_)
              refine lv_iinc (v := nI ((101 + i) + 1)) (lv' := [(4, .int (nI ((101 + i) + 1))), (3, .int (nI 0)), (6, .int (nI j)), (5, .int (bI t9)), (0, .ref o), (1, .int (nI k)), (2, .int (nI x))]) hx hb dX3_isFit_115 hl (k := 3) rfl (m_inc _) (by decide) rfl (fun ls hl => ?_)
              refine lv_goto (tgt := 19) hx hb dX3_isFit_118 (by decide) ?_
              exact iha (i + 1) false _ ls (by omega) (by omega) (by rw [fitN, ← hinv, hdue, c_74]; rfl) hS (lv_sub hl [0, 1, 4, 5, 6] rfl)
            · have hb1 : fitN fm k (fm x) i = true := hinv.symm.trans c_74
              obtain ⟨F, hF⟩ := fitN_some hb1
              have hlax : f 6 x = bI F.2 := ((hfm x hx9).2.2 F hF).2.1
              have hlf : laxF (fm x) = F.2 := by rw [hF]; rfl
              refine lv_aload_n hx hb dX3_isFit_77 rfl (lv_at hl 4 rfl) ?_
              refine lv_iload_n hx hb dX3_isFit_78 rfl (lv_at hl 6 rfl) ?_
              refine lv_iload hx hb dX3_isFit_79 (lv_at hl 2 rfl) ?_
              refine m_cVi (rest := []) ⟨hx, hb, hml, hown, hts⟩ hE hS (fun _ h => h) (kX3_has l K A H0 o ad f d pr ta ti la hP fm hfm x (by omega) (nI (101 + i))) (cwV 2 hts gX3_isFit_X3_has rfl rfl rfl (by decide +kernel) ⟨Nat.le_of_ble_eq_true rfl, Nat.le_of_ble_eq_true rfl⟩) (va_recv hE.k hP (ci := 4) (q0 := 0) rfl rfl) rfl rfl hl.1 rfl (Nat.le_of_ble_eq_true rfl) dX3_isFit_81 ⟨Nat.le_of_ble_eq_true rfl, Nat.le_of_ble_eq_true rfl⟩ (fun r H1 locs hp hS hk => ?_)
              obtain ⟨rfl, rfl⟩ := hp
              rw [hasS_F]
              refine m_if_eq_b (tgt := 95) hx hb dX3_isFit_84 (by decide) (fun c_84 => ?_) (fun c_84 => ?_)
              · refine lv_iload hx hb dX3_isFit_95 (lv_at hl 1 rfl) ?_
                refine m_if_eq_b (tgt := 109) hx hb dX3_isFit_97 (by decide) (fun c_97 => ?_) (fun c_97 => ?_)
                · refine lv_iconst (v := nI 1) hx hb dX3_isFit_109 (by decide) ?_
                  refine lv_goto (tgt := 114) hx hb dX3_isFit_110 (by decide) ?_
                  refine lv_istore_n (lv' := [(3, .int (nI 1)), (6, .int (nI j)), (5, .int (bI t9)), (4, .int (nI (101 + i))), (0, .ref o), (1, .int (nI k)), (2, .int (nI x))]) hx hb dX3_isFit_114 rfl hl (by decide) rfl (fun ls hl => ?_)
                  refine lv_iinc (v := nI ((101 + i) + 1)) (lv' := [(4, .int (nI ((101 + i) + 1))), (3, .int (nI 1)), (6, .int (nI j)), (5, .int (bI t9)), (0, .ref o), (1, .int (nI k)), (2, .int (nI x))]) hx hb dX3_isFit_115 hl (k := 3) rfl (m_inc _) (by decide) rfl (fun ls hl => ?_)
                  refine lv_goto (tgt := 19) hx hb dX3_isFit_118 (by decide) ?_
                  exact iha (i + 1) true _ ls (by omega) (by omega) (by rw [fitN, ← hinv, hdue, c_74, c_84, c_97]; rfl) hS (lv_sub hl [0, 1, 4, 5, 6] rfl)
                · refine lv_aload_n hx hb dX3_isFit_100 rfl (lv_at hl 4 rfl) ?_
                  refine va_get (D := K.1) (ci := 4) (v := .ref (ad 6)) (C := RX3) (T := TX3) (N := 21) hx hb hts iX3 hown hE.k hP 0 rfl rfl 6 (by decide) f25 (fun _ h9 => h9) rfl dX3_isFit_101 ?_
                  refine lv_iload_n hx hb dX3_isFit_104 rfl (lv_at hl 6 rfl) ?_
                  refine m_zald hx hb hE.k hP 6 rfl (by omega) (by omega) hlax dX3_isFit_105 ?_
                  refine m_if_eq_b (tgt := 113) hx hb dX3_isFit_106 (by decide) (fun c_106 => ?_) (fun c_106 => ?_)
                  · refine lv_iconst (v := nI 0) hx hb dX3_isFit_113 (by decide) ?_
                    refine lv_istore_n (lv' := [(3, .int (nI 0)), (6, .int (nI j)), (5, .int (bI t9)), (4, .int (nI (101 + i))), (0, .ref o), (1, .int (nI k)), (2, .int (nI x))]) hx hb dX3_isFit_114 rfl hl (by decide) rfl (fun ls hl => ?_)
                    refine lv_iinc (v := nI ((101 + i) + 1)) (lv' := [(4, .int (nI ((101 + i) + 1))), (3, .int (nI 0)), (6, .int (nI j)), (5, .int (bI t9)), (0, .ref o), (1, .int (nI k)), (2, .int (nI x))]) hx hb dX3_isFit_115 hl (k := 3) rfl (m_inc _) (by decide) rfl (fun ls hl => ?_)
                    refine lv_goto (tgt := 19) hx hb dX3_isFit_118 (by decide) ?_
                    exact iha (i + 1) false _ ls (by omega) (by omega) (by rw [fitN, ← hinv, hdue, c_74, c_84, c_97, hlf, c_106]; rfl) hS (lv_sub hl [0, 1, 4, 5, 6] rfl)
                  · refine lv_iconst (v := nI 1) hx hb dX3_isFit_109 (by decide) ?_
                    refine lv_goto (tgt := 114) hx hb dX3_isFit_110 (by decide) ?_
                    refine lv_istore_n (lv' := [(3, .int (nI 1)), (6, .int (nI j)), (5, .int (bI t9)), (4, .int (nI (101 + i))), (0, .ref o), (1, .int (nI k)), (2, .int (nI x))]) hx hb dX3_isFit_114 rfl hl (by decide) rfl (fun ls hl => ?_)
                    refine lv_iinc (v := nI ((101 + i) + 1)) (lv' := [(4, .int (nI ((101 + i) + 1))), (3, .int (nI 1)), (6, .int (nI j)), (5, .int (bI t9)), (0, .ref o), (1, .int (nI k)), (2, .int (nI x))]) hx hb dX3_isFit_115 hl (k := 3) rfl (m_inc _) (by decide) rfl (fun ls hl => ?_)
                    refine lv_goto (tgt := 19) hx hb dX3_isFit_118 (by decide) ?_
                    exact iha (i + 1) true _ ls (by omega) (by omega) (by rw [fitN, ← hinv, hdue, c_74, c_84, c_97, hlf, c_106]; rfl) hS (lv_sub hl [0, 1, 4, 5, 6] rfl)
              · refine lv_iload hx hb dX3_isFit_87 (lv_at hl 1 rfl) ?_
                refine m_if_eq_b (tgt := 113) hx hb dX3_isFit_89 (by decide) (fun c_89 => ?_) (fun c_89 => ?_)
                · refine lv_iconst (v := nI 0) hx hb dX3_isFit_113 (by decide) ?_
                  refine lv_istore_n (lv' := [(3, .int (nI 0)), (6, .int (nI j)), (5, .int (bI t9)), (4, .int (nI (101 + i))), (0, .ref o), (1, .int (nI k)), (2, .int (nI x))]) hx hb dX3_isFit_114 rfl hl (by decide) rfl (fun ls hl => ?_)
                  refine lv_iinc (v := nI ((101 + i) + 1)) (lv' := [(4, .int (nI ((101 + i) + 1))), (3, .int (nI 0)), (6, .int (nI j)), (5, .int (bI t9)), (0, .ref o), (1, .int (nI k)), (2, .int (nI x))]) hx hb dX3_isFit_115 hl (k := 3) rfl (m_inc _) (by decide) rfl (fun ls hl => ?_)
                  refine lv_goto (tgt := 19) hx hb dX3_isFit_118 (by decide) ?_
                  exact iha (i + 1) false _ ls (by omega) (by omega) (by rw [fitN, ← hinv, hdue, c_74, c_84, c_89]; rfl) hS (lv_sub hl [0, 1, 4, 5, 6] rfl)
                · refine lv_goto (tgt := 109) hx hb dX3_isFit_92 (by decide) ?_
                  refine lv_iconst (v := nI 1) hx hb dX3_isFit_109 (by decide) ?_
                  refine lv_goto (tgt := 114) hx hb dX3_isFit_110 (by decide) ?_
                  refine lv_istore_n (lv' := [(3, .int (nI 1)), (6, .int (nI j)), (5, .int (bI t9)), (4, .int (nI (101 + i))), (0, .ref o), (1, .int (nI k)), (2, .int (nI x))]) hx hb dX3_isFit_114 rfl hl (by decide) rfl (fun ls hl => ?_)
                  refine lv_iinc (v := nI ((101 + i) + 1)) (lv' := [(4, .int (nI ((101 + i) + 1))), (3, .int (nI 1)), (6, .int (nI j)), (5, .int (bI t9)), (0, .ref o), (1, .int (nI k)), (2, .int (nI x))]) hx hb dX3_isFit_115 hl (k := 3) rfl (m_inc _) (by decide) rfl (fun ls hl => ?_)
                  refine lv_goto (tgt := 19) hx hb dX3_isFit_118 (by decide) ?_
                  exact iha (i + 1) true _ ls (by omega) (by omega) (by rw [fitN, ← hinv, hdue, c_74, c_84, c_89]; rfl) hS (lv_sub hl [0, 1, 4, 5, 6] rfl)
          · refine lv_iload hx hb dX3_isFit_39 (lv_at hl 1 rfl) ?_
            refine m_if_ne_b (tgt := 60) hx hb dX3_isFit_41 (by decide) (fun c_41 => ?_) (fun c_41 => ?_)
            · refine lv_iconst (v := nI 1) hx hb dX3_isFit_60 (by decide) ?_
              refine lv_goto (tgt := 65) hx hb dX3_isFit_61 (by decide) ?_
              refine lv_istore (lv' := [(5, .int (nI 1)), (6, .int (nI j)), (4, .int (nI (101 + i))), (3, .int (bI b9)), (0, .ref o), (1, .int (nI k)), (2, .int (nI x))]) hx hb dX3_isFit_65 hl (by decide) rfl (fun ls hl => ?_)
              refine lv_iinc (v := nI (j + 1)) (lv' := [(6, .int (nI (j + 1))), (5, .int (nI 1)), (4, .int (nI (101 + i))), (3, .int (bI b9)), (0, .ref o), (1, .int (nI k)), (2, .int (nI x))]) hx hb dX3_isFit_67 hl (k := 1) rfl (m_inc _) (by decide) rfl (fun ls hl => ?_)
              refine lv_goto (tgt := 32) hx hb dX3_isFit_70 (by decide) ?_
              exact ihb (j + 1) true _ ls (by omega) (by omega) (by rw [anyN, ← hin2, c_41]; rfl) hS (lv_sub hl [0, 1, 2, 3, 4, 5, 6] rfl)
            · refine lv_aload_n hx hb dX3_isFit_44 rfl (lv_at hl 4 rfl) ?_
              refine lv_bipush (v := nI 54) hx hb dX3_isFit_45 (by decide) ?_
              refine lv_iload_n hx hb dX3_isFit_47 rfl (lv_at hl 5 rfl) ?_
              refine m_imul hx hb dX3_isFit_48 ?_
              refine lv_iload hx hb dX3_isFit_49 (lv_at hl 0 rfl) ?_
              refine m_iadd hx hb dX3_isFit_51 ?_
              refine lv_iload hx hb dX3_isFit_52 (lv_at hl 2 rfl) ?_
              refine m_cVi (rest := []) ⟨hx, hb, hml, hown, hts⟩ hE hS (fun _ h => h) (kX3_has l K A H0 o ad f d pr ta ti la hP fm hfm (54 * k + j) (by omega) (nI (101 + i))) (cwV 2 hts gX3_isFit_X3_has rfl rfl rfl (by decide +kernel) ⟨Nat.le_of_ble_eq_true rfl, Nat.le_of_ble_eq_true rfl⟩) (va_recv hE.k hP (ci := 4) (q0 := 0) rfl rfl) rfl rfl hl.1 rfl (Nat.le_of_ble_eq_true rfl) dX3_isFit_54 ⟨Nat.le_of_ble_eq_true rfl, Nat.le_of_ble_eq_true rfl⟩ (fun r H1 locs hp hS hk => ?_)
              obtain ⟨rfl, rfl⟩ := hp
              rw [hasS_F]
              refine m_if_eq_b (tgt := 64) hx hb dX3_isFit_57 (by decide) (fun c_57 => ?_) (fun c_57 => ?_)
              · refine lv_iconst (v := nI 0) hx hb dX3_isFit_64 (by decide) ?_
                refine lv_istore (lv' := [(5, .int (nI 0)), (6, .int (nI j)), (4, .int (nI (101 + i))), (3, .int (bI b9)), (0, .ref o), (1, .int (nI k)), (2, .int (nI x))]) hx hb dX3_isFit_65 hl (by decide) rfl (fun ls hl => ?_)
                refine lv_iinc (v := nI (j + 1)) (lv' := [(6, .int (nI (j + 1))), (5, .int (nI 0)), (4, .int (nI (101 + i))), (3, .int (bI b9)), (0, .ref o), (1, .int (nI k)), (2, .int (nI x))]) hx hb dX3_isFit_67 hl (k := 1) rfl (m_inc _) (by decide) rfl (fun ls hl => ?_)
                refine lv_goto (tgt := 32) hx hb dX3_isFit_70 (by decide) ?_
                exact ihb (j + 1) false _ ls (by omega) (by omega) (by rw [anyN, ← hin2, c_41]; simp only [c_57, Bool.or_false]) hS (lv_sub hl [0, 1, 2, 3, 4, 5, 6] rfl)
              · refine lv_iconst (v := nI 1) hx hb dX3_isFit_60 (by decide) ?_
                refine lv_goto (tgt := 65) hx hb dX3_isFit_61 (by decide) ?_
                refine lv_istore (lv' := [(5, .int (nI 1)), (6, .int (nI j)), (4, .int (nI (101 + i))), (3, .int (bI b9)), (0, .ref o), (1, .int (nI k)), (2, .int (nI x))]) hx hb dX3_isFit_65 hl (by decide) rfl (fun ls hl => ?_)
                refine lv_iinc (v := nI (j + 1)) (lv' := [(6, .int (nI (j + 1))), (5, .int (nI 1)), (4, .int (nI (101 + i))), (3, .int (bI b9)), (0, .ref o), (1, .int (nI k)), (2, .int (nI x))]) hx hb dX3_isFit_67 hl (k := 1) rfl (m_inc _) (by decide) rfl (fun ls hl => ?_)
                refine lv_goto (tgt := 32) hx hb dX3_isFit_70 (by decide) ?_
                exact ihb (j + 1) true _ ls (by omega) (by omega) (by rw [anyN]; simp only [c_57, Bool.or_true]) hS (lv_sub hl [0, 1, 2, 3, 4, 5, 6] rfl)
  · refine lv_iconst (v := nI 1) hx hb dX3_isFit_9 (by decide) ?_
    refine lv_goto (tgt := 14) hx hb dX3_isFit_10 (by decide) ?_
    refine lv_istore_n (lv' := [(3, .int (nI 1)), (0, .ref o), (1, .int (nI k)), (2, .int (nI x))]) hx hb dX3_isFit_14 rfl hl (by decide) rfl (fun ls hl => ?_)
    refine lv_bipush (v := nI 101) hx hb dX3_isFit_15 (by decide) ?_
    refine lv_istore (lv' := [(4, .int (nI 101)), (3, .int (nI 1)), (0, .ref o), (1, .int (nI k)), (2, .int (nI x))]) hx hb dX3_isFit_17 hl (by decide) rfl (fun ls hl => ?_)
    refine (?_ : ∀ (n9a : Nat) (i : Nat) (b9 : Bool) (locs : List Loc) (ls : Array Slot), i ≤ 4 → 4 < i + n9a → b9 = fitN fm k (fm x) i → va_S A s.heap H0 locs → lv_has ls 7 [(4, .int (nI (101 + i))), (3, .int (bI b9)), (0, .ref o), (1, .int (nI k)), (2, .int (nI x))] → W p l e _ s m args below meth c H0 locs 0 0 _ (F0 m 19 ls [])) (4 + 1) 0 true _ ls (by omega) (by omega) (((len_pos hq9).mp (by omega)).symm) hS (lv_sub hl [0, 1, 2, 3, 4] rfl)
    clear hS hl
    intro n9a
    induction n9a with
    | zero => intro i b9 locs ls hi9 hn9; exact absurd hn9 (by omega)
    | succ n9a iha =>
      intro i b9 locs ls hi9a hn9a hinv hS hl
      refine lv_iload hx hb dX3_isFit_19 (lv_at hl 0 rfl) ?_
      refine lv_bipush (v := nI 104) hx hb dX3_isFit_21 (by decide) ?_
      refine m_icmp_gt (tgt := 121) hx hb (by omega) (by omega) dX3_isFit_23 (by decide) (fun c_23 => ?_) (fun c_23 => ?_)
      · refine lv_iload_n hx hb dX3_isFit_121 rfl (lv_at hl 1 rfl) ?_
        exact m_zret hx hb hr hlk hS (Nat.le_of_ble_eq_true rfl) (Nat.le_of_ble_eq_true rfl) dX3_isFit_122 (⟨by rw [hinv, show i = 4 by omega, fitN_4], rfl⟩)
      · refine lv_iconst (v := nI 0) hx hb dX3_isFit_26 (by decide) ?_
        refine lv_istore (lv' := [(5, .int (nI 0)), (4, .int (nI (101 + i))), (3, .int (bI b9)), (0, .ref o), (1, .int (nI k)), (2, .int (nI x))]) hx hb dX3_isFit_27 hl (by decide) rfl (fun ls hl => ?_)
        refine lv_iconst (v := nI 0) hx hb dX3_isFit_29 (by decide) ?_
        refine lv_istore (lv' := [(6, .int (nI 0)), (5, .int (nI 0)), (4, .int (nI (101 + i))), (3, .int (bI b9)), (0, .ref o), (1, .int (nI k)), (2, .int (nI x))]) hx hb dX3_isFit_30 hl (by decide) rfl (fun ls hl => ?_)
        have hl := lv_sub (l' := [(4, .int (nI (101 + i))), (3, .int (bI b9)), (0, .ref o), (1, .int (nI k)), (2, .int (nI x)), (5, .int (nI 0)), (6, .int (nI 0))]) hl [2, 3, 4, 5, 6, 1, 0] rfl
        refine (?_ : ∀ (n9b : Nat) (j : Nat) (t9 : Bool) (locs : List Loc) (ls : Array Slot), j ≤ 9 → 9 < j + n9b → t9 = anyN (fun j => hasF (fm (54 * k + j)) i) j → va_S A s.heap H0 locs → lv_has ls 7 [(6, .int (nI j)), (5, .int (bI t9)), (4, .int (nI (101 + i))), (3, .int (bI b9)), (0, .ref o), (1, .int (nI k)), (2, .int (nI x))] → W p l e _ s m args below meth c H0 locs 0 0 _ (F0 m 32 ls [])) (9 + 1) 0 false _ ls (by omega) (by omega) rfl hS (lv_sub hl [6, 5, 0, 1, 2, 3, 4] rfl)
        clear hS hl
        intro n9b
        induction n9b with
        | zero => intro j t9 locs ls hi9 hn9; exact absurd hn9 (by omega)
        | succ n9b ihb =>
          intro j t9 locs ls hi9b hn9b hin2 hS hl
          refine lv_iload hx hb dX3_isFit_32 (lv_at hl 0 rfl) ?_
          refine lv_bipush (v := nI 9) hx hb dX3_isFit_34 (by decide) ?_
          refine m_icmp_ge (tgt := 73) hx hb (by omega) (by omega) dX3_isFit_36 (by decide) (fun c_36 => ?_) (fun c_36 => ?_)
          · have hdue : due fm k i = t9 := by rw [hin2, show j = 9 by omega]; rfl
            refine lv_iload_n hx hb dX3_isFit_73 rfl (lv_at hl 3 rfl) ?_
            refine m_if_eq_b (tgt := 113) hx hb dX3_isFit_74 (by decide) (fun c_74 => ?_) (fun c_74 => ?_)
            · refine lv_iconst (v := nI 0) hx hb dX3_isFit_113 (by decide) ?_
              refine lv_istore_n (lv' := [(3, .int (nI 0)), (6, .int (nI j)), (5, .int (bI t9)), (4, .int (nI (101 + i))), (0, .ref o), (1, .int (nI k)), (2, .int (nI x))]) hx hb dX3_isFit_114 rfl hl (by decide) rfl (fun ls hl => ?_)
              refine lv_iinc (v := nI ((101 + i) + 1)) (lv' := [(4, .int (nI ((101 + i) + 1))), (3, .int (nI 0)), (6, .int (nI j)), (5, .int (bI t9)), (0, .ref o), (1, .int (nI k)), (2, .int (nI x))]) hx hb dX3_isFit_115 hl (k := 3) rfl (m_inc _) (by decide) rfl (fun ls hl => ?_)
              refine lv_goto (tgt := 19) hx hb dX3_isFit_118 (by decide) ?_
              exact iha (i + 1) false _ ls (by omega) (by omega) (by rw [fitN, ← hinv, hdue, c_74]; rfl) hS (lv_sub hl [0, 1, 4, 5, 6] rfl)
            · have hb1 : fitN fm k (fm x) i = true := hinv.symm.trans c_74
              obtain ⟨F, hF⟩ := fitN_some hb1
              have hlax : f 6 x = bI F.2 := ((hfm x hx9).2.2 F hF).2.1
              have hlf : laxF (fm x) = F.2 := by rw [hF]; rfl
              refine lv_aload_n hx hb dX3_isFit_77 rfl (lv_at hl 4 rfl) ?_
              refine lv_iload_n hx hb dX3_isFit_78 rfl (lv_at hl 6 rfl) ?_
              refine lv_iload hx hb dX3_isFit_79 (lv_at hl 2 rfl) ?_
              refine m_cVi (rest := []) ⟨hx, hb, hml, hown, hts⟩ hE hS (fun _ h => h) (kX3_has l K A H0 o ad f d pr ta ti la hP fm hfm x (by omega) (nI (101 + i))) (cwV 2 hts gX3_isFit_X3_has rfl rfl rfl (by decide +kernel) ⟨Nat.le_of_ble_eq_true rfl, Nat.le_of_ble_eq_true rfl⟩) (va_recv hE.k hP (ci := 4) (q0 := 0) rfl rfl) rfl rfl hl.1 rfl (Nat.le_of_ble_eq_true rfl) dX3_isFit_81 ⟨Nat.le_of_ble_eq_true rfl, Nat.le_of_ble_eq_true rfl⟩ (fun r H1 locs hp hS hk => ?_)
              obtain ⟨rfl, rfl⟩ := hp
              rw [hasS_F]
              refine m_if_eq_b (tgt := 95) hx hb dX3_isFit_84 (by decide) (fun c_84 => ?_) (fun c_84 => ?_)
              · refine lv_iload hx hb dX3_isFit_95 (lv_at hl 1 rfl) ?_
                refine m_if_eq_b (tgt := 109) hx hb dX3_isFit_97 (by decide) (fun c_97 => ?_) (fun c_97 => ?_)
                · refine lv_iconst (v := nI 1) hx hb dX3_isFit_109 (by decide) ?_
                  refine lv_goto (tgt := 114) hx hb dX3_isFit_110 (by decide) ?_
                  refine lv_istore_n (lv' := [(3, .int (nI 1)), (6, .int (nI j)), (5, .int (bI t9)), (4, .int (nI (101 + i))), (0, .ref o), (1, .int (nI k)), (2, .int (nI x))]) hx hb dX3_isFit_114 rfl hl (by decide) rfl (fun ls hl => ?_)
                  refine lv_iinc (v := nI ((101 + i) + 1)) (lv' := [(4, .int (nI ((101 + i) + 1))), (3, .int (nI 1)), (6, .int (nI j)), (5, .int (bI t9)), (0, .ref o), (1, .int (nI k)), (2, .int (nI x))]) hx hb dX3_isFit_115 hl (k := 3) rfl (m_inc _) (by decide) rfl (fun ls hl => ?_)
                  refine lv_goto (tgt := 19) hx hb dX3_isFit_118 (by decide) ?_
                  exact iha (i + 1) true _ ls (by omega) (by omega) (by rw [fitN, ← hinv, hdue, c_74, c_84, c_97]; rfl) hS (lv_sub hl [0, 1, 4, 5, 6] rfl)
                · refine lv_aload_n hx hb dX3_isFit_100 rfl (lv_at hl 4 rfl) ?_
                  refine va_get (D := K.1) (ci := 4) (v := .ref (ad 6)) (C := RX3) (T := TX3) (N := 21) hx hb hts iX3 hown hE.k hP 0 rfl rfl 6 (by decide) f25 (fun _ h9 => h9) rfl dX3_isFit_101 ?_
                  refine lv_iload_n hx hb dX3_isFit_104 rfl (lv_at hl 6 rfl) ?_
                  refine m_zald hx hb hE.k hP 6 rfl (by omega) (by omega) hlax dX3_isFit_105 ?_
                  refine m_if_eq_b (tgt := 113) hx hb dX3_isFit_106 (by decide) (fun c_106 => ?_) (fun c_106 => ?_)
                  · refine lv_iconst (v := nI 0) hx hb dX3_isFit_113 (by decide) ?_
                    refine lv_istore_n (lv' := [(3, .int (nI 0)), (6, .int (nI j)), (5, .int (bI t9)), (4, .int (nI (101 + i))), (0, .ref o), (1, .int (nI k)), (2, .int (nI x))]) hx hb dX3_isFit_114 rfl hl (by decide) rfl (fun ls hl => ?_)
                    refine lv_iinc (v := nI ((101 + i) + 1)) (lv' := [(4, .int (nI ((101 + i) + 1))), (3, .int (nI 0)), (6, .int (nI j)), (5, .int (bI t9)), (0, .ref o), (1, .int (nI k)), (2, .int (nI x))]) hx hb dX3_isFit_115 hl (k := 3) rfl (m_inc _) (by decide) rfl (fun ls hl => ?_)
                    refine lv_goto (tgt := 19) hx hb dX3_isFit_118 (by decide) ?_
                    exact iha (i + 1) false _ ls (by omega) (by omega) (by rw [fitN, ← hinv, hdue, c_74, c_84, c_97, hlf, c_106]; rfl) hS (lv_sub hl [0, 1, 4, 5, 6] rfl)
                  · refine lv_iconst (v := nI 1) hx hb dX3_isFit_109 (by decide) ?_
                    refine lv_goto (tgt := 114) hx hb dX3_isFit_110 (by decide) ?_
                    refine lv_istore_n (lv' := [(3, .int (nI 1)), (6, .int (nI j)), (5, .int (bI t9)), (4, .int (nI (101 + i))), (0, .ref o), (1, .int (nI k)), (2, .int (nI x))]) hx hb dX3_isFit_114 rfl hl (by decide) rfl (fun ls hl => ?_)
                    refine lv_iinc (v := nI ((101 + i) + 1)) (lv' := [(4, .int (nI ((101 + i) + 1))), (3, .int (nI 1)), (6, .int (nI j)), (5, .int (bI t9)), (0, .ref o), (1, .int (nI k)), (2, .int (nI x))]) hx hb dX3_isFit_115 hl (k := 3) rfl (m_inc _) (by decide) rfl (fun ls hl => ?_)
                    refine lv_goto (tgt := 19) hx hb dX3_isFit_118 (by decide) ?_
                    exact iha (i + 1) true _ ls (by omega) (by omega) (by rw [fitN, ← hinv, hdue, c_74, c_84, c_97, hlf, c_106]; rfl) hS (lv_sub hl [0, 1, 4, 5, 6] rfl)
              · refine lv_iload hx hb dX3_isFit_87 (lv_at hl 1 rfl) ?_
                refine m_if_eq_b (tgt := 113) hx hb dX3_isFit_89 (by decide) (fun c_89 => ?_) (fun c_89 => ?_)
                · refine lv_iconst (v := nI 0) hx hb dX3_isFit_113 (by decide) ?_
                  refine lv_istore_n (lv' := [(3, .int (nI 0)), (6, .int (nI j)), (5, .int (bI t9)), (4, .int (nI (101 + i))), (0, .ref o), (1, .int (nI k)), (2, .int (nI x))]) hx hb dX3_isFit_114 rfl hl (by decide) rfl (fun ls hl => ?_)
                  refine lv_iinc (v := nI ((101 + i) + 1)) (lv' := [(4, .int (nI ((101 + i) + 1))), (3, .int (nI 0)), (6, .int (nI j)), (5, .int (bI t9)), (0, .ref o), (1, .int (nI k)), (2, .int (nI x))]) hx hb dX3_isFit_115 hl (k := 3) rfl (m_inc _) (by decide) rfl (fun ls hl => ?_)
                  refine lv_goto (tgt := 19) hx hb dX3_isFit_118 (by decide) ?_
                  exact iha (i + 1) false _ ls (by omega) (by omega) (by rw [fitN, ← hinv, hdue, c_74, c_84, c_89]; rfl) hS (lv_sub hl [0, 1, 4, 5, 6] rfl)
                · refine lv_goto (tgt := 109) hx hb dX3_isFit_92 (by decide) ?_
                  refine lv_iconst (v := nI 1) hx hb dX3_isFit_109 (by decide) ?_
                  refine lv_goto (tgt := 114) hx hb dX3_isFit_110 (by decide) ?_
                  refine lv_istore_n (lv' := [(3, .int (nI 1)), (6, .int (nI j)), (5, .int (bI t9)), (4, .int (nI (101 + i))), (0, .ref o), (1, .int (nI k)), (2, .int (nI x))]) hx hb dX3_isFit_114 rfl hl (by decide) rfl (fun ls hl => ?_)
                  refine lv_iinc (v := nI ((101 + i) + 1)) (lv' := [(4, .int (nI ((101 + i) + 1))), (3, .int (nI 1)), (6, .int (nI j)), (5, .int (bI t9)), (0, .ref o), (1, .int (nI k)), (2, .int (nI x))]) hx hb dX3_isFit_115 hl (k := 3) rfl (m_inc _) (by decide) rfl (fun ls hl => ?_)
                  refine lv_goto (tgt := 19) hx hb dX3_isFit_118 (by decide) ?_
                  exact iha (i + 1) true _ ls (by omega) (by omega) (by rw [fitN, ← hinv, hdue, c_74, c_84, c_89]; rfl) hS (lv_sub hl [0, 1, 4, 5, 6] rfl)
          · refine lv_iload hx hb dX3_isFit_39 (lv_at hl 1 rfl) ?_
            refine m_if_ne_b (tgt := 60) hx hb dX3_isFit_41 (by decide) (fun c_41 => ?_) (fun c_41 => ?_)
            · refine lv_iconst (v := nI 1) hx hb dX3_isFit_60 (by decide) ?_
              refine lv_goto (tgt := 65) hx hb dX3_isFit_61 (by decide) ?_
              refine lv_istore (lv' := [(5, .int (nI 1)), (6, .int (nI j)), (4, .int (nI (101 + i))), (3, .int (bI b9)), (0, .ref o), (1, .int (nI k)), (2, .int (nI x))]) hx hb dX3_isFit_65 hl (by decide) rfl (fun ls hl => ?_)
              refine lv_iinc (v := nI (j + 1)) (lv' := [(6, .int (nI (j + 1))), (5, .int (nI 1)), (4, .int (nI (101 + i))), (3, .int (bI b9)), (0, .ref o), (1, .int (nI k)), (2, .int (nI x))]) hx hb dX3_isFit_67 hl (k := 1) rfl (m_inc _) (by decide) rfl (fun ls hl => ?_)
              refine lv_goto (tgt := 32) hx hb dX3_isFit_70 (by decide) ?_
              exact ihb (j + 1) true _ ls (by omega) (by omega) (by rw [anyN, ← hin2, c_41]; rfl) hS (lv_sub hl [0, 1, 2, 3, 4, 5, 6] rfl)
            · refine lv_aload_n hx hb dX3_isFit_44 rfl (lv_at hl 4 rfl) ?_
              refine lv_bipush (v := nI 54) hx hb dX3_isFit_45 (by decide) ?_
              refine lv_iload_n hx hb dX3_isFit_47 rfl (lv_at hl 5 rfl) ?_
              refine m_imul hx hb dX3_isFit_48 ?_
              refine lv_iload hx hb dX3_isFit_49 (lv_at hl 0 rfl) ?_
              refine m_iadd hx hb dX3_isFit_51 ?_
              refine lv_iload hx hb dX3_isFit_52 (lv_at hl 2 rfl) ?_
              refine m_cVi (rest := []) ⟨hx, hb, hml, hown, hts⟩ hE hS (fun _ h => h) (kX3_has l K A H0 o ad f d pr ta ti la hP fm hfm (54 * k + j) (by omega) (nI (101 + i))) (cwV 2 hts gX3_isFit_X3_has rfl rfl rfl (by decide +kernel) ⟨Nat.le_of_ble_eq_true rfl, Nat.le_of_ble_eq_true rfl⟩) (va_recv hE.k hP (ci := 4) (q0 := 0) rfl rfl) rfl rfl hl.1 rfl (Nat.le_of_ble_eq_true rfl) dX3_isFit_54 ⟨Nat.le_of_ble_eq_true rfl, Nat.le_of_ble_eq_true rfl⟩ (fun r H1 locs hp hS hk => ?_)
              obtain ⟨rfl, rfl⟩ := hp
              rw [hasS_F]
              refine m_if_eq_b (tgt := 64) hx hb dX3_isFit_57 (by decide) (fun c_57 => ?_) (fun c_57 => ?_)
              · refine lv_iconst (v := nI 0) hx hb dX3_isFit_64 (by decide) ?_
                refine lv_istore (lv' := [(5, .int (nI 0)), (6, .int (nI j)), (4, .int (nI (101 + i))), (3, .int (bI b9)), (0, .ref o), (1, .int (nI k)), (2, .int (nI x))]) hx hb dX3_isFit_65 hl (by decide) rfl (fun ls hl => ?_)
                refine lv_iinc (v := nI (j + 1)) (lv' := [(6, .int (nI (j + 1))), (5, .int (nI 0)), (4, .int (nI (101 + i))), (3, .int (bI b9)), (0, .ref o), (1, .int (nI k)), (2, .int (nI x))]) hx hb dX3_isFit_67 hl (k := 1) rfl (m_inc _) (by decide) rfl (fun ls hl => ?_)
                refine lv_goto (tgt := 32) hx hb dX3_isFit_70 (by decide) ?_
                exact ihb (j + 1) false _ ls (by omega) (by omega) (by rw [anyN, ← hin2, c_41]; simp only [c_57, Bool.or_false]) hS (lv_sub hl [0, 1, 2, 3, 4, 5, 6] rfl)
              · refine lv_iconst (v := nI 1) hx hb dX3_isFit_60 (by decide) ?_
                refine lv_goto (tgt := 65) hx hb dX3_isFit_61 (by decide) ?_
                refine lv_istore (lv' := [(5, .int (nI 1)), (6, .int (nI j)), (4, .int (nI (101 + i))), (3, .int (bI b9)), (0, .ref o), (1, .int (nI k)), (2, .int (nI x))]) hx hb dX3_isFit_65 hl (by decide) rfl (fun ls hl => ?_)
                refine lv_iinc (v := nI (j + 1)) (lv' := [(6, .int (nI (j + 1))), (5, .int (nI 1)), (4, .int (nI (101 + i))), (3, .int (bI b9)), (0, .ref o), (1, .int (nI k)), (2, .int (nI x))]) hx hb dX3_isFit_67 hl (k := 1) rfl (m_inc _) (by decide) rfl (fun ls hl => ?_)
                refine lv_goto (tgt := 32) hx hb dX3_isFit_70 (by decide) ?_
                exact ihb (j + 1) true _ ls (by omega) (by omega) (by rw [anyN]; simp only [c_57, Bool.or_true]) hS (lv_sub hl [0, 1, 2, 3, 4, 5, 6] rfl)

def slot4 (k g i u j : Nat) : Nat := 54 * k + 9 * g + 3 * (if j < 2 then i else 2) + (if j % 2 = 0 then u else 0)
def tr4 (fm : Nat → Option Frm) (k g i u : Nat) : Nat → Option Nat
  | 0 => none
  | j + 1 => match tr4 fm k g i u j with
    | some s => some s
    | none => if fitF fm k (fm (slot4 k g i u j)) then some (slot4 k g i u j) else none
theorem tr4_in (fm : Nat → Option Frm) (k g i u : Nat) : tr4 fm k g i u 4 = inLang fm k g i u := by
  simp only [tr4, inLang, inCls, slot4, show (0 : Nat) < 2 from by decide, show (1 : Nat) < 2 from by decide, show ¬ (2 : Nat) < 2 from by decide, show ¬ (3 : Nat) < 2 from by decide, show (0 : Nat) % 2 = 0 from rfl, show ¬ (1 : Nat) % 2 = 0 from by decide, show (2 : Nat) % 2 = 0 from rfl, show ¬ (3 : Nat) % 2 = 0 from by decide, if_true, if_false]
  cases fitF fm k (fm (54 * k + 9 * g + 3 * i + u)) <;> cases fitF fm k (fm (54 * k + 9 * g + 3 * i + 0)) <;> cases fitF fm k (fm (54 * k + 9 * g + 3 * 2 + u)) <;> cases fitF fm k (fm (54 * k + 9 * g + 3 * 2 + 0)) <;> rfl
theorem slot4_lt {k g i u : Nat} (j : Nat) (hk : k < 10) (hg : g < 6) (hi : i < 3) (hu : u < 3) : slot4 k g i u j < 540 ∧ slot4 k g i u j / 9 % 6 = g := by
  unfold slot4
  split <;> split <;> omega
theorem tr4_lt {fm : Nat → Option Frm} {k g i u : Nat} (hk : k < 10) (hg : g < 6) (hi : i < 3) (hu : u < 3) : ∀ {j s : Nat}, tr4 fm k g i u j = some s → s < 540 ∧ s / 9 % 6 = g
  | 0, _, h => by cases h
  | j + 1, s, h => by
    unfold tr4 at h
    split at h
    · rename_i s9 e
      cases h
      exact tr4_lt hk hg hi hu e
    · split at h
      · cases h
        exact slot4_lt j hk hg hi hu
      · cases h
theorem tr4_up {fm : Nat → Option Frm} {k g i u s : Nat} : ∀ {j n : Nat}, j ≤ n → tr4 fm k g i u j = some s → tr4 fm k g i u n = some s
  | j, 0, hj, h => by
    rw [show j = 0 by omega] at h
    exact h
  | j, n + 1, hj, h => by
    by_cases e : j = n + 1
    · rw [← e]; exact h
    · rw [tr4, tr4_up (j := j) (n := n) (by omega) h]
theorem tr4_y {fm : Nat → Option Frm} {k g i u j x : Nat} (h : tr4 fm k g i u j = none) (e : slot4 k g i u j = x) (y : fitF fm k (fm x) = true) : some x = tr4 fm k g i u (j + 1) := by
  subst e
  rw [tr4, h]
  exact (if_pos y).symm
theorem tr4_n {fm : Nat → Option Frm} {k g i u j x : Nat} (h : tr4 fm k g i u j = none) (e : slot4 k g i u j = x) (y : fitF fm k (fm x) = false) : none = tr4 fm k g i u (j + 1) := by
  subst e
  rw [tr4, h]
  exact (if_neg (by rw [y]; decide)).symm

set_option maxHeartbeats 4000000 in
set_option maxRecDepth 100000 in
theorem kX3_tells (l : Launch) (K : m_K) (A : Nat → Prop) (H0 : Heap) (o : Nat) (ad : Nat → Nat) (f : Nat → Nat → Int32) (d pr ta ti la : Int32) (hP : va_P K.1 vwCl (mW K o ad f d pr ta ti la) H0) (hD : va_D A (mW K o ad f d pr ta ti la)) (fb : Nat → Nat) (hfb : ∀ l, l < 6 → f 0 l = nI (fb l) ∧ fb l < 6) (rk : Nat → Nat) (hRK : RK fb rk) (hr5 : ∀ l, l < 6 → rk l < 6) (fm : Nat → Option Frm) (hfm : ∀ k, k < 540 → mF (f 5) (f 6) (f 7) k (fm k)) (on fw : Nat → Int32) (hon : ∀ g, g < 6 → f 1 g = on g) (hfw : ∀ g, g < 6 → f 2 g = fw g) (k g : Nat) (x : Int32) (u : Nat) (hk9 : k < 10) (hg9 : g < 6) (hu9 : u < 3) : Met l yX3_tells wsX3_tells ({ frames := 2, cells := 0, slots := 0, locals := 50 } : Room) (m_Pc K A H0 [.ref o, .int (nI k), .int (nI g), .int x, .int (nI u)]) (va_Qv (fun H1 => ∃ t9, va_P K.1 vwCl (mW K o ad f d pr (oI (tellN fb (fun g => inLang fm k g (kindF on fw g x) u) 6 g)) (nI t9) la) H1 ∧ va_D A (mW K o ad f d pr (oI (tellN fb (fun g => inLang fm k g (kindF on fw g x) u) 6 g)) (nI t9) la) ∧ ∀ s, tellN fb (fun g => inLang fm k g (kindF on fw g x) u) 6 g = some s → s / 9 % 6 = t9) m_B A) 0 0 A := by
  refine m_ofW (by decide) rfl (Nat.le_of_ble_eq_true rfl) ?_
  intro p e s m args below meth c ls hx hb hr hml hown hts hlk hnm hE hsz hS hl
  have hl : lv_has ls 9 [(0, .ref o), (1, .int (nI k)), (2, .int (nI g)), (3, .int x), (4, .int (nI u))] := hl
  have iX3 : ∀ w ∈ wsX30, w ∈ wsX3_tells := by decide +kernel
  have f123 := hts (.fieldLink RX3 123 "PhraseCatalogueModel" "toldAt" "I") (by decide +kernel)
  have f126 := hts (.fieldLink RX3 126 "PhraseCatalogueModel" "toldIn" "I") (by decide +kernel)
  have f7 := hts (.fieldLink RX3 7 "PhraseCatalogueModel" "fallbacks" "[I") (by decide +kernel)
  refine lv_aload_n hx hb dX3_tells_0 rfl (lv_at hl 0 rfl) ?_
  refine lv_iconst (v := (-1)) hx hb dX3_tells_1 (by decide) ?_
  refine va_put (D := K.1) (ci := 4) (v := .int (-1)) (ty := .int) (C := RX3) (T := TX3) (N := 21) hx hb hts iX3 tyX3 tyX3_ok nmX3 hown hE.k hP hD hS 0 rfl rfl 18 (by decide) f123 (fun _ h9 => h9) rfl (by decide +kernel) rfl rfl (Nat.le_of_ble_eq_true rfl) dX3_tells_2 (fun H locs hP hD hS => ?_)
  have hP : va_P K.1 vwCl (mW K o ad f d pr (-1) ti la) H := hP
  have hD : va_D A (mW K o ad f d pr (-1) ti la) := hD
  refine lv_aload_n hx hb dX3_tells_5 rfl (lv_at hl 0 rfl) ?_
  refine lv_iload_n hx hb dX3_tells_6 rfl (lv_at hl 2 rfl) ?_
  refine va_put (D := K.1) (ci := 4) (v := .int (nI g)) (ty := .int) (C := RX3) (T := TX3) (N := 21) hx hb hts iX3 tyX3 tyX3_ok nmX3 hown hE.k hP hD hS 0 rfl rfl 19 (by decide) f126 (fun _ h9 => h9) rfl (by decide +kernel) rfl rfl (Nat.le_of_ble_eq_true rfl) dX3_tells_7 (fun H locs hP hD hS => ?_)
  have hP : va_P K.1 vwCl (mW K o ad f d pr (-1) (nI g) la) H := hP
  have hD : va_D A (mW K o ad f d pr (-1) (nI g) la) := hD
  refine lv_iconst (v := nI 1) hx hb dX3_tells_10 (by decide) ?_
  refine lv_istore (lv' := [(5, .int (nI 1)), (0, .ref o), (1, .int (nI k)), (2, .int (nI g)), (3, .int x), (4, .int (nI u))]) hx hb dX3_tells_11 hl (by decide) rfl (fun ls hl => ?_)
  refine (?_ : ∀ (n9a : Nat) (i : Nat) (at9 : Nat) (so : Option Nat) (go : Bool) (H : Heap) (locs : List Loc) (ls : Array Slot), i ≤ 6 → 6 < i + n9a → at9 < 6 → (go = true → so = none ∧ rk at9 + i ≤ rk g ∧ tellN fb (fun g => inLang fm k g (kindF on fw g x) u) (6 - i) at9 = tellN fb (fun g => inLang fm k g (kindF on fw g x) u) 6 g) → (go = false → so = tellN fb (fun g => inLang fm k g (kindF on fw g x) u) 6 g ∧ ∀ s, so = some s → s / 9 % 6 = at9) → va_P K.1 vwCl (mW K o ad f d pr (oI so) (nI at9) la) H → va_D A (mW K o ad f d pr (oI so) (nI at9) la) → va_S A s.heap H locs → lv_has ls 9 [(5, .int (bI go)), (0, .ref o), (1, .int (nI k)), (2, .int (nI g)), (3, .int x), (4, .int (nI u))] → W p l e _ s m args below meth c H locs 0 0 _ (F0 m 13 ls [])) (6 + 1) 0 g none true _ _ ls (by omega) (by omega) hg9 (fun _ => ⟨rfl, by omega, rfl⟩) (fun z => by cases z) hP hD hS (lv_sub hl [0, 1, 2, 3, 4, 5] rfl)
  clear hS hl hP hD
  intro n9a
  induction n9a with
  | zero => intro i at9 so go H locs ls hi9 hn9; exact absurd hn9 (by omega)
  | succ n9a iha =>
    intro i at9 so go H locs ls hi9a hn9a hat hgo hst hP hD hS hl
    refine lv_iload hx hb dX3_tells_13 (lv_at hl 0 rfl) ?_
    refine m_if_eq_b (tgt := 157) hx hb dX3_tells_15 (by decide) (fun c_15 => ?_) (fun c_15 => ?_)
    · exact m_vret hx hb hr hlk hS (Nat.le_of_ble_eq_true rfl) (Nat.le_of_ble_eq_true rfl) dX3_tells_157 (⟨at9, by rw [← (hst c_15).1]; exact hP, by rw [← (hst c_15).1]; exact hD, by rw [← (hst c_15).1]; exact (hst c_15).2⟩)
    · obtain ⟨rfl, hrk, hte⟩ := hgo c_15
      have hi5 := hr5 g hg9
      clear hst hgo
      refine lv_aload_n hx hb dX3_tells_18 rfl (lv_at hl 1 rfl) ?_
      refine lv_aload_n hx hb dX3_tells_19 rfl (lv_at hl 1 rfl) ?_
      refine va_get (D := K.1) (ci := 4) (v := .int (nI at9)) (C := RX3) (T := TX3) (N := 21) hx hb hts iX3 hown hE.k hP 0 rfl rfl 19 (by decide) f126 (fun _ h9 => h9) rfl dX3_tells_20 ?_
      refine lv_iload_n hx hb dX3_tells_23 rfl (lv_at hl 4 rfl) ?_
      refine m_cVi (rest := []) ⟨hx, hb, hml, hown, hts⟩ hE hS (fun _ h => h) (kX3_kind l K A H o ad f d pr (oI none) (nI at9) la hP on fw hon hfw at9 hat x) (cwV 2 hts gX3_tells_X3_kind rfl rfl rfl (by decide +kernel) ⟨Nat.le_of_ble_eq_true rfl, Nat.le_of_ble_eq_true rfl⟩) (va_recv hE.k hP (ci := 4) (q0 := 0) rfl rfl) rfl rfl hl.1 rfl (Nat.le_of_ble_eq_true rfl) dX3_tells_24 ⟨Nat.le_of_ble_eq_true rfl, Nat.le_of_ble_eq_true rfl⟩ (fun r H1 locs hp hS hk => ?_)
      obtain ⟨rfl, rfl⟩ := hp
      have hkd := kindF_lt on fw at9 x
      refine lv_istore (lv' := [(6, .int (nI (kindF on fw at9 x))), (5, .int (bI go)), (0, .ref o), (1, .int (nI k)), (2, .int (nI g)), (3, .int x), (4, .int (nI u))]) hx hb dX3_tells_27 hl (by decide) rfl (fun ls hl => ?_)
      refine lv_iconst (v := nI 0) hx hb dX3_tells_29 (by decide) ?_
      refine lv_istore (lv' := [(7, .int (nI 0)), (6, .int (nI (kindF on fw at9 x))), (5, .int (bI go)), (0, .ref o), (1, .int (nI k)), (2, .int (nI g)), (3, .int x), (4, .int (nI u))]) hx hb dX3_tells_30 hl (by decide) rfl (fun ls hl => ?_)
      have hl := lv_sub (l' := [(0, .ref o), (1, .int (nI k)), (2, .int (nI g)), (3, .int x), (4, .int (nI u)), (5, .int (bI go)), (6, .int (nI (kindF on fw at9 x))), (7, .int (nI 0))]) hl [3, 4, 5, 6, 7, 2, 1, 0] rfl
      refine (?_ : ∀ (n9b : Nat) (j : Nat) (s2 : Option Nat) (H : Heap) (locs : List Loc) (ls : Array Slot), j ≤ 4 → 4 < j + n9b → s2 = tr4 fm k at9 (kindF on fw at9 x) u j → va_P K.1 vwCl (mW K o ad f d pr (oI s2) (nI at9) la) H → va_D A (mW K o ad f d pr (oI s2) (nI at9) la) → va_S A s.heap H locs → lv_has ls 9 [(7, .int (nI j)), (6, .int (nI (kindF on fw at9 x))), (0, .ref o), (1, .int (nI k)), (2, .int (nI g)), (3, .int x), (4, .int (nI u))] → W p l e _ s m args below meth c H locs 0 0 _ (F0 m 32 ls [])) (4 + 1) 0 none _ _ ls (by omega) (by omega) rfl hP hD hS (lv_sub hl [7, 6, 0, 1, 2, 3, 4] rfl)
      clear hS hl hP hD
      intro n9b
      induction n9b with
      | zero => intro j s2 H locs ls hi9 hn9; exact absurd hn9 (by omega)
      | succ n9b ihb =>
        intro j s2 H locs ls hi9b hn9b hs2 hP hD hS hl
        refine lv_iload hx hb dX3_tells_32 (lv_at hl 0 rfl) ?_
        refine lv_iconst (v := nI 4) hx hb dX3_tells_34 (by decide) ?_
        refine m_icmp_ge (tgt := 107) hx hb (by omega) (by omega) dX3_tells_35 (by decide) (fun c_35 => ?_) (fun c_35 => ?_)
        · have hin : s2 = inLang fm k at9 (kindF on fw at9 x) u := by rw [hs2, show j = 4 by omega, tr4_in]
          refine lv_aload_n hx hb dX3_tells_107 rfl (lv_at hl 2 rfl) ?_
          refine va_get (D := K.1) (ci := 4) (v := .int (oI s2)) (C := RX3) (T := TX3) (N := 21) hx hb hts iX3 hown hE.k hP 0 rfl rfl 18 (by decide) f123 (fun _ h9 => h9) rfl dX3_tells_108 ?_
          refine lv_iconst (v := (-1)) hx hb dX3_tells_111 (by decide) ?_
          refine m_icmp_ne_o (tgt := 126) hx hb (fun z hz => Nat.lt_trans (tr4_lt hk9 hat hkd hu9 (hs2.symm.trans hz)).1 (by decide)) dX3_tells_112 (by decide) (fun k_112 c_112 => ?_) (fun c_112 => ?_)
          · refine lv_iconst (v := nI 0) hx hb dX3_tells_126 (by decide) ?_
            refine lv_istore (lv' := [(5, .int (nI 0)), (7, .int (nI j)), (6, .int (nI (kindF on fw at9 x))), (0, .ref o), (1, .int (nI k)), (2, .int (nI g)), (3, .int x), (4, .int (nI u))]) hx hb dX3_tells_127 hl (by decide) rfl (fun ls hl => ?_)
            refine lv_aload_n hx hb dX3_tells_129 rfl (lv_at hl 3 rfl) ?_
            refine lv_iload hx hb dX3_tells_130 (lv_at hl 0 rfl) ?_
            refine m_if_eq (tgt := 147) hx hb (by omega) dX3_tells_132 (by decide) (fun c_132 => ?_) (fun c_132 => ?_)
            · refine lv_aload_n hx hb dX3_tells_147 rfl (lv_at hl 3 rfl) ?_
              refine va_get (D := K.1) (ci := 4) (v := .int (nI at9)) (C := RX3) (T := TX3) (N := 21) hx hb hts iX3 hown hE.k hP 0 rfl rfl 19 (by decide) f126 (fun _ h9 => h9) rfl dX3_tells_148 ?_
              refine va_put (D := K.1) (ci := 4) (v := .int (nI at9)) (ty := .int) (C := RX3) (T := TX3) (N := 21) hx hb hts iX3 tyX3 tyX3_ok nmX3 hown hE.k hP hD hS 0 rfl rfl 19 (by decide) f126 (fun _ h9 => h9) rfl (by decide +kernel) rfl rfl (Nat.le_of_ble_eq_true rfl) dX3_tells_151 (fun H locs hP hD hS => ?_)
              have hP : va_P K.1 vwCl (mW K o ad f d pr (oI s2) (nI at9) la) H := hP
              have hD : va_D A (mW K o ad f d pr (oI s2) (nI at9) la) := hD
              refine lv_goto (tgt := 13) hx hb dX3_tells_154 (by decide) ?_
              exact iha (i + 1) at9 s2 false _ _ ls (by omega) (by omega) hat (fun z => by cases z) (fun _ => ⟨by rw [← hte, show 6 - i = (6 - (i + 1)) + 1 by omega, tellN, ← hin, c_112], fun s hs => (tr4_lt hk9 hat hkd hu9 (hs2.symm.trans hs)).2⟩) hP hD hS (lv_sub hl [0, 3, 4, 5, 6, 7] rfl)
            · exact absurd c_132 (by decide)
          · refine lv_aload_n hx hb dX3_tells_115 rfl (lv_at hl 2 rfl) ?_
            refine va_get (D := K.1) (ci := 4) (v := .int (nI at9)) (C := RX3) (T := TX3) (N := 21) hx hb hts iX3 hown hE.k hP 0 rfl rfl 19 (by decide) f126 (fun _ h9 => h9) rfl dX3_tells_116 ?_
            refine m_if_eq (tgt := 126) hx hb (by omega) dX3_tells_119 (by decide) (fun c_119 => ?_) (fun c_119 => ?_)
            · refine lv_iconst (v := nI 0) hx hb dX3_tells_126 (by decide) ?_
              refine lv_istore (lv' := [(5, .int (nI 0)), (7, .int (nI j)), (6, .int (nI (kindF on fw at9 x))), (0, .ref o), (1, .int (nI k)), (2, .int (nI g)), (3, .int x), (4, .int (nI u))]) hx hb dX3_tells_127 hl (by decide) rfl (fun ls hl => ?_)
              refine lv_aload_n hx hb dX3_tells_129 rfl (lv_at hl 3 rfl) ?_
              refine lv_iload hx hb dX3_tells_130 (lv_at hl 0 rfl) ?_
              refine m_if_eq (tgt := 147) hx hb (by omega) dX3_tells_132 (by decide) (fun c_132 => ?_) (fun c_132 => ?_)
              · refine lv_aload_n hx hb dX3_tells_147 rfl (lv_at hl 3 rfl) ?_
                refine va_get (D := K.1) (ci := 4) (v := .int (nI at9)) (C := RX3) (T := TX3) (N := 21) hx hb hts iX3 hown hE.k hP 0 rfl rfl 19 (by decide) f126 (fun _ h9 => h9) rfl dX3_tells_148 ?_
                refine va_put (D := K.1) (ci := 4) (v := .int (nI at9)) (ty := .int) (C := RX3) (T := TX3) (N := 21) hx hb hts iX3 tyX3 tyX3_ok nmX3 hown hE.k hP hD hS 0 rfl rfl 19 (by decide) f126 (fun _ h9 => h9) rfl (by decide +kernel) rfl rfl (Nat.le_of_ble_eq_true rfl) dX3_tells_151 (fun H locs hP hD hS => ?_)
                have hP : va_P K.1 vwCl (mW K o ad f d pr (oI s2) (nI at9) la) H := hP
                have hD : va_D A (mW K o ad f d pr (oI s2) (nI at9) la) := hD
                refine lv_goto (tgt := 13) hx hb dX3_tells_154 (by decide) ?_
                exact iha (i + 1) at9 s2 false _ _ ls (by omega) (by omega) hat (fun z => by cases z) (fun _ => ⟨by rw [← hte, show 6 - i = (6 - (i + 1)) + 1 by omega, tellN, ← hin, c_112]; exact (if_pos c_119).symm, fun s hs => (by rw [c_112] at hs; cases hs)⟩) hP hD hS (lv_sub hl [0, 3, 4, 5, 6, 7] rfl)
              · exact absurd c_132 (by decide)
            · refine lv_iconst (v := nI 1) hx hb dX3_tells_122 (by decide) ?_
              refine lv_goto (tgt := 127) hx hb dX3_tells_123 (by decide) ?_
              refine lv_istore (lv' := [(5, .int (nI 1)), (7, .int (nI j)), (6, .int (nI (kindF on fw at9 x))), (0, .ref o), (1, .int (nI k)), (2, .int (nI g)), (3, .int x), (4, .int (nI u))]) hx hb dX3_tells_127 hl (by decide) rfl (fun ls hl => ?_)
              refine lv_aload_n hx hb dX3_tells_129 rfl (lv_at hl 3 rfl) ?_
              refine lv_iload hx hb dX3_tells_130 (lv_at hl 0 rfl) ?_
              refine m_if_eq (tgt := 147) hx hb (by omega) dX3_tells_132 (by decide) (fun c_132 => ?_) (fun c_132 => ?_)
              · exact absurd c_132 (by decide)
              · refine lv_aload_n hx hb dX3_tells_135 rfl (lv_at hl 3 rfl) ?_
                refine va_get (D := K.1) (ci := 4) (v := .ref (ad 0)) (C := RX3) (T := TX3) (N := 21) hx hb hts iX3 hown hE.k hP 0 rfl rfl 0 (by decide) f7 (fun _ h9 => h9) rfl dX3_tells_136 ?_
                refine lv_aload_n hx hb dX3_tells_139 rfl (lv_at hl 3 rfl) ?_
                refine va_get (D := K.1) (ci := 4) (v := .int (nI at9)) (C := RX3) (T := TX3) (N := 21) hx hb hts iX3 hown hE.k hP 0 rfl rfl 19 (by decide) f126 (fun _ h9 => h9) rfl dX3_tells_140 ?_
                refine m_iald hx hb hE.k hP 1 rfl (by omega) (by omega) ((hfb _ (by omega)).1) dX3_tells_143 ?_
                refine lv_goto (tgt := 151) hx hb dX3_tells_144 (by decide) ?_
                refine va_put (D := K.1) (ci := 4) (v := .int (nI (fb at9))) (ty := .int) (C := RX3) (T := TX3) (N := 21) hx hb hts iX3 tyX3 tyX3_ok nmX3 hown hE.k hP hD hS 0 rfl rfl 19 (by decide) f126 (fun _ h9 => h9) rfl (by decide +kernel) rfl rfl (Nat.le_of_ble_eq_true rfl) dX3_tells_151 (fun H locs hP hD hS => ?_)
                have hP : va_P K.1 vwCl (mW K o ad f d pr (oI s2) (nI (fb at9)) la) H := hP
                have hD : va_D A (mW K o ad f d pr (oI s2) (nI (fb at9)) la) := hD
                refine lv_goto (tgt := 13) hx hb dX3_tells_154 (by decide) ?_
                exact iha (i + 1) (fb at9) s2 true _ _ ls (by omega) (by omega) ((hfb _ hat).2) (fun _ => ⟨c_112, by have := hRK at9 hat c_119; omega, by rw [← hte, show 6 - i = (6 - (i + 1)) + 1 by omega, tellN, ← hin, c_112]; exact (if_neg c_119).symm⟩) (fun z => by cases z) hP hD hS (lv_sub hl [0, 3, 4, 5, 6, 7] rfl)
        · refine lv_aload_n hx hb dX3_tells_38 rfl (lv_at hl 2 rfl) ?_
          refine va_get (D := K.1) (ci := 4) (v := .int (oI s2)) (C := RX3) (T := TX3) (N := 21) hx hb hts iX3 hown hE.k hP 0 rfl rfl 18 (by decide) f123 (fun _ h9 => h9) rfl dX3_tells_39 ?_
          refine lv_iconst (v := (-1)) hx hb dX3_tells_42 (by decide) ?_
          refine m_icmp_ne_o (tgt := 107) hx hb (fun z hz => Nat.lt_trans (tr4_lt hk9 hat hkd hu9 (hs2.symm.trans hz)).1 (by decide)) dX3_tells_43 (by decide) (fun k_43 c_43 => ?_) (fun c_43 => ?_)
          · have hin : s2 = inLang fm k at9 (kindF on fw at9 x) u := by rw [← tr4_in, c_43]; exact (tr4_up (by omega) (hs2.symm.trans c_43)).symm
            refine lv_aload_n hx hb dX3_tells_107 rfl (lv_at hl 2 rfl) ?_
            refine va_get (D := K.1) (ci := 4) (v := .int (oI s2)) (C := RX3) (T := TX3) (N := 21) hx hb hts iX3 hown hE.k hP 0 rfl rfl 18 (by decide) f123 (fun _ h9 => h9) rfl dX3_tells_108 ?_
            refine lv_iconst (v := (-1)) hx hb dX3_tells_111 (by decide) ?_
            refine m_icmp_ne_o (tgt := 126) hx hb (fun z hz => Nat.lt_trans (tr4_lt hk9 hat hkd hu9 (hs2.symm.trans hz)).1 (by decide)) dX3_tells_112 (by decide) (fun k_112 c_112 => ?_) (fun c_112 => ?_)
            · refine lv_iconst (v := nI 0) hx hb dX3_tells_126 (by decide) ?_
              refine lv_istore (lv' := [(5, .int (nI 0)), (7, .int (nI j)), (6, .int (nI (kindF on fw at9 x))), (0, .ref o), (1, .int (nI k)), (2, .int (nI g)), (3, .int x), (4, .int (nI u))]) hx hb dX3_tells_127 hl (by decide) rfl (fun ls hl => ?_)
              refine lv_aload_n hx hb dX3_tells_129 rfl (lv_at hl 3 rfl) ?_
              refine lv_iload hx hb dX3_tells_130 (lv_at hl 0 rfl) ?_
              refine m_if_eq (tgt := 147) hx hb (by omega) dX3_tells_132 (by decide) (fun c_132 => ?_) (fun c_132 => ?_)
              · refine lv_aload_n hx hb dX3_tells_147 rfl (lv_at hl 3 rfl) ?_
                refine va_get (D := K.1) (ci := 4) (v := .int (nI at9)) (C := RX3) (T := TX3) (N := 21) hx hb hts iX3 hown hE.k hP 0 rfl rfl 19 (by decide) f126 (fun _ h9 => h9) rfl dX3_tells_148 ?_
                refine va_put (D := K.1) (ci := 4) (v := .int (nI at9)) (ty := .int) (C := RX3) (T := TX3) (N := 21) hx hb hts iX3 tyX3 tyX3_ok nmX3 hown hE.k hP hD hS 0 rfl rfl 19 (by decide) f126 (fun _ h9 => h9) rfl (by decide +kernel) rfl rfl (Nat.le_of_ble_eq_true rfl) dX3_tells_151 (fun H locs hP hD hS => ?_)
                have hP : va_P K.1 vwCl (mW K o ad f d pr (oI s2) (nI at9) la) H := hP
                have hD : va_D A (mW K o ad f d pr (oI s2) (nI at9) la) := hD
                refine lv_goto (tgt := 13) hx hb dX3_tells_154 (by decide) ?_
                exact iha (i + 1) at9 s2 false _ _ ls (by omega) (by omega) hat (fun z => by cases z) (fun _ => ⟨by rw [← hte, show 6 - i = (6 - (i + 1)) + 1 by omega, tellN, ← hin, c_112], fun s hs => (tr4_lt hk9 hat hkd hu9 (hs2.symm.trans hs)).2⟩) hP hD hS (lv_sub hl [0, 3, 4, 5, 6, 7] rfl)
              · exact absurd c_132 (by decide)
            · rw [c_112] at c_43
              cases c_43
          · refine lv_iload_n hx hb dX3_tells_46 rfl (lv_at hl 3 rfl) ?_
            refine lv_aload_n hx hb dX3_tells_47 rfl (lv_at hl 2 rfl) ?_
            refine va_get (D := K.1) (ci := 4) (v := .int (nI at9)) (C := RX3) (T := TX3) (N := 21) hx hb hts iX3 hown hE.k hP 0 rfl rfl 19 (by decide) f126 (fun _ h9 => h9) rfl dX3_tells_48 ?_
            refine lv_iload hx hb dX3_tells_51 (lv_at hl 0 rfl) ?_
            refine lv_iconst (v := nI 2) hx hb dX3_tells_53 (by decide) ?_
            refine m_icmp_ge (tgt := 62) hx hb (by omega) (by omega) dX3_tells_54 (by decide) (fun c_54 => ?_) (fun c_54 => ?_)
            · refine lv_iconst (v := nI 2) hx hb dX3_tells_62 (by decide) ?_
              refine lv_iload hx hb dX3_tells_63 (lv_at hl 0 rfl) ?_
              refine lv_iconst (v := nI 2) hx hb dX3_tells_65 (by decide) ?_
              refine m_irem hx hb (by omega) (by omega) (by omega) dX3_tells_66 ?_
              refine m_if_ne (tgt := 75) hx hb (by omega) dX3_tells_67 (by decide) (fun c_67 => ?_) (fun c_67 => ?_)
              · refine lv_iconst (v := nI 0) hx hb dX3_tells_75 (by decide) ?_
                refine m_cSi (rest := []) ⟨hx, hb, hml, hown, hts⟩ hE hS (fun _ h => h) (kX3_at l K A _ k at9 2 0) (va_cwS 4 hts gX3_tells_X3_at rfl rfl rfl (by decide +kernel) ⟨Nat.le_of_ble_eq_true rfl, Nat.le_of_ble_eq_true rfl⟩) rfl rfl hl.1 rfl (Nat.le_of_ble_eq_true rfl) dX3_tells_76 ⟨Nat.le_of_ble_eq_true rfl, Nat.le_of_ble_eq_true rfl⟩ (fun r H1 locs hp hS hk => ?_)
                obtain ⟨rfl, rfl⟩ := hp
                have hs4 : slot4 k at9 (kindF on fw at9 x) u j = 54 * k + 9 * at9 + 3 * 2 + 0 := by unfold slot4; rw [if_neg (by omega), if_neg c_67]
                have hsl := (slot4_lt (k := k) (g := at9) (i := (kindF on fw at9 x)) (u := u) j hk9 hat hkd hu9).1
                rw [hs4] at hsl
                refine lv_istore (lv' := [(8, .int (nI (54 * k + 9 * at9 + 3 * 2 + 0))), (7, .int (nI j)), (6, .int (nI (kindF on fw at9 x))), (0, .ref o), (1, .int (nI k)), (2, .int (nI g)), (3, .int x), (4, .int (nI u))]) hx hb dX3_tells_79 hl (by decide) rfl (fun ls hl => ?_)
                refine lv_aload_n hx hb dX3_tells_81 rfl (lv_at hl 3 rfl) ?_
                refine lv_aload_n hx hb dX3_tells_82 rfl (lv_at hl 3 rfl) ?_
                refine lv_iload_n hx hb dX3_tells_83 rfl (lv_at hl 4 rfl) ?_
                refine lv_iload hx hb dX3_tells_84 (lv_at hl 0 rfl) ?_
                refine m_cVi (rest := [.ref o]) ⟨hx, hb, hml, hown, hts⟩ hE hS (fun _ h => h) (kX3_isFit l K A _ o ad f d pr (oI s2) (nI at9) la hP fm hfm k (54 * k + 9 * at9 + 3 * 2 + 0) hk9 hsl) (cwV 2 hts gX3_tells_X3_isFit rfl rfl rfl (by decide +kernel) ⟨Nat.le_of_ble_eq_true rfl, Nat.le_of_ble_eq_true rfl⟩) (va_recv hE.k hP (ci := 4) (q0 := 0) rfl rfl) rfl rfl hl.1 rfl (Nat.le_of_ble_eq_true rfl) dX3_tells_86 ⟨Nat.le_of_ble_eq_true rfl, Nat.le_of_ble_eq_true rfl⟩ (fun r H1 locs hp hS hk => ?_)
                obtain ⟨rfl, rfl⟩ := hp
                refine m_if_eq_b (tgt := 97) hx hb dX3_tells_89 (by decide) (fun c_89 => ?_) (fun c_89 => ?_)
                · refine lv_iconst (v := (-1)) hx hb dX3_tells_97 (by decide) ?_
                  refine va_put (D := K.1) (ci := 4) (v := .int (-1)) (ty := .int) (C := RX3) (T := TX3) (N := 21) hx hb hts iX3 tyX3 tyX3_ok nmX3 hown hE.k hP hD hS 0 rfl rfl 18 (by decide) f123 (fun _ h9 => h9) rfl (by decide +kernel) rfl rfl (Nat.le_of_ble_eq_true rfl) dX3_tells_98 (fun H locs hP hD hS => ?_)
                  have hP : va_P K.1 vwCl (mW K o ad f d pr (-1) (nI at9) la) H := hP
                  have hD : va_D A (mW K o ad f d pr (-1) (nI at9) la) := hD
                  refine lv_iinc (v := nI (j + 1)) (lv' := [(7, .int (nI (j + 1))), (8, .int (nI (54 * k + 9 * at9 + 3 * 2 + 0))), (6, .int (nI (kindF on fw at9 x))), (0, .ref o), (1, .int (nI k)), (2, .int (nI g)), (3, .int x), (4, .int (nI u))]) hx hb dX3_tells_101 hl (k := 1) rfl (m_inc _) (by decide) rfl (fun ls hl => ?_)
                  refine lv_goto (tgt := 32) hx hb dX3_tells_104 (by decide) ?_
                  exact ihb (j + 1) none _ _ ls (by omega) (by omega) (tr4_n (hs2.symm.trans c_43) hs4 c_89) hP hD hS (lv_sub hl [0, 2, 3, 4, 5, 6, 7] rfl)
                · refine lv_iload hx hb dX3_tells_92 (lv_at hl 0 rfl) ?_
                  refine lv_goto (tgt := 98) hx hb dX3_tells_94 (by decide) ?_
                  refine va_put (D := K.1) (ci := 4) (v := .int (nI (54 * k + 9 * at9 + 3 * 2 + 0))) (ty := .int) (C := RX3) (T := TX3) (N := 21) hx hb hts iX3 tyX3 tyX3_ok nmX3 hown hE.k hP hD hS 0 rfl rfl 18 (by decide) f123 (fun _ h9 => h9) rfl (by decide +kernel) rfl rfl (Nat.le_of_ble_eq_true rfl) dX3_tells_98 (fun H locs hP hD hS => ?_)
                  have hP : va_P K.1 vwCl (mW K o ad f d pr (nI (54 * k + 9 * at9 + 3 * 2 + 0)) (nI at9) la) H := hP
                  have hD : va_D A (mW K o ad f d pr (nI (54 * k + 9 * at9 + 3 * 2 + 0)) (nI at9) la) := hD
                  refine lv_iinc (v := nI (j + 1)) (lv' := [(7, .int (nI (j + 1))), (8, .int (nI (54 * k + 9 * at9 + 3 * 2 + 0))), (6, .int (nI (kindF on fw at9 x))), (0, .ref o), (1, .int (nI k)), (2, .int (nI g)), (3, .int x), (4, .int (nI u))]) hx hb dX3_tells_101 hl (k := 1) rfl (m_inc _) (by decide) rfl (fun ls hl => ?_)
                  refine lv_goto (tgt := 32) hx hb dX3_tells_104 (by decide) ?_
                  exact ihb (j + 1) (some (54 * k + 9 * at9 + 3 * 2 + 0)) _ _ ls (by omega) (by omega) (tr4_y (hs2.symm.trans c_43) hs4 c_89) hP hD hS (lv_sub hl [0, 2, 3, 4, 5, 6, 7] rfl)
              · refine lv_iload hx hb dX3_tells_70 (lv_at hl 6 rfl) ?_
                refine lv_goto (tgt := 76) hx hb dX3_tells_72 (by decide) ?_
                refine m_cSi (rest := []) ⟨hx, hb, hml, hown, hts⟩ hE hS (fun _ h => h) (kX3_at l K A _ k at9 2 u) (va_cwS 4 hts gX3_tells_X3_at rfl rfl rfl (by decide +kernel) ⟨Nat.le_of_ble_eq_true rfl, Nat.le_of_ble_eq_true rfl⟩) rfl rfl hl.1 rfl (Nat.le_of_ble_eq_true rfl) dX3_tells_76 ⟨Nat.le_of_ble_eq_true rfl, Nat.le_of_ble_eq_true rfl⟩ (fun r H1 locs hp hS hk => ?_)
                obtain ⟨rfl, rfl⟩ := hp
                have hs4 : slot4 k at9 (kindF on fw at9 x) u j = 54 * k + 9 * at9 + 3 * 2 + u := by unfold slot4; rw [if_neg (by omega), if_pos c_67]
                have hsl := (slot4_lt (k := k) (g := at9) (i := (kindF on fw at9 x)) (u := u) j hk9 hat hkd hu9).1
                rw [hs4] at hsl
                refine lv_istore (lv' := [(8, .int (nI (54 * k + 9 * at9 + 3 * 2 + u))), (7, .int (nI j)), (6, .int (nI (kindF on fw at9 x))), (0, .ref o), (1, .int (nI k)), (2, .int (nI g)), (3, .int x), (4, .int (nI u))]) hx hb dX3_tells_79 hl (by decide) rfl (fun ls hl => ?_)
                refine lv_aload_n hx hb dX3_tells_81 rfl (lv_at hl 3 rfl) ?_
                refine lv_aload_n hx hb dX3_tells_82 rfl (lv_at hl 3 rfl) ?_
                refine lv_iload_n hx hb dX3_tells_83 rfl (lv_at hl 4 rfl) ?_
                refine lv_iload hx hb dX3_tells_84 (lv_at hl 0 rfl) ?_
                refine m_cVi (rest := [.ref o]) ⟨hx, hb, hml, hown, hts⟩ hE hS (fun _ h => h) (kX3_isFit l K A _ o ad f d pr (oI s2) (nI at9) la hP fm hfm k (54 * k + 9 * at9 + 3 * 2 + u) hk9 hsl) (cwV 2 hts gX3_tells_X3_isFit rfl rfl rfl (by decide +kernel) ⟨Nat.le_of_ble_eq_true rfl, Nat.le_of_ble_eq_true rfl⟩) (va_recv hE.k hP (ci := 4) (q0 := 0) rfl rfl) rfl rfl hl.1 rfl (Nat.le_of_ble_eq_true rfl) dX3_tells_86 ⟨Nat.le_of_ble_eq_true rfl, Nat.le_of_ble_eq_true rfl⟩ (fun r H1 locs hp hS hk => ?_)
                obtain ⟨rfl, rfl⟩ := hp
                refine m_if_eq_b (tgt := 97) hx hb dX3_tells_89 (by decide) (fun c_89 => ?_) (fun c_89 => ?_)
                · refine lv_iconst (v := (-1)) hx hb dX3_tells_97 (by decide) ?_
                  refine va_put (D := K.1) (ci := 4) (v := .int (-1)) (ty := .int) (C := RX3) (T := TX3) (N := 21) hx hb hts iX3 tyX3 tyX3_ok nmX3 hown hE.k hP hD hS 0 rfl rfl 18 (by decide) f123 (fun _ h9 => h9) rfl (by decide +kernel) rfl rfl (Nat.le_of_ble_eq_true rfl) dX3_tells_98 (fun H locs hP hD hS => ?_)
                  have hP : va_P K.1 vwCl (mW K o ad f d pr (-1) (nI at9) la) H := hP
                  have hD : va_D A (mW K o ad f d pr (-1) (nI at9) la) := hD
                  refine lv_iinc (v := nI (j + 1)) (lv' := [(7, .int (nI (j + 1))), (8, .int (nI (54 * k + 9 * at9 + 3 * 2 + u))), (6, .int (nI (kindF on fw at9 x))), (0, .ref o), (1, .int (nI k)), (2, .int (nI g)), (3, .int x), (4, .int (nI u))]) hx hb dX3_tells_101 hl (k := 1) rfl (m_inc _) (by decide) rfl (fun ls hl => ?_)
                  refine lv_goto (tgt := 32) hx hb dX3_tells_104 (by decide) ?_
                  exact ihb (j + 1) none _ _ ls (by omega) (by omega) (tr4_n (hs2.symm.trans c_43) hs4 c_89) hP hD hS (lv_sub hl [0, 2, 3, 4, 5, 6, 7] rfl)
                · refine lv_iload hx hb dX3_tells_92 (lv_at hl 0 rfl) ?_
                  refine lv_goto (tgt := 98) hx hb dX3_tells_94 (by decide) ?_
                  refine va_put (D := K.1) (ci := 4) (v := .int (nI (54 * k + 9 * at9 + 3 * 2 + u))) (ty := .int) (C := RX3) (T := TX3) (N := 21) hx hb hts iX3 tyX3 tyX3_ok nmX3 hown hE.k hP hD hS 0 rfl rfl 18 (by decide) f123 (fun _ h9 => h9) rfl (by decide +kernel) rfl rfl (Nat.le_of_ble_eq_true rfl) dX3_tells_98 (fun H locs hP hD hS => ?_)
                  have hP : va_P K.1 vwCl (mW K o ad f d pr (nI (54 * k + 9 * at9 + 3 * 2 + u)) (nI at9) la) H := hP
                  have hD : va_D A (mW K o ad f d pr (nI (54 * k + 9 * at9 + 3 * 2 + u)) (nI at9) la) := hD
                  refine lv_iinc (v := nI (j + 1)) (lv' := [(7, .int (nI (j + 1))), (8, .int (nI (54 * k + 9 * at9 + 3 * 2 + u))), (6, .int (nI (kindF on fw at9 x))), (0, .ref o), (1, .int (nI k)), (2, .int (nI g)), (3, .int x), (4, .int (nI u))]) hx hb dX3_tells_101 hl (k := 1) rfl (m_inc _) (by decide) rfl (fun ls hl => ?_)
                  refine lv_goto (tgt := 32) hx hb dX3_tells_104 (by decide) ?_
                  exact ihb (j + 1) (some (54 * k + 9 * at9 + 3 * 2 + u)) _ _ ls (by omega) (by omega) (tr4_y (hs2.symm.trans c_43) hs4 c_89) hP hD hS (lv_sub hl [0, 2, 3, 4, 5, 6, 7] rfl)
            · refine lv_iload hx hb dX3_tells_57 (lv_at hl 1 rfl) ?_
              refine lv_goto (tgt := 63) hx hb dX3_tells_59 (by decide) ?_
              refine lv_iload hx hb dX3_tells_63 (lv_at hl 0 rfl) ?_
              refine lv_iconst (v := nI 2) hx hb dX3_tells_65 (by decide) ?_
              refine m_irem hx hb (by omega) (by omega) (by omega) dX3_tells_66 ?_
              refine m_if_ne (tgt := 75) hx hb (by omega) dX3_tells_67 (by decide) (fun c_67 => ?_) (fun c_67 => ?_)
              · refine lv_iconst (v := nI 0) hx hb dX3_tells_75 (by decide) ?_
                refine m_cSi (rest := []) ⟨hx, hb, hml, hown, hts⟩ hE hS (fun _ h => h) (kX3_at l K A _ k at9 (kindF on fw at9 x) 0) (va_cwS 4 hts gX3_tells_X3_at rfl rfl rfl (by decide +kernel) ⟨Nat.le_of_ble_eq_true rfl, Nat.le_of_ble_eq_true rfl⟩) rfl rfl hl.1 rfl (Nat.le_of_ble_eq_true rfl) dX3_tells_76 ⟨Nat.le_of_ble_eq_true rfl, Nat.le_of_ble_eq_true rfl⟩ (fun r H1 locs hp hS hk => ?_)
                obtain ⟨rfl, rfl⟩ := hp
                have hs4 : slot4 k at9 (kindF on fw at9 x) u j = 54 * k + 9 * at9 + 3 * (kindF on fw at9 x) + 0 := by unfold slot4; rw [if_pos (by omega), if_neg c_67]
                have hsl := (slot4_lt (k := k) (g := at9) (i := (kindF on fw at9 x)) (u := u) j hk9 hat hkd hu9).1
                rw [hs4] at hsl
                refine lv_istore (lv' := [(8, .int (nI (54 * k + 9 * at9 + 3 * (kindF on fw at9 x) + 0))), (7, .int (nI j)), (6, .int (nI (kindF on fw at9 x))), (0, .ref o), (1, .int (nI k)), (2, .int (nI g)), (3, .int x), (4, .int (nI u))]) hx hb dX3_tells_79 hl (by decide) rfl (fun ls hl => ?_)
                refine lv_aload_n hx hb dX3_tells_81 rfl (lv_at hl 3 rfl) ?_
                refine lv_aload_n hx hb dX3_tells_82 rfl (lv_at hl 3 rfl) ?_
                refine lv_iload_n hx hb dX3_tells_83 rfl (lv_at hl 4 rfl) ?_
                refine lv_iload hx hb dX3_tells_84 (lv_at hl 0 rfl) ?_
                refine m_cVi (rest := [.ref o]) ⟨hx, hb, hml, hown, hts⟩ hE hS (fun _ h => h) (kX3_isFit l K A _ o ad f d pr (oI s2) (nI at9) la hP fm hfm k (54 * k + 9 * at9 + 3 * (kindF on fw at9 x) + 0) hk9 hsl) (cwV 2 hts gX3_tells_X3_isFit rfl rfl rfl (by decide +kernel) ⟨Nat.le_of_ble_eq_true rfl, Nat.le_of_ble_eq_true rfl⟩) (va_recv hE.k hP (ci := 4) (q0 := 0) rfl rfl) rfl rfl hl.1 rfl (Nat.le_of_ble_eq_true rfl) dX3_tells_86 ⟨Nat.le_of_ble_eq_true rfl, Nat.le_of_ble_eq_true rfl⟩ (fun r H1 locs hp hS hk => ?_)
                obtain ⟨rfl, rfl⟩ := hp
                refine m_if_eq_b (tgt := 97) hx hb dX3_tells_89 (by decide) (fun c_89 => ?_) (fun c_89 => ?_)
                · refine lv_iconst (v := (-1)) hx hb dX3_tells_97 (by decide) ?_
                  refine va_put (D := K.1) (ci := 4) (v := .int (-1)) (ty := .int) (C := RX3) (T := TX3) (N := 21) hx hb hts iX3 tyX3 tyX3_ok nmX3 hown hE.k hP hD hS 0 rfl rfl 18 (by decide) f123 (fun _ h9 => h9) rfl (by decide +kernel) rfl rfl (Nat.le_of_ble_eq_true rfl) dX3_tells_98 (fun H locs hP hD hS => ?_)
                  have hP : va_P K.1 vwCl (mW K o ad f d pr (-1) (nI at9) la) H := hP
                  have hD : va_D A (mW K o ad f d pr (-1) (nI at9) la) := hD
                  refine lv_iinc (v := nI (j + 1)) (lv' := [(7, .int (nI (j + 1))), (8, .int (nI (54 * k + 9 * at9 + 3 * (kindF on fw at9 x) + 0))), (6, .int (nI (kindF on fw at9 x))), (0, .ref o), (1, .int (nI k)), (2, .int (nI g)), (3, .int x), (4, .int (nI u))]) hx hb dX3_tells_101 hl (k := 1) rfl (m_inc _) (by decide) rfl (fun ls hl => ?_)
                  refine lv_goto (tgt := 32) hx hb dX3_tells_104 (by decide) ?_
                  exact ihb (j + 1) none _ _ ls (by omega) (by omega) (tr4_n (hs2.symm.trans c_43) hs4 c_89) hP hD hS (lv_sub hl [0, 2, 3, 4, 5, 6, 7] rfl)
                · refine lv_iload hx hb dX3_tells_92 (lv_at hl 0 rfl) ?_
                  refine lv_goto (tgt := 98) hx hb dX3_tells_94 (by decide) ?_
                  refine va_put (D := K.1) (ci := 4) (v := .int (nI (54 * k + 9 * at9 + 3 * (kindF on fw at9 x) + 0))) (ty := .int) (C := RX3) (T := TX3) (N := 21) hx hb hts iX3 tyX3 tyX3_ok nmX3 hown hE.k hP hD hS 0 rfl rfl 18 (by decide) f123 (fun _ h9 => h9) rfl (by decide +kernel) rfl rfl (Nat.le_of_ble_eq_true rfl) dX3_tells_98 (fun H locs hP hD hS => ?_)
                  have hP : va_P K.1 vwCl (mW K o ad f d pr (nI (54 * k + 9 * at9 + 3 * (kindF on fw at9 x) + 0)) (nI at9) la) H := hP
                  have hD : va_D A (mW K o ad f d pr (nI (54 * k + 9 * at9 + 3 * (kindF on fw at9 x) + 0)) (nI at9) la) := hD
                  refine lv_iinc (v := nI (j + 1)) (lv' := [(7, .int (nI (j + 1))), (8, .int (nI (54 * k + 9 * at9 + 3 * (kindF on fw at9 x) + 0))), (6, .int (nI (kindF on fw at9 x))), (0, .ref o), (1, .int (nI k)), (2, .int (nI g)), (3, .int x), (4, .int (nI u))]) hx hb dX3_tells_101 hl (k := 1) rfl (m_inc _) (by decide) rfl (fun ls hl => ?_)
                  refine lv_goto (tgt := 32) hx hb dX3_tells_104 (by decide) ?_
                  exact ihb (j + 1) (some (54 * k + 9 * at9 + 3 * (kindF on fw at9 x) + 0)) _ _ ls (by omega) (by omega) (tr4_y (hs2.symm.trans c_43) hs4 c_89) hP hD hS (lv_sub hl [0, 2, 3, 4, 5, 6, 7] rfl)
              · refine lv_iload hx hb dX3_tells_70 (lv_at hl 6 rfl) ?_
                refine lv_goto (tgt := 76) hx hb dX3_tells_72 (by decide) ?_
                refine m_cSi (rest := []) ⟨hx, hb, hml, hown, hts⟩ hE hS (fun _ h => h) (kX3_at l K A _ k at9 (kindF on fw at9 x) u) (va_cwS 4 hts gX3_tells_X3_at rfl rfl rfl (by decide +kernel) ⟨Nat.le_of_ble_eq_true rfl, Nat.le_of_ble_eq_true rfl⟩) rfl rfl hl.1 rfl (Nat.le_of_ble_eq_true rfl) dX3_tells_76 ⟨Nat.le_of_ble_eq_true rfl, Nat.le_of_ble_eq_true rfl⟩ (fun r H1 locs hp hS hk => ?_)
                obtain ⟨rfl, rfl⟩ := hp
                have hs4 : slot4 k at9 (kindF on fw at9 x) u j = 54 * k + 9 * at9 + 3 * (kindF on fw at9 x) + u := by unfold slot4; rw [if_pos (by omega), if_pos c_67]
                have hsl := (slot4_lt (k := k) (g := at9) (i := (kindF on fw at9 x)) (u := u) j hk9 hat hkd hu9).1
                rw [hs4] at hsl
                refine lv_istore (lv' := [(8, .int (nI (54 * k + 9 * at9 + 3 * (kindF on fw at9 x) + u))), (7, .int (nI j)), (6, .int (nI (kindF on fw at9 x))), (0, .ref o), (1, .int (nI k)), (2, .int (nI g)), (3, .int x), (4, .int (nI u))]) hx hb dX3_tells_79 hl (by decide) rfl (fun ls hl => ?_)
                refine lv_aload_n hx hb dX3_tells_81 rfl (lv_at hl 3 rfl) ?_
                refine lv_aload_n hx hb dX3_tells_82 rfl (lv_at hl 3 rfl) ?_
                refine lv_iload_n hx hb dX3_tells_83 rfl (lv_at hl 4 rfl) ?_
                refine lv_iload hx hb dX3_tells_84 (lv_at hl 0 rfl) ?_
                refine m_cVi (rest := [.ref o]) ⟨hx, hb, hml, hown, hts⟩ hE hS (fun _ h => h) (kX3_isFit l K A _ o ad f d pr (oI s2) (nI at9) la hP fm hfm k (54 * k + 9 * at9 + 3 * (kindF on fw at9 x) + u) hk9 hsl) (cwV 2 hts gX3_tells_X3_isFit rfl rfl rfl (by decide +kernel) ⟨Nat.le_of_ble_eq_true rfl, Nat.le_of_ble_eq_true rfl⟩) (va_recv hE.k hP (ci := 4) (q0 := 0) rfl rfl) rfl rfl hl.1 rfl (Nat.le_of_ble_eq_true rfl) dX3_tells_86 ⟨Nat.le_of_ble_eq_true rfl, Nat.le_of_ble_eq_true rfl⟩ (fun r H1 locs hp hS hk => ?_)
                obtain ⟨rfl, rfl⟩ := hp
                refine m_if_eq_b (tgt := 97) hx hb dX3_tells_89 (by decide) (fun c_89 => ?_) (fun c_89 => ?_)
                · refine lv_iconst (v := (-1)) hx hb dX3_tells_97 (by decide) ?_
                  refine va_put (D := K.1) (ci := 4) (v := .int (-1)) (ty := .int) (C := RX3) (T := TX3) (N := 21) hx hb hts iX3 tyX3 tyX3_ok nmX3 hown hE.k hP hD hS 0 rfl rfl 18 (by decide) f123 (fun _ h9 => h9) rfl (by decide +kernel) rfl rfl (Nat.le_of_ble_eq_true rfl) dX3_tells_98 (fun H locs hP hD hS => ?_)
                  have hP : va_P K.1 vwCl (mW K o ad f d pr (-1) (nI at9) la) H := hP
                  have hD : va_D A (mW K o ad f d pr (-1) (nI at9) la) := hD
                  refine lv_iinc (v := nI (j + 1)) (lv' := [(7, .int (nI (j + 1))), (8, .int (nI (54 * k + 9 * at9 + 3 * (kindF on fw at9 x) + u))), (6, .int (nI (kindF on fw at9 x))), (0, .ref o), (1, .int (nI k)), (2, .int (nI g)), (3, .int x), (4, .int (nI u))]) hx hb dX3_tells_101 hl (k := 1) rfl (m_inc _) (by decide) rfl (fun ls hl => ?_)
                  refine lv_goto (tgt := 32) hx hb dX3_tells_104 (by decide) ?_
                  exact ihb (j + 1) none _ _ ls (by omega) (by omega) (tr4_n (hs2.symm.trans c_43) hs4 c_89) hP hD hS (lv_sub hl [0, 2, 3, 4, 5, 6, 7] rfl)
                · refine lv_iload hx hb dX3_tells_92 (lv_at hl 0 rfl) ?_
                  refine lv_goto (tgt := 98) hx hb dX3_tells_94 (by decide) ?_
                  refine va_put (D := K.1) (ci := 4) (v := .int (nI (54 * k + 9 * at9 + 3 * (kindF on fw at9 x) + u))) (ty := .int) (C := RX3) (T := TX3) (N := 21) hx hb hts iX3 tyX3 tyX3_ok nmX3 hown hE.k hP hD hS 0 rfl rfl 18 (by decide) f123 (fun _ h9 => h9) rfl (by decide +kernel) rfl rfl (Nat.le_of_ble_eq_true rfl) dX3_tells_98 (fun H locs hP hD hS => ?_)
                  have hP : va_P K.1 vwCl (mW K o ad f d pr (nI (54 * k + 9 * at9 + 3 * (kindF on fw at9 x) + u)) (nI at9) la) H := hP
                  have hD : va_D A (mW K o ad f d pr (nI (54 * k + 9 * at9 + 3 * (kindF on fw at9 x) + u)) (nI at9) la) := hD
                  refine lv_iinc (v := nI (j + 1)) (lv' := [(7, .int (nI (j + 1))), (8, .int (nI (54 * k + 9 * at9 + 3 * (kindF on fw at9 x) + u))), (6, .int (nI (kindF on fw at9 x))), (0, .ref o), (1, .int (nI k)), (2, .int (nI g)), (3, .int x), (4, .int (nI u))]) hx hb dX3_tells_101 hl (k := 1) rfl (m_inc _) (by decide) rfl (fun ls hl => ?_)
                  refine lv_goto (tgt := 32) hx hb dX3_tells_104 (by decide) ?_
                  exact ihb (j + 1) (some (54 * k + 9 * at9 + 3 * (kindF on fw at9 x) + u)) _ _ ls (by omega) (by omega) (tr4_y (hs2.symm.trans c_43) hs4 c_89) hP hD hS (lv_sub hl [0, 2, 3, 4, 5, 6, 7] rfl)
