
/-- the first k places have moved down by s -/
def SH (g0 g : Nat → Int32) (k s : Nat) : Prop := (∀ t, t < k → g t = g0 (t + s)) ∧ ∀ t, k ≤ t → g t = g0 t
theorem SH.zero (g : Nat → Int32) (s : Nat) : SH g g 0 s := ⟨fun t ht => absurd ht (Nat.not_lt_zero t), fun _ _ => rfl⟩
theorem SH.up {g0 g : Nat → Int32} {k s : Nat} (h : SH g0 g k s) : SH g0 (upd g k (g (k + s))) (k + 1) s := by
  refine ⟨fun t ht => ?_, fun t ht => ?_⟩
  · unfold upd
    split
    · rename_i e
      rw [e]
      exact h.2 _ (by omega)
    · exact h.1 t (by omega)
  · unfold upd
    rw [if_neg (by omega)]
    exact h.2 t (by omega)

set_option maxHeartbeats 4000000 in
set_option maxRecDepth 100000 in
theorem kX3_forgets (l : Launch) (K : m_K) (A : Nat → Prop) (H0 : Heap) (o : Nat) (ad : Nat → Nat) (f : Nat → Nat → Int32) (d ta ti la : Int32) (n : Nat) (hn1 : 1 ≤ n) (hn20 : n ≤ 20) (hP : va_P K.1 vwCl (mW K o ad f d (nI n) ta ti la) H0) (hD : va_D A (mW K o ad f d (nI n) ta ti la)) : Met l yX3_forgets wsX3_forgets ({ frames := 0, cells := 0, slots := 0, locals := 0 } : Room) (m_Pc K A H0 [.ref o]) (va_Qv (fun H1 => ∃ g10 g11 g12 g13 g14, va_P K.1 vwCl (mW K o ad (va_up (va_up (va_up (va_up (va_up f 10 g10) 11 g11) 12 g12) 13 g13) 14 g14) d (nI (n - 1)) ta ti la) H1 ∧ va_D A (mW K o ad (va_up (va_up (va_up (va_up (va_up f 10 g10) 11 g11) 12 g12) 13 g13) 14 g14) d (nI (n - 1)) ta ti la) ∧ (∀ t, t + 1 < n → g10 t = f 10 (t + 1) ∧ g11 t = f 11 (t + 1) ∧ g12 t = f 12 (t + 1)) ∧ ∀ t, t + 8 < 8 * n → g13 t = f 13 (t + 8) ∧ g14 t = f 14 (t + 8)) m_B A) 0 0 A := by
  refine m_ofW (by decide) rfl (Nat.le_of_ble_eq_true rfl) ?_
  intro p e s m args below meth c ls hx hb hr hml hown hts hlk hnm hE hsz hS hl
  have hl : lv_has ls 2 [(0, .ref o)] := hl
  have iX3 : ∀ w ∈ wsX30, w ∈ wsX3_forgets := by decide +kernel
  have f88 := hts (.fieldLink RX3 88 "PhraseCatalogueModel" "pairs" "I") (by decide +kernel)
  have f47 := hts (.fieldLink RX3 47 "PhraseCatalogueModel" "olds" "[I") (by decide +kernel)
  have f50 := hts (.fieldLink RX3 50 "PhraseCatalogueModel" "news" "[I") (by decide +kernel)
  have f38 := hts (.fieldLink RX3 38 "PhraseCatalogueModel" "pairLanguages" "[I") (by decide +kernel)
  have f41 := hts (.fieldLink RX3 41 "PhraseCatalogueModel" "oldLengths" "[I") (by decide +kernel)
  have f44 := hts (.fieldLink RX3 44 "PhraseCatalogueModel" "newLengths" "[I") (by decide +kernel)
  refine lv_iconst (v := nI 0) hx hb dX3_forgets_0 (by decide) ?_
  refine lv_istore_n (lv' := [(1, .int (nI 0)), (0, .ref o)]) hx hb dX3_forgets_1 rfl hl (by decide) rfl (fun ls hl => ?_)
  refine (?_ : ∀ (n9a : Nat) (k : Nat) (g10 : Nat → Int32) (g11 : Nat → Int32) (g12 : Nat → Int32) (H : Heap) (locs : List Loc) (ls : Array Slot), k ≤ n - 1 → n - 1 < k + n9a → SH (f 10) g10 k 1 → SH (f 11) g11 k 1 → SH (f 12) g12 k 1 → va_P K.1 vwCl (mW K o ad (va_up (va_up (va_up f 10 g10) 11 g11) 12 g12) d (nI n) ta ti la) H → va_D A (mW K o ad (va_up (va_up (va_up f 10 g10) 11 g11) 12 g12) d (nI n) ta ti la) → va_S A s.heap H locs → lv_has ls 2 [(1, .int (nI k)), (0, .ref o)] → W p l e _ s m args below meth c H locs 0 0 _ (F0 m 2 ls [])) (n - 1 + 1) 0 (f 10) (f 11) (f 12) _ _ ls (by omega) (by omega) (SH.zero _ _) (SH.zero _ _) (SH.zero _ _) hP hD hS (lv_sub hl [0, 1] rfl)
  clear hS hl hP hD
  intro n9a
  induction n9a with
  | zero => intro k g10 g11 g12 H locs ls hi9 hn9; exact absurd hn9 (by omega)
  | succ n9a iha =>
    intro k g10 g11 g12 H locs ls hi9a hn9a hs10 hs11 hs12 hP hD hS hl
    refine lv_iload_n hx hb dX3_forgets_2 rfl (lv_at hl 0 rfl) ?_
    refine lv_iconst (v := nI 1) hx hb dX3_forgets_3 (by decide) ?_
    refine m_iadd hx hb dX3_forgets_4 ?_
    refine lv_aload_n hx hb dX3_forgets_5 rfl (lv_at hl 1 rfl) ?_
    refine va_get (D := K.1) (ci := 4) (v := .int (nI n)) (C := RX3) (T := TX3) (N := 21) hx hb hts iX3 hown hE.k hP 0 rfl rfl 15 (by decide) f88 (fun _ h9 => h9) rfl dX3_forgets_6 ?_
    refine m_icmp_ge (tgt := 60) hx hb (by omega) (by omega) dX3_forgets_9 (by decide) (fun c_9 => ?_) (fun c_9 => ?_)
    · have h1 : ∀ t, t + 1 < n → g10 t = f 10 (t + 1) ∧ g11 t = f 11 (t + 1) ∧ g12 t = f 12 (t + 1) := fun t ht => ⟨hs10.1 t (by omega), hs11.1 t (by omega), hs12.1 t (by omega)⟩
      refine lv_iconst (v := nI 0) hx hb dX3_forgets_60 (by decide) ?_
      refine lv_istore_n (lv' := [(1, .int (nI 0)), (0, .ref o)]) hx hb dX3_forgets_61 rfl hl (by decide) rfl (fun ls hl => ?_)
      have hl := lv_sub (l' := [(0, .ref o), (1, .int (nI 0))]) hl [1, 0] rfl
      refine (?_ : ∀ (n9b : Nat) (k : Nat) (g13 : Nat → Int32) (g14 : Nat → Int32) (H : Heap) (locs : List Loc) (ls : Array Slot), k ≤ 8 * n - 8 → 8 * n - 8 < k + n9b → SH (f 13) g13 k 8 → SH (f 14) g14 k 8 → va_P K.1 vwCl (mW K o ad (va_up (va_up (va_up (va_up (va_up f 10 g10) 11 g11) 12 g12) 13 g13) 14 g14) d (nI n) ta ti la) H → va_D A (mW K o ad (va_up (va_up (va_up (va_up (va_up f 10 g10) 11 g11) 12 g12) 13 g13) 14 g14) d (nI n) ta ti la) → va_S A s.heap H locs → lv_has ls 2 [(1, .int (nI k)), (0, .ref o)] → W p l e _ s m args below meth c H locs 0 0 _ (F0 m 62 ls [])) (8 * n - 8 + 1) 0 (f 13) (f 14) _ _ ls (by omega) (by omega) (SH.zero _ _) (SH.zero _ _) hP hD hS (lv_sub hl [1, 0] rfl)
      clear hS hl hP hD
      intro n9b
      induction n9b with
      | zero => intro k g13 g14 H locs ls hi9 hn9; exact absurd hn9 (by omega)
      | succ n9b ihb =>
        intro k g13 g14 H locs ls hi9b hn9b hs13 hs14 hP hD hS hl
        refine lv_iload_n hx hb dX3_forgets_62 rfl (lv_at hl 0 rfl) ?_
        refine lv_bipush (v := nI 8) hx hb dX3_forgets_63 (by decide) ?_
        refine m_iadd hx hb dX3_forgets_65 ?_
        refine lv_bipush (v := nI 8) hx hb dX3_forgets_66 (by decide) ?_
        refine lv_aload_n hx hb dX3_forgets_68 rfl (lv_at hl 1 rfl) ?_
        refine va_get (D := K.1) (ci := 4) (v := .int (nI n)) (C := RX3) (T := TX3) (N := 21) hx hb hts iX3 hown hE.k hP 0 rfl rfl 15 (by decide) f88 (fun _ h9 => h9) rfl dX3_forgets_69 ?_
        refine m_imul hx hb dX3_forgets_72 ?_
        refine m_icmp_ge (tgt := 112) hx hb (by omega) (by omega) dX3_forgets_73 (by decide) (fun c_73 => ?_) (fun c_73 => ?_)
        · refine lv_aload_n hx hb dX3_forgets_112 rfl (lv_at hl 1 rfl) ?_
          refine lv_dup hx hb dX3_forgets_113 rfl ?_
          refine va_get (D := K.1) (ci := 4) (v := .int (nI n)) (C := RX3) (T := TX3) (N := 21) hx hb hts iX3 hown hE.k hP 0 rfl rfl 15 (by decide) f88 (fun _ h9 => h9) rfl dX3_forgets_114 ?_
          refine lv_iconst (v := nI 1) hx hb dX3_forgets_117 (by decide) ?_
          refine m_isub hx hb (by omega) dX3_forgets_118 ?_
          refine va_put (D := K.1) (ci := 4) (v := .int (nI (n - 1))) (ty := .int) (C := RX3) (T := TX3) (N := 21) hx hb hts iX3 tyX3 tyX3_ok nmX3 hown hE.k hP hD hS 0 rfl rfl 15 (by decide) f88 (fun _ h9 => h9) rfl (by decide +kernel) rfl rfl (Nat.le_of_ble_eq_true rfl) dX3_forgets_119 (fun H locs hP hD hS => ?_)
          have hP : va_P K.1 vwCl (mW K o ad (va_up (va_up (va_up (va_up (va_up f 10 g10) 11 g11) 12 g12) 13 g13) 14 g14) d (nI (n - 1)) ta ti la) H := hP
          have hD : va_D A (mW K o ad (va_up (va_up (va_up (va_up (va_up f 10 g10) 11 g11) 12 g12) 13 g13) 14 g14) d (nI (n - 1)) ta ti la) := hD
          exact m_vret hx hb hr hlk hS (Nat.le_of_ble_eq_true rfl) (Nat.le_of_ble_eq_true rfl) dX3_forgets_122 (⟨g10, g11, g12, g13, g14, hP, hD, h1, fun t ht => ⟨hs13.1 t (by omega), hs14.1 t (by omega)⟩⟩)
        · refine lv_aload_n hx hb dX3_forgets_76 rfl (lv_at hl 1 rfl) ?_
          refine va_get (D := K.1) (ci := 4) (v := .ref (ad 13)) (C := RX3) (T := TX3) (N := 21) hx hb hts iX3 hown hE.k hP 0 rfl rfl 13 (by decide) f47 (fun _ h9 => h9) rfl dX3_forgets_77 ?_
          refine lv_iload_n hx hb dX3_forgets_80 rfl (lv_at hl 0 rfl) ?_
          refine lv_aload_n hx hb dX3_forgets_81 rfl (lv_at hl 1 rfl) ?_
          refine va_get (D := K.1) (ci := 4) (v := .ref (ad 13)) (C := RX3) (T := TX3) (N := 21) hx hb hts iX3 hown hE.k hP 0 rfl rfl 13 (by decide) f47 (fun _ h9 => h9) rfl dX3_forgets_82 ?_
          refine lv_iload_n hx hb dX3_forgets_85 rfl (lv_at hl 0 rfl) ?_
          refine lv_bipush (v := nI 8) hx hb dX3_forgets_86 (by decide) ?_
          refine m_iadd hx hb dX3_forgets_88 ?_
          refine m_iald hx hb hE.k hP 13 rfl (by omega) (by omega) rfl dX3_forgets_89 ?_
          refine m_iast hx hb hE.k hP hD hS 13 rfl (by omega) (by omega) dX3_forgets_90 (fun H locs hP hD hS => ?_)
          have hP : va_P K.1 vwCl (mW K o ad (va_up (va_up (va_up (va_up (va_up f 10 g10) 11 g11) 12 g12) 13 (upd g13 k (g13 (k + 8)))) 14 g14) d (nI n) ta ti la) H := hP
          have hD : va_D A (mW K o ad (va_up (va_up (va_up (va_up (va_up f 10 g10) 11 g11) 12 g12) 13 (upd g13 k (g13 (k + 8)))) 14 g14) d (nI n) ta ti la) := hD
          refine lv_aload_n hx hb dX3_forgets_91 rfl (lv_at hl 1 rfl) ?_
          refine va_get (D := K.1) (ci := 4) (v := .ref (ad 14)) (C := RX3) (T := TX3) (N := 21) hx hb hts iX3 hown hE.k hP 0 rfl rfl 14 (by decide) f50 (fun _ h9 => h9) rfl dX3_forgets_92 ?_
          refine lv_iload_n hx hb dX3_forgets_95 rfl (lv_at hl 0 rfl) ?_
          refine lv_aload_n hx hb dX3_forgets_96 rfl (lv_at hl 1 rfl) ?_
          refine va_get (D := K.1) (ci := 4) (v := .ref (ad 14)) (C := RX3) (T := TX3) (N := 21) hx hb hts iX3 hown hE.k hP 0 rfl rfl 14 (by decide) f50 (fun _ h9 => h9) rfl dX3_forgets_97 ?_
          refine lv_iload_n hx hb dX3_forgets_100 rfl (lv_at hl 0 rfl) ?_
          refine lv_bipush (v := nI 8) hx hb dX3_forgets_101 (by decide) ?_
          refine m_iadd hx hb dX3_forgets_103 ?_
          refine m_iald hx hb hE.k hP 14 rfl (by omega) (by omega) rfl dX3_forgets_104 ?_
          refine m_iast hx hb hE.k hP hD hS 14 rfl (by omega) (by omega) dX3_forgets_105 (fun H locs hP hD hS => ?_)
          have hP : va_P K.1 vwCl (mW K o ad (va_up (va_up (va_up (va_up (va_up f 10 g10) 11 g11) 12 g12) 13 (upd g13 k (g13 (k + 8)))) 14 (upd g14 k (g14 (k + 8)))) d (nI n) ta ti la) H := hP
          have hD : va_D A (mW K o ad (va_up (va_up (va_up (va_up (va_up f 10 g10) 11 g11) 12 g12) 13 (upd g13 k (g13 (k + 8)))) 14 (upd g14 k (g14 (k + 8)))) d (nI n) ta ti la) := hD
          refine lv_iinc (v := nI (k + 1)) (lv' := [(1, .int (nI (k + 1))), (0, .ref o)]) hx hb dX3_forgets_106 hl (k := 0) rfl (m_inc _) (by decide) rfl (fun ls hl => ?_)
          refine lv_goto (tgt := 62) hx hb dX3_forgets_109 (by decide) ?_
          exact ihb (k + 1) (upd g13 k (g13 (k + 8))) (upd g14 k (g14 (k + 8))) _ _ ls (by omega) (by omega) hs13.up hs14.up hP hD hS (lv_sub hl [0, 1] rfl)
    · refine lv_aload_n hx hb dX3_forgets_12 rfl (lv_at hl 1 rfl) ?_
      refine va_get (D := K.1) (ci := 4) (v := .ref (ad 10)) (C := RX3) (T := TX3) (N := 21) hx hb hts iX3 hown hE.k hP 0 rfl rfl 10 (by decide) f38 (fun _ h9 => h9) rfl dX3_forgets_13 ?_
      refine lv_iload_n hx hb dX3_forgets_16 rfl (lv_at hl 0 rfl) ?_
      refine lv_aload_n hx hb dX3_forgets_17 rfl (lv_at hl 1 rfl) ?_
      refine va_get (D := K.1) (ci := 4) (v := .ref (ad 10)) (C := RX3) (T := TX3) (N := 21) hx hb hts iX3 hown hE.k hP 0 rfl rfl 10 (by decide) f38 (fun _ h9 => h9) rfl dX3_forgets_18 ?_
      refine lv_iload_n hx hb dX3_forgets_21 rfl (lv_at hl 0 rfl) ?_
      refine lv_iconst (v := nI 1) hx hb dX3_forgets_22 (by decide) ?_
      refine m_iadd hx hb dX3_forgets_23 ?_
      refine m_iald hx hb hE.k hP 10 rfl (by omega) (by omega) rfl dX3_forgets_24 ?_
      refine m_iast hx hb hE.k hP hD hS 10 rfl (by omega) (by omega) dX3_forgets_25 (fun H locs hP hD hS => ?_)
      have hP : va_P K.1 vwCl (mW K o ad (va_up (va_up (va_up f 10 (upd g10 k (g10 (k + 1)))) 11 g11) 12 g12) d (nI n) ta ti la) H := hP
      have hD : va_D A (mW K o ad (va_up (va_up (va_up f 10 (upd g10 k (g10 (k + 1)))) 11 g11) 12 g12) d (nI n) ta ti la) := hD
      refine lv_aload_n hx hb dX3_forgets_26 rfl (lv_at hl 1 rfl) ?_
      refine va_get (D := K.1) (ci := 4) (v := .ref (ad 11)) (C := RX3) (T := TX3) (N := 21) hx hb hts iX3 hown hE.k hP 0 rfl rfl 11 (by decide) f41 (fun _ h9 => h9) rfl dX3_forgets_27 ?_
      refine lv_iload_n hx hb dX3_forgets_30 rfl (lv_at hl 0 rfl) ?_
      refine lv_aload_n hx hb dX3_forgets_31 rfl (lv_at hl 1 rfl) ?_
      refine va_get (D := K.1) (ci := 4) (v := .ref (ad 11)) (C := RX3) (T := TX3) (N := 21) hx hb hts iX3 hown hE.k hP 0 rfl rfl 11 (by decide) f41 (fun _ h9 => h9) rfl dX3_forgets_32 ?_
      refine lv_iload_n hx hb dX3_forgets_35 rfl (lv_at hl 0 rfl) ?_
      refine lv_iconst (v := nI 1) hx hb dX3_forgets_36 (by decide) ?_
      refine m_iadd hx hb dX3_forgets_37 ?_
      refine m_iald hx hb hE.k hP 11 rfl (by omega) (by omega) rfl dX3_forgets_38 ?_
      refine m_iast hx hb hE.k hP hD hS 11 rfl (by omega) (by omega) dX3_forgets_39 (fun H locs hP hD hS => ?_)
      have hP : va_P K.1 vwCl (mW K o ad (va_up (va_up (va_up f 10 (upd g10 k (g10 (k + 1)))) 11 (upd g11 k (g11 (k + 1)))) 12 g12) d (nI n) ta ti la) H := hP
      have hD : va_D A (mW K o ad (va_up (va_up (va_up f 10 (upd g10 k (g10 (k + 1)))) 11 (upd g11 k (g11 (k + 1)))) 12 g12) d (nI n) ta ti la) := hD
      refine lv_aload_n hx hb dX3_forgets_40 rfl (lv_at hl 1 rfl) ?_
      refine va_get (D := K.1) (ci := 4) (v := .ref (ad 12)) (C := RX3) (T := TX3) (N := 21) hx hb hts iX3 hown hE.k hP 0 rfl rfl 12 (by decide) f44 (fun _ h9 => h9) rfl dX3_forgets_41 ?_
      refine lv_iload_n hx hb dX3_forgets_44 rfl (lv_at hl 0 rfl) ?_
      refine lv_aload_n hx hb dX3_forgets_45 rfl (lv_at hl 1 rfl) ?_
      refine va_get (D := K.1) (ci := 4) (v := .ref (ad 12)) (C := RX3) (T := TX3) (N := 21) hx hb hts iX3 hown hE.k hP 0 rfl rfl 12 (by decide) f44 (fun _ h9 => h9) rfl dX3_forgets_46 ?_
      refine lv_iload_n hx hb dX3_forgets_49 rfl (lv_at hl 0 rfl) ?_
      refine lv_iconst (v := nI 1) hx hb dX3_forgets_50 (by decide) ?_
      refine m_iadd hx hb dX3_forgets_51 ?_
      refine m_iald hx hb hE.k hP 12 rfl (by omega) (by omega) rfl dX3_forgets_52 ?_
      refine m_iast hx hb hE.k hP hD hS 12 rfl (by omega) (by omega) dX3_forgets_53 (fun H locs hP hD hS => ?_)
      have hP : va_P K.1 vwCl (mW K o ad (va_up (va_up (va_up f 10 (upd g10 k (g10 (k + 1)))) 11 (upd g11 k (g11 (k + 1)))) 12 (upd g12 k (g12 (k + 1)))) d (nI n) ta ti la) H := hP
      have hD : va_D A (mW K o ad (va_up (va_up (va_up f 10 (upd g10 k (g10 (k + 1)))) 11 (upd g11 k (g11 (k + 1)))) 12 (upd g12 k (g12 (k + 1)))) d (nI n) ta ti la) := hD
      refine lv_iinc (v := nI (k + 1)) (lv' := [(1, .int (nI (k + 1))), (0, .ref o)]) hx hb dX3_forgets_54 hl (k := 0) rfl (m_inc _) (by decide) rfl (fun ls hl => ?_)
      refine lv_goto (tgt := 2) hx hb dX3_forgets_57 (by decide) ?_
      exact iha (k + 1) (upd g10 k (g10 (k + 1))) (upd g11 k (g11 (k + 1))) (upd g12 k (g12 (k + 1))) _ _ ls (by omega) (by omega) hs10.up hs11.up hs12.up hP hD hS (lv_sub hl [0, 1] rfl)

def CP (src : Nat → Int32) (s0 : Nat) (g0 g : Nat → Int32) (n i : Nat) : Prop := (∀ t, t < i → g (8 * n + t) = src (s0 + t)) ∧ ∀ t, t < 8 * n → g t = g0 t
theorem CP.zero (src : Nat → Int32) (s0 : Nat) (g : Nat → Int32) (n : Nat) : CP src s0 g g n 0 := ⟨fun t ht => absurd ht (Nat.not_lt_zero t), fun _ _ => rfl⟩
theorem CP.up {src g0 g : Nat → Int32} {s0 n i : Nat} (h : CP src s0 g0 g n i) : CP src s0 g0 (upd g (8 * n + i) (src (s0 + i))) n (i + 1) := by
  refine ⟨fun t ht => ?_, fun t ht => ?_⟩
  · unfold upd
    split
    · rename_i e
      rw [show t = i by omega]
    · exact h.1 t (by omega)
  · unfold upd
    rw [if_neg (by omega)]
    exact h.2 t ht
theorem upd_at {g : Nat → Int32} {n : Nat} {x : Int32} : upd g n x n = x := by
  unfold upd
  exact if_pos rfl
theorem upd_ne {g : Nat → Int32} {n t : Nat} {x : Int32} (h : ¬ t = n) : upd g n x t = g t := by
  unfold upd
  exact if_neg h
theorem mPs.push {g10 g11 g12 g13 g14 : Nat → Int32} {ps : List Pr} (hm : mPs g10 g11 g12 g13 g14 ps) (hn : ps.length < 20) {l : Nat} {F G : Frm} (hl : l < 6) (hF : 1 ≤ F.1.length ∧ F.1.length ≤ 8) (hG : G.1.length ≤ 8) {src g13' g14' : Nat → Int32} {s0 s1 : Nat} (h13 : CP src s0 g13 g13' ps.length 8) (h14 : CP src s1 g14 g14' ps.length 8) (hs0 : ∀ j, j < F.1.length → src (s0 + j) = F.1.getD j 0) (hs1 : ∀ j, j < G.1.length → src (s1 + j) = G.1.getD j 0) {x y : Int32} (hx : x = nI F.1.length) (hy : y = nI G.1.length) : mPs (upd g10 ps.length (nI l)) (upd g11 ps.length x) (upd g12 ps.length y) g13' g14' (ps ++ [(l, F, G)]) := by
  refine ⟨by simp; omega, fun i P hP => ?_⟩
  by_cases hi : i < ps.length
  · rw [List.getElem?_append_left hi] at hP
    obtain ⟨a1, a2, a3, a4, a5, a6, a7, a8⟩ := hm.2 i P hP
    refine ⟨a1, a2, a3, (upd_ne (by omega)).trans a4, (upd_ne (by omega)).trans a5, (upd_ne (by omega)).trans a6, fun j hj => (h13.2 _ (by omega)).trans (a7 j hj), fun j hj => (h14.2 _ (by omega)).trans (a8 j hj)⟩
  · have hz : i < (ps ++ [(l, F, G)]).length := (List.getElem?_eq_some_iff.mp hP).1
    have e : i = ps.length := by simp at hz; omega
    subst e
    rw [List.getElem?_append_right (by omega), Nat.sub_self] at hP
    cases hP
    exact ⟨hl, hF, hG, upd_at, upd_at.trans hx, upd_at.trans hy, fun j hj => (h13.1 j (Nat.lt_of_lt_of_le hj hF.2)).trans (hs0 j hj), fun j hj => (h14.1 j (Nat.lt_of_lt_of_le hj hG)).trans (hs1 j hj)⟩
theorem mPs.tail {f10 f11 f12 f13 f14 g10 g11 g12 g13 g14 : Nat → Int32} {ps : List Pr} (hm : mPs f10 f11 f12 f13 f14 ps) (h1 : ∀ t, t + 1 < ps.length → g10 t = f10 (t + 1) ∧ g11 t = f11 (t + 1) ∧ g12 t = f12 (t + 1)) (h2 : ∀ t, t + 8 < 8 * ps.length → g13 t = f13 (t + 8) ∧ g14 t = f14 (t + 8)) : mPs g10 g11 g12 g13 g14 ps.tail := by
  have hl := hm.1
  refine ⟨by rw [List.length_tail]; omega, fun i P hP => ?_⟩
  rw [List.getElem?_tail] at hP
  have hz := (List.getElem?_eq_some_iff.mp hP).1
  obtain ⟨a1, a2, a3, a4, a5, a6, a7, a8⟩ := hm.2 (i + 1) P hP
  obtain ⟨b1, b2, b3⟩ := h1 i hz
  refine ⟨a1, a2, a3, b1.trans a4, b2.trans a5, b3.trans a6, fun j hj => ?_, fun j hj => ?_⟩
  · rw [(h2 (8 * i + j) (by omega)).1, show 8 * i + j + 8 = 8 * (i + 1) + j by omega]
    exact a7 j hj
  · rw [(h2 (8 * i + j) (by omega)).2, show 8 * i + j + 8 = 8 * (i + 1) + j by omega]
    exact a8 j hj
def keepX (fo : Option Frm) (fm : Nat → Option Frm) (k j n : Nat) (ps : List Pr) : List Pr := match fo with
  | none => ps
  | some F => keepL fm k j F n ps
theorem keepX_n {fm : Nat → Option Frm} {k j n : Nat} {ps : List Pr} {fo : Option Frm} (h : fo.isSome = false) : keepX fo fm k j (n + 1) ps = keepX fo fm k j n ps := by
  cases fo with
  | none => rfl
  | some F => cases h
theorem keepX_o {fm : Nat → Option Frm} {k j n : Nat} {ps : List Pr} {fo : Option Frm} (h : (fm (54 * k + j + 9 * (n + 1))).isSome = false) : keepX fo fm k j (n + 1) ps = keepX fo fm k j n ps := by
  rw [show 54 * k + j + 9 * (n + 1) = 54 * k + 9 * (n + 1) + j by omega] at h
  cases fo with
  | none => rfl
  | some F =>
    show keepL fm k j F (n + 1) ps = keepL fm k j F n ps
    rw [keepL]
    cases e : fm (54 * k + 9 * (n + 1) + j) with
    | none => rfl
    | some G => rw [e] at h; cases h
theorem keepX_y {fm : Nat → Option Frm} {k j n : Nat} {ps : List Pr} {fo : Option Frm} {F G : Frm} (hF : fo = some F) (h : fm (54 * k + j + 9 * (n + 1)) = some G) : keepX fo fm k j (n + 1) ps = pushP (keepX fo fm k j n ps) (n + 1, F, G) := by
  rw [show 54 * k + j + 9 * (n + 1) = 54 * k + 9 * (n + 1) + j by omega] at h
  subst hF
  show keepL fm k j F (n + 1) ps = pushP (keepL fm k j F n ps) (n + 1, F, G)
  rw [keepL, h]
theorem mF.some {g5 g6 g7 : Nat → Int32} {k : Nat} {fo : Option Frm} (h : mF g5 g6 g7 k fo) (z : ¬ lenF fo ≤ 0) : ∃ F, fo = some F ∧ lenF fo = F.1.length ∧ (1 ≤ F.1.length ∧ F.1.length ≤ 8) ∧ ∀ j, j < F.1.length → g7 (8 * k + j) = F.1.getD j 0 := by
  cases fo with
  | none => exact absurd (Nat.le_refl 0) z
  | some F => exact ⟨F, rfl, rfl, ⟨(h.2.2 F rfl).1, h.2.1⟩, (h.2.2 F rfl).2.2⟩

set_option maxHeartbeats 4000000 in
set_option maxRecDepth 100000 in
theorem kX3_keeps (l : Launch) (K : m_K) (A : Nat → Prop) (H0 : Heap) (o : Nat) (ad : Nat → Nat) (f : Nat → Nat → Int32) (d ta ti la : Int32) (fm : Nat → Option Frm) (hfm : ∀ k, k < 540 → mF (f 5) (f 6) (f 7) k (fm k)) (ps : List Pr) (hps : mPs (f 10) (f 11) (f 12) (f 13) (f 14) ps) (hP : va_P K.1 vwCl (mW K o ad f d (nI ps.length) ta ti la) H0) (hD : va_D A (mW K o ad f d (nI ps.length) ta ti la)) (k j : Nat) (hk9 : k < 10) (hj9 : j < 9) : Met l yX3_keeps wsX3_keeps ({ frames := 1, cells := 0, slots := 0, locals := 21 } : Room) (m_Pc K A H0 [.ref o, .int (nI k), .int (nI j)]) (va_Qv (fun H1 => ∃ g10 g11 g12 g13 g14 ps9, va_P K.1 vwCl (mW K o ad (va_up (va_up (va_up (va_up (va_up f 10 g10) 11 g11) 12 g12) 13 g13) 14 g14) d (nI ps9.length) ta ti la) H1 ∧ va_D A (mW K o ad (va_up (va_up (va_up (va_up (va_up f 10 g10) 11 g11) 12 g12) 13 g13) 14 g14) d (nI ps9.length) ta ti la) ∧ mPs g10 g11 g12 g13 g14 ps9 ∧ ps9 = keepP fm k j ps) m_B A) 0 0 A := by
  refine m_ofW (by decide) rfl (Nat.le_of_ble_eq_true rfl) ?_
  intro p e s m args below meth c ls hx hb hr hml hown hts hlk hnm hE hsz hS hl
  have hl : lv_has ls 7 [(0, .ref o), (1, .int (nI k)), (2, .int (nI j))] := hl
  have iX3 : ∀ w ∈ wsX30, w ∈ wsX3_keeps := by decide +kernel
  have f22 := hts (.fieldLink RX3 22 "PhraseCatalogueModel" "lengths" "[I") (by decide +kernel)
  have f88 := hts (.fieldLink RX3 88 "PhraseCatalogueModel" "pairs" "I") (by decide +kernel)
  have f38 := hts (.fieldLink RX3 38 "PhraseCatalogueModel" "pairLanguages" "[I") (by decide +kernel)
  have f41 := hts (.fieldLink RX3 41 "PhraseCatalogueModel" "oldLengths" "[I") (by decide +kernel)
  have f44 := hts (.fieldLink RX3 44 "PhraseCatalogueModel" "newLengths" "[I") (by decide +kernel)
  have f47 := hts (.fieldLink RX3 47 "PhraseCatalogueModel" "olds" "[I") (by decide +kernel)
  have f29 := hts (.fieldLink RX3 29 "PhraseCatalogueModel" "signs" "[I") (by decide +kernel)
  have f50 := hts (.fieldLink RX3 50 "PhraseCatalogueModel" "news" "[I") (by decide +kernel)
  refine lv_bipush (v := nI 54) hx hb dX3_keeps_0 (by decide) ?_
  refine lv_iload_n hx hb dX3_keeps_2 rfl (lv_at hl 1 rfl) ?_
  refine m_imul hx hb dX3_keeps_3 ?_
  refine lv_iload_n hx hb dX3_keeps_4 rfl (lv_at hl 2 rfl) ?_
  refine m_iadd hx hb dX3_keeps_5 ?_
  refine lv_istore_n (lv' := [(3, .int (nI ((54 * k) + j))), (0, .ref o), (1, .int (nI k)), (2, .int (nI j))]) hx hb dX3_keeps_6 rfl hl (by decide) rfl (fun ls hl => ?_)
  refine lv_iconst (v := nI 1) hx hb dX3_keeps_7 (by decide) ?_
  refine lv_istore (lv' := [(4, .int (nI 1)), (3, .int (nI ((54 * k) + j))), (0, .ref o), (1, .int (nI k)), (2, .int (nI j))]) hx hb dX3_keeps_8 hl (by decide) rfl (fun ls hl => ?_)
  refine (?_ : ∀ (n9a : Nat) (l9 : Nat) (g10 : Nat → Int32) (g11 : Nat → Int32) (g12 : Nat → Int32) (g13 : Nat → Int32) (g14 : Nat → Int32) (ps9 : List Pr) (H : Heap) (locs : List Loc) (ls : Array Slot), l9 ≤ 5 → 5 < l9 + n9a → mPs g10 g11 g12 g13 g14 ps9 → ps9 = keepX (fm (54 * k + j)) fm k j l9 ps → va_P K.1 vwCl (mW K o ad (va_up (va_up (va_up (va_up (va_up f 10 g10) 11 g11) 12 g12) 13 g13) 14 g14) d (nI ps9.length) ta ti la) H → va_D A (mW K o ad (va_up (va_up (va_up (va_up (va_up f 10 g10) 11 g11) 12 g12) 13 g13) 14 g14) d (nI ps9.length) ta ti la) → va_S A s.heap H locs → lv_has ls 7 [(4, .int (nI (l9 + 1))), (3, .int (nI (54 * k + j))), (0, .ref o), (1, .int (nI k)), (2, .int (nI j))] → W p l e _ s m args below meth c H locs 0 0 _ (F0 m 10 ls [])) (5 + 1) 0 (f 10) (f 11) (f 12) (f 13) (f 14) ps _ _ ls (by omega) (by omega) hps (by unfold keepX; split <;> rfl) hP hD hS (lv_sub hl [0, 1, 2, 3, 4] rfl)
  clear hS hl hP hD
  intro n9a
  induction n9a with
  | zero => intro l9 g10 g11 g12 g13 g14 ps9 H locs ls hi9 hn9; exact absurd hn9 (by omega)
  | succ n9a iha =>
    intro l9 g10 g11 g12 g13 g14 ps9 H locs ls hi9a hn9a hm hinv hP hD hS hl
    refine lv_iload hx hb dX3_keeps_10 (lv_at hl 0 rfl) ?_
    refine lv_bipush (v := nI 6) hx hb dX3_keeps_12 (by decide) ?_
    refine m_icmp_ge (tgt := 187) hx hb (by omega) (by omega) dX3_keeps_14 (by decide) (fun c_14 => ?_) (fun c_14 => ?_)
    · exact m_vret hx hb hr hlk hS (Nat.le_of_ble_eq_true rfl) (Nat.le_of_ble_eq_true rfl) dX3_keeps_187 (⟨g10, g11, g12, g13, g14, ps9, hP, hD, hm, by rw [hinv, show l9 = 5 by omega]; rfl⟩)
    · refine lv_iload_n hx hb dX3_keeps_17 rfl (lv_at hl 1 rfl) ?_
      refine lv_bipush (v := nI 9) hx hb dX3_keeps_18 (by decide) ?_
      refine lv_iload hx hb dX3_keeps_20 (lv_at hl 0 rfl) ?_
      refine m_imul hx hb dX3_keeps_22 ?_
      refine m_iadd hx hb dX3_keeps_23 ?_
      refine lv_istore (lv' := [(5, .int (nI ((54 * k + j) + (9 * (l9 + 1))))), (4, .int (nI (l9 + 1))), (3, .int (nI (54 * k + j))), (0, .ref o), (1, .int (nI k)), (2, .int (nI j))]) hx hb dX3_keeps_24 hl (by decide) rfl (fun ls hl => ?_)
      refine lv_aload_n hx hb dX3_keeps_26 rfl (lv_at hl 3 rfl) ?_
      refine va_get (D := K.1) (ci := 4) (v := .ref (ad 5)) (C := RX3) (T := TX3) (N := 21) hx hb hts iX3 hown hE.k hP 0 rfl rfl 5 (by decide) f22 (fun _ h9 => h9) rfl dX3_keeps_27 ?_
      refine lv_iload_n hx hb dX3_keeps_30 rfl (lv_at hl 2 rfl) ?_
      have hq9 := hfm (54 * k + j) (by omega)
      have hl9 := hq9.2.1
      refine m_iald hx hb hE.k hP 5 rfl (by omega) (by omega) hq9.1 dX3_keeps_31 ?_
      refine m_if_le (tgt := 181) hx hb (by omega) dX3_keeps_32 (by decide) (fun c_32 => ?_) (fun c_32 => ?_)
      · refine lv_iinc (v := nI ((l9 + 1) + 1)) (lv' := [(4, .int (nI ((l9 + 1) + 1))), (5, .int (nI ((54 * k + j) + (9 * (l9 + 1))))), (3, .int (nI (54 * k + j))), (0, .ref o), (1, .int (nI k)), (2, .int (nI j))]) hx hb dX3_keeps_181 hl (k := 1) rfl (m_inc _) (by decide) rfl (fun ls hl => ?_)
        refine lv_goto (tgt := 10) hx hb dX3_keeps_184 (by decide) ?_
        exact iha (l9 + 1) g10 g11 g12 g13 g14 ps9 _ _ ls (by omega) (by omega) hm (by rw [keepX_n (len_n hq9 c_32)]; exact hinv) hP hD hS (lv_sub hl [0, 2, 3, 4, 5] rfl)
      · obtain ⟨F, hF, hFl, hF8, hFs⟩ := hq9.some c_32
        have hm20 := hm.1
        refine lv_aload_n hx hb dX3_keeps_35 rfl (lv_at hl 3 rfl) ?_
        refine va_get (D := K.1) (ci := 4) (v := .ref (ad 5)) (C := RX3) (T := TX3) (N := 21) hx hb hts iX3 hown hE.k hP 0 rfl rfl 5 (by decide) f22 (fun _ h9 => h9) rfl dX3_keeps_36 ?_
        refine lv_iload hx hb dX3_keeps_39 (lv_at hl 0 rfl) ?_
        have hq9 := hfm ((54 * k + j) + (9 * (l9 + 1))) (by omega)
        have hl9 := hq9.2.1
        refine m_iald hx hb hE.k hP 5 rfl (by omega) (by omega) hq9.1 dX3_keeps_41 ?_
        refine m_if_le (tgt := 181) hx hb (by omega) dX3_keeps_42 (by decide) (fun c_42 => ?_) (fun c_42 => ?_)
        · refine lv_iinc (v := nI ((l9 + 1) + 1)) (lv' := [(4, .int (nI ((l9 + 1) + 1))), (5, .int (nI ((54 * k + j) + (9 * (l9 + 1))))), (3, .int (nI (54 * k + j))), (0, .ref o), (1, .int (nI k)), (2, .int (nI j))]) hx hb dX3_keeps_181 hl (k := 1) rfl (m_inc _) (by decide) rfl (fun ls hl => ?_)
          refine lv_goto (tgt := 10) hx hb dX3_keeps_184 (by decide) ?_
          exact iha (l9 + 1) g10 g11 g12 g13 g14 ps9 _ _ ls (by omega) (by omega) hm (by rw [keepX_o (len_n hq9 c_42)]; exact hinv) hP hD hS (lv_sub hl [0, 2, 3, 4, 5] rfl)
        · obtain ⟨Gf, hG, hGl, hG8, hGs⟩ := hq9.some c_42
          refine lv_aload_n hx hb dX3_keeps_45 rfl (lv_at hl 3 rfl) ?_
          refine va_get (D := K.1) (ci := 4) (v := .int (nI ps9.length)) (C := RX3) (T := TX3) (N := 21) hx hb hts iX3 hown hE.k hP 0 rfl rfl 15 (by decide) f88 (fun _ h9 => h9) rfl dX3_keeps_46 ?_
          refine lv_bipush (v := nI 20) hx hb dX3_keeps_49 (by decide) ?_
          refine m_icmp_ne (tgt := 58) hx hb (by omega) (by omega) dX3_keeps_51 (by decide) (fun c_51 => ?_) (fun c_51 => ?_)
          · have hm1 := hm
            have hn1 : ps9.length < 20 := by omega
            have hpe : ps9 = if 20 ≤ ps9.length then ps9.tail else ps9 := (if_neg (by omega)).symm
            refine lv_aload_n hx hb dX3_keeps_58 rfl (lv_at hl 3 rfl) ?_
            refine va_get (D := K.1) (ci := 4) (v := .ref (ad 10)) (C := RX3) (T := TX3) (N := 21) hx hb hts iX3 hown hE.k hP 0 rfl rfl 10 (by decide) f38 (fun _ h9 => h9) rfl dX3_keeps_59 ?_
            refine lv_aload_n hx hb dX3_keeps_62 rfl (lv_at hl 3 rfl) ?_
            refine va_get (D := K.1) (ci := 4) (v := .int (nI ps9.length)) (C := RX3) (T := TX3) (N := 21) hx hb hts iX3 hown hE.k hP 0 rfl rfl 15 (by decide) f88 (fun _ h9 => h9) rfl dX3_keeps_63 ?_
            refine lv_iload hx hb dX3_keeps_66 (lv_at hl 1 rfl) ?_
            refine m_iast hx hb hE.k hP hD hS 10 rfl (by omega) (by omega) dX3_keeps_68 (fun H locs hP hD hS => ?_)
            have hP : va_P K.1 vwCl (mW K o ad (va_up (va_up (va_up (va_up (va_up f 10 (upd g10 ps9.length (nI (l9 + 1)))) 11 g11) 12 g12) 13 g13) 14 g14) d (nI ps9.length) ta ti la) H := hP
            have hD : va_D A (mW K o ad (va_up (va_up (va_up (va_up (va_up f 10 (upd g10 ps9.length (nI (l9 + 1)))) 11 g11) 12 g12) 13 g13) 14 g14) d (nI ps9.length) ta ti la) := hD
            refine lv_aload_n hx hb dX3_keeps_69 rfl (lv_at hl 3 rfl) ?_
            refine va_get (D := K.1) (ci := 4) (v := .ref (ad 11)) (C := RX3) (T := TX3) (N := 21) hx hb hts iX3 hown hE.k hP 0 rfl rfl 11 (by decide) f41 (fun _ h9 => h9) rfl dX3_keeps_70 ?_
            refine lv_aload_n hx hb dX3_keeps_73 rfl (lv_at hl 3 rfl) ?_
            refine va_get (D := K.1) (ci := 4) (v := .int (nI ps9.length)) (C := RX3) (T := TX3) (N := 21) hx hb hts iX3 hown hE.k hP 0 rfl rfl 15 (by decide) f88 (fun _ h9 => h9) rfl dX3_keeps_74 ?_
            refine lv_aload_n hx hb dX3_keeps_77 rfl (lv_at hl 3 rfl) ?_
            refine va_get (D := K.1) (ci := 4) (v := .ref (ad 5)) (C := RX3) (T := TX3) (N := 21) hx hb hts iX3 hown hE.k hP 0 rfl rfl 5 (by decide) f22 (fun _ h9 => h9) rfl dX3_keeps_78 ?_
            refine lv_iload_n hx hb dX3_keeps_81 rfl (lv_at hl 2 rfl) ?_
            have hq9 := hfm (54 * k + j) (by omega)
            have hl9 := hq9.2.1
            refine m_iald hx hb hE.k hP 5 rfl (by omega) (by omega) hq9.1 dX3_keeps_82 ?_
            refine m_iast hx hb hE.k hP hD hS 11 rfl (by omega) (by omega) dX3_keeps_83 (fun H locs hP hD hS => ?_)
            have hP : va_P K.1 vwCl (mW K o ad (va_up (va_up (va_up (va_up (va_up f 10 (upd g10 ps9.length (nI (l9 + 1)))) 11 (upd g11 ps9.length (nI (lenF (fm (54 * k + j)))))) 12 g12) 13 g13) 14 g14) d (nI ps9.length) ta ti la) H := hP
            have hD : va_D A (mW K o ad (va_up (va_up (va_up (va_up (va_up f 10 (upd g10 ps9.length (nI (l9 + 1)))) 11 (upd g11 ps9.length (nI (lenF (fm (54 * k + j)))))) 12 g12) 13 g13) 14 g14) d (nI ps9.length) ta ti la) := hD
            refine lv_aload_n hx hb dX3_keeps_84 rfl (lv_at hl 3 rfl) ?_
            refine va_get (D := K.1) (ci := 4) (v := .ref (ad 12)) (C := RX3) (T := TX3) (N := 21) hx hb hts iX3 hown hE.k hP 0 rfl rfl 12 (by decide) f44 (fun _ h9 => h9) rfl dX3_keeps_85 ?_
            refine lv_aload_n hx hb dX3_keeps_88 rfl (lv_at hl 3 rfl) ?_
            refine va_get (D := K.1) (ci := 4) (v := .int (nI ps9.length)) (C := RX3) (T := TX3) (N := 21) hx hb hts iX3 hown hE.k hP 0 rfl rfl 15 (by decide) f88 (fun _ h9 => h9) rfl dX3_keeps_89 ?_
            refine lv_aload_n hx hb dX3_keeps_92 rfl (lv_at hl 3 rfl) ?_
            refine va_get (D := K.1) (ci := 4) (v := .ref (ad 5)) (C := RX3) (T := TX3) (N := 21) hx hb hts iX3 hown hE.k hP 0 rfl rfl 5 (by decide) f22 (fun _ h9 => h9) rfl dX3_keeps_93 ?_
            refine lv_iload hx hb dX3_keeps_96 (lv_at hl 0 rfl) ?_
            have hq9 := hfm ((54 * k + j) + (9 * (l9 + 1))) (by omega)
            have hl9 := hq9.2.1
            refine m_iald hx hb hE.k hP 5 rfl (by omega) (by omega) hq9.1 dX3_keeps_98 ?_
            refine m_iast hx hb hE.k hP hD hS 12 rfl (by omega) (by omega) dX3_keeps_99 (fun H locs hP hD hS => ?_)
            have hP : va_P K.1 vwCl (mW K o ad (va_up (va_up (va_up (va_up (va_up f 10 (upd g10 ps9.length (nI (l9 + 1)))) 11 (upd g11 ps9.length (nI (lenF (fm (54 * k + j)))))) 12 (upd g12 ps9.length (nI (lenF (fm ((54 * k + j) + (9 * (l9 + 1)))))))) 13 g13) 14 g14) d (nI ps9.length) ta ti la) H := hP
            have hD : va_D A (mW K o ad (va_up (va_up (va_up (va_up (va_up f 10 (upd g10 ps9.length (nI (l9 + 1)))) 11 (upd g11 ps9.length (nI (lenF (fm (54 * k + j)))))) 12 (upd g12 ps9.length (nI (lenF (fm ((54 * k + j) + (9 * (l9 + 1)))))))) 13 g13) 14 g14) d (nI ps9.length) ta ti la) := hD
            refine lv_iconst (v := nI 0) hx hb dX3_keeps_100 (by decide) ?_
            refine lv_istore (lv' := [(6, .int (nI 0)), (5, .int (nI ((54 * k + j) + (9 * (l9 + 1))))), (4, .int (nI (l9 + 1))), (3, .int (nI (54 * k + j))), (0, .ref o), (1, .int (nI k)), (2, .int (nI j))]) hx hb dX3_keeps_101 hl (by decide) rfl (fun ls hl => ?_)
            have hl := lv_sub (l' := [(0, .ref o), (1, .int (nI k)), (2, .int (nI j)), (3, .int (nI (54 * k + j))), (4, .int (nI (l9 + 1))), (5, .int (nI ((54 * k + j) + (9 * (l9 + 1))))), (6, .int (nI 0))]) hl [4, 5, 6, 3, 2, 1, 0] rfl
            refine (?_ : ∀ (n9b : Nat) (i : Nat) (g13b : Nat → Int32) (g14b : Nat → Int32) (H : Heap) (locs : List Loc) (ls : Array Slot), i ≤ 8 → 8 < i + n9b → CP (f 7) (8 * (54 * k + j)) g13 g13b ps9.length i → CP (f 7) (8 * (54 * k + j + 9 * (l9 + 1))) g14 g14b ps9.length i → va_P K.1 vwCl (mW K o ad (va_up (va_up (va_up (va_up (va_up f 10 (upd g10 ps9.length (nI (l9 + 1)))) 11 (upd g11 ps9.length (nI (lenF (fm (54 * k + j)))))) 12 (upd g12 ps9.length (nI (lenF (fm ((54 * k + j) + (9 * (l9 + 1)))))))) 13 g13b) 14 g14b) d (nI ps9.length) ta ti la) H → va_D A (mW K o ad (va_up (va_up (va_up (va_up (va_up f 10 (upd g10 ps9.length (nI (l9 + 1)))) 11 (upd g11 ps9.length (nI (lenF (fm (54 * k + j)))))) 12 (upd g12 ps9.length (nI (lenF (fm ((54 * k + j) + (9 * (l9 + 1)))))))) 13 g13b) 14 g14b) d (nI ps9.length) ta ti la) → va_S A s.heap H locs → lv_has ls 7 [(6, .int (nI i)), (5, .int (nI (54 * k + j + 9 * (l9 + 1)))), (4, .int (nI (l9 + 1))), (3, .int (nI (54 * k + j))), (0, .ref o), (1, .int (nI k)), (2, .int (nI j))] → W p l e _ s m args below meth c H locs 0 0 _ (F0 m 103 ls [])) (8 + 1) 0 g13 g14 _ _ ls (by omega) (by omega) (CP.zero _ _ _ _) (CP.zero _ _ _ _) hP hD hS (lv_sub hl [6, 5, 4, 3, 0, 1, 2] rfl)
            clear hS hl hP hD
            intro n9b
            induction n9b with
            | zero => intro i g13b g14b H locs ls hi9 hn9; exact absurd hn9 (by omega)
            | succ n9b ihb =>
              intro i g13b g14b H locs ls hi9b hn9b h13 h14 hP hD hS hl
              refine lv_iload hx hb dX3_keeps_103 (lv_at hl 0 rfl) ?_
              refine lv_bipush (v := nI 8) hx hb dX3_keeps_105 (by decide) ?_
              refine m_icmp_ge (tgt := 171) hx hb (by omega) (by omega) dX3_keeps_107 (by decide) (fun c_107 => ?_) (fun c_107 => ?_)
              · have i8 : i = 8 := by omega
                refine lv_aload_n hx hb dX3_keeps_171 rfl (lv_at hl 4 rfl) ?_
                refine lv_dup hx hb dX3_keeps_172 rfl ?_
                refine va_get (D := K.1) (ci := 4) (v := .int (nI ps9.length)) (C := RX3) (T := TX3) (N := 21) hx hb hts iX3 hown hE.k hP 0 rfl rfl 15 (by decide) f88 (fun _ h9 => h9) rfl dX3_keeps_173 ?_
                refine lv_iconst (v := nI 1) hx hb dX3_keeps_176 (by decide) ?_
                refine m_iadd hx hb dX3_keeps_177 ?_
                refine va_put (D := K.1) (ci := 4) (v := .int (nI (ps9.length + 1))) (ty := .int) (C := RX3) (T := TX3) (N := 21) hx hb hts iX3 tyX3 tyX3_ok nmX3 hown hE.k hP hD hS 0 rfl rfl 15 (by decide) f88 (fun _ h9 => h9) rfl (by decide +kernel) rfl rfl (Nat.le_of_ble_eq_true rfl) dX3_keeps_178 (fun H locs hP hD hS => ?_)
                have hP : va_P K.1 vwCl (mW K o ad (va_up (va_up (va_up (va_up (va_up f 10 (upd g10 ps9.length (nI (l9 + 1)))) 11 (upd g11 ps9.length (nI (lenF (fm (54 * k + j)))))) 12 (upd g12 ps9.length (nI (lenF (fm ((54 * k + j) + (9 * (l9 + 1)))))))) 13 g13b) 14 g14b) d (nI (ps9.length + 1)) ta ti la) H := hP
                have hD : va_D A (mW K o ad (va_up (va_up (va_up (va_up (va_up f 10 (upd g10 ps9.length (nI (l9 + 1)))) 11 (upd g11 ps9.length (nI (lenF (fm (54 * k + j)))))) 12 (upd g12 ps9.length (nI (lenF (fm ((54 * k + j) + (9 * (l9 + 1)))))))) 13 g13b) 14 g14b) d (nI (ps9.length + 1)) ta ti la) := hD
                rw [show ps9.length + 1 = (ps9 ++ [(l9 + 1, F, Gf)]).length by simp] at hP hD
                refine lv_iinc (v := nI ((l9 + 1) + 1)) (lv' := [(4, .int (nI ((l9 + 1) + 1))), (6, .int (nI i)), (5, .int (nI (54 * k + j + 9 * (l9 + 1)))), (3, .int (nI (54 * k + j))), (0, .ref o), (1, .int (nI k)), (2, .int (nI j))]) hx hb dX3_keeps_181 hl (k := 2) rfl (m_inc _) (by decide) rfl (fun ls hl => ?_)
                refine lv_goto (tgt := 10) hx hb dX3_keeps_184 (by decide) ?_
                exact iha (l9 + 1) (upd g10 ps9.length (nI (l9 + 1))) (upd g11 ps9.length (nI (lenF (fm (54 * k + j))))) (upd g12 ps9.length (nI (lenF (fm ((54 * k + j) + (9 * (l9 + 1))))))) g13b g14b (ps9 ++ [(l9 + 1, F, Gf)]) _ _ ls (by omega) (by omega) (hm1.push hn1 (by omega) hF8 hG8.2 (i8 ▸ h13) (i8 ▸ h14) hFs hGs (congrArg nI hFl) (congrArg nI hGl)) (by rw [keepX_y hF hG, ← hinv, pushP, ← hpe]) hP hD hS (lv_sub hl [0, 3, 4, 5, 6] rfl)
              · refine lv_aload_n hx hb dX3_keeps_110 rfl (lv_at hl 4 rfl) ?_
                refine va_get (D := K.1) (ci := 4) (v := .ref (ad 13)) (C := RX3) (T := TX3) (N := 21) hx hb hts iX3 hown hE.k hP 0 rfl rfl 13 (by decide) f47 (fun _ h9 => h9) rfl dX3_keeps_111 ?_
                refine lv_bipush (v := nI 8) hx hb dX3_keeps_114 (by decide) ?_
                refine lv_aload_n hx hb dX3_keeps_116 rfl (lv_at hl 4 rfl) ?_
                refine va_get (D := K.1) (ci := 4) (v := .int (nI ps9.length)) (C := RX3) (T := TX3) (N := 21) hx hb hts iX3 hown hE.k hP 0 rfl rfl 15 (by decide) f88 (fun _ h9 => h9) rfl dX3_keeps_117 ?_
                refine m_imul hx hb dX3_keeps_120 ?_
                refine lv_iload hx hb dX3_keeps_121 (lv_at hl 0 rfl) ?_
                refine m_iadd hx hb dX3_keeps_123 ?_
                refine lv_aload_n hx hb dX3_keeps_124 rfl (lv_at hl 4 rfl) ?_
                refine va_get (D := K.1) (ci := 4) (v := .ref (ad 7)) (C := RX3) (T := TX3) (N := 21) hx hb hts iX3 hown hE.k hP 0 rfl rfl 7 (by decide) f29 (fun _ h9 => h9) rfl dX3_keeps_125 ?_
                refine lv_bipush (v := nI 8) hx hb dX3_keeps_128 (by decide) ?_
                refine lv_iload_n hx hb dX3_keeps_130 rfl (lv_at hl 3 rfl) ?_
                refine m_imul hx hb dX3_keeps_131 ?_
                refine lv_iload hx hb dX3_keeps_132 (lv_at hl 0 rfl) ?_
                refine m_iadd hx hb dX3_keeps_134 ?_
                refine m_iald hx hb hE.k hP 7 rfl (by omega) (by omega) rfl dX3_keeps_135 ?_
                refine m_iast hx hb hE.k hP hD hS 13 rfl (by omega) (by omega) dX3_keeps_136 (fun H locs hP hD hS => ?_)
                have hP : va_P K.1 vwCl (mW K o ad (va_up (va_up (va_up (va_up (va_up f 10 (upd g10 ps9.length (nI (l9 + 1)))) 11 (upd g11 ps9.length (nI (lenF (fm (54 * k + j)))))) 12 (upd g12 ps9.length (nI (lenF (fm ((54 * k + j) + (9 * (l9 + 1)))))))) 13 (upd g13b ((8 * ps9.length) + i) (f 7 ((8 * (54 * k + j)) + i)))) 14 g14b) d (nI ps9.length) ta ti la) H := hP
                have hD : va_D A (mW K o ad (va_up (va_up (va_up (va_up (va_up f 10 (upd g10 ps9.length (nI (l9 + 1)))) 11 (upd g11 ps9.length (nI (lenF (fm (54 * k + j)))))) 12 (upd g12 ps9.length (nI (lenF (fm ((54 * k + j) + (9 * (l9 + 1)))))))) 13 (upd g13b ((8 * ps9.length) + i) (f 7 ((8 * (54 * k + j)) + i)))) 14 g14b) d (nI ps9.length) ta ti la) := hD
                refine lv_aload_n hx hb dX3_keeps_137 rfl (lv_at hl 4 rfl) ?_
                refine va_get (D := K.1) (ci := 4) (v := .ref (ad 14)) (C := RX3) (T := TX3) (N := 21) hx hb hts iX3 hown hE.k hP 0 rfl rfl 14 (by decide) f50 (fun _ h9 => h9) rfl dX3_keeps_138 ?_
                refine lv_bipush (v := nI 8) hx hb dX3_keeps_141 (by decide) ?_
                refine lv_aload_n hx hb dX3_keeps_143 rfl (lv_at hl 4 rfl) ?_
                refine va_get (D := K.1) (ci := 4) (v := .int (nI ps9.length)) (C := RX3) (T := TX3) (N := 21) hx hb hts iX3 hown hE.k hP 0 rfl rfl 15 (by decide) f88 (fun _ h9 => h9) rfl dX3_keeps_144 ?_
                refine m_imul hx hb dX3_keeps_147 ?_
                refine lv_iload hx hb dX3_keeps_148 (lv_at hl 0 rfl) ?_
                refine m_iadd hx hb dX3_keeps_150 ?_
                refine lv_aload_n hx hb dX3_keeps_151 rfl (lv_at hl 4 rfl) ?_
                refine va_get (D := K.1) (ci := 4) (v := .ref (ad 7)) (C := RX3) (T := TX3) (N := 21) hx hb hts iX3 hown hE.k hP 0 rfl rfl 7 (by decide) f29 (fun _ h9 => h9) rfl dX3_keeps_152 ?_
                refine lv_bipush (v := nI 8) hx hb dX3_keeps_155 (by decide) ?_
                refine lv_iload hx hb dX3_keeps_157 (lv_at hl 1 rfl) ?_
                refine m_imul hx hb dX3_keeps_159 ?_
                refine lv_iload hx hb dX3_keeps_160 (lv_at hl 0 rfl) ?_
                refine m_iadd hx hb dX3_keeps_162 ?_
                refine m_iald hx hb hE.k hP 7 rfl (by omega) (by omega) rfl dX3_keeps_163 ?_
                refine m_iast hx hb hE.k hP hD hS 14 rfl (by omega) (by omega) dX3_keeps_164 (fun H locs hP hD hS => ?_)
                have hP : va_P K.1 vwCl (mW K o ad (va_up (va_up (va_up (va_up (va_up f 10 (upd g10 ps9.length (nI (l9 + 1)))) 11 (upd g11 ps9.length (nI (lenF (fm (54 * k + j)))))) 12 (upd g12 ps9.length (nI (lenF (fm ((54 * k + j) + (9 * (l9 + 1)))))))) 13 (upd g13b ((8 * ps9.length) + i) (f 7 ((8 * (54 * k + j)) + i)))) 14 (upd g14b ((8 * ps9.length) + i) (f 7 ((8 * (54 * k + j + 9 * (l9 + 1))) + i)))) d (nI ps9.length) ta ti la) H := hP
                have hD : va_D A (mW K o ad (va_up (va_up (va_up (va_up (va_up f 10 (upd g10 ps9.length (nI (l9 + 1)))) 11 (upd g11 ps9.length (nI (lenF (fm (54 * k + j)))))) 12 (upd g12 ps9.length (nI (lenF (fm ((54 * k + j) + (9 * (l9 + 1)))))))) 13 (upd g13b ((8 * ps9.length) + i) (f 7 ((8 * (54 * k + j)) + i)))) 14 (upd g14b ((8 * ps9.length) + i) (f 7 ((8 * (54 * k + j + 9 * (l9 + 1))) + i)))) d (nI ps9.length) ta ti la) := hD
                refine lv_iinc (v := nI (i + 1)) (lv' := [(6, .int (nI (i + 1))), (5, .int (nI (54 * k + j + 9 * (l9 + 1)))), (4, .int (nI (l9 + 1))), (3, .int (nI (54 * k + j))), (0, .ref o), (1, .int (nI k)), (2, .int (nI j))]) hx hb dX3_keeps_165 hl (k := 0) rfl (m_inc _) (by decide) rfl (fun ls hl => ?_)
                refine lv_goto (tgt := 103) hx hb dX3_keeps_168 (by decide) ?_
                exact ihb (i + 1) (upd g13b ((8 * ps9.length) + i) (f 7 ((8 * (54 * k + j)) + i))) (upd g14b ((8 * ps9.length) + i) (f 7 ((8 * (54 * k + j + 9 * (l9 + 1))) + i))) _ _ ls (by omega) (by omega) h13.up h14.up hP hD hS (lv_sub hl [0, 1, 2, 3, 4, 5, 6] rfl)
          · refine lv_aload_n hx hb dX3_keeps_54 rfl (lv_at hl 3 rfl) ?_
            refine m_cVv (rest := []) ⟨hx, hb, hml, hown, hts⟩ hE hS (fun _ h => h) (kX3_forgets l K A _ o ad (va_up (va_up (va_up (va_up (va_up f 10 g10) 11 g11) 12 g12) 13 g13) 14 g14) d ta ti la ps9.length (by omega) (by omega) hP hD) (cwV 0 hts gX3_keeps_X3_forgets rfl rfl rfl (by decide +kernel) ⟨Nat.le_of_ble_eq_true rfl, Nat.le_of_ble_eq_true rfl⟩) (va_recv hE.k hP (ci := 4) (q0 := 0) rfl rfl) rfl rfl hl.1 rfl (Nat.le_of_ble_eq_true rfl) dX3_keeps_55 ⟨Nat.le_of_ble_eq_true rfl, Nat.le_of_ble_eq_true rfl⟩ (fun H locs hp hS hk => ?_)
            obtain ⟨g10, g11, g12, g13, g14, hP, hD, hz1, hz2⟩ := hp
            have hm1 : mPs g10 g11 g12 g13 g14 ps9.tail := mPs.tail hm hz1 hz2
            rw [show ps9.length - 1 = ps9.tail.length from List.length_tail.symm] at hP hD
            have hn1 : ps9.tail.length < 20 := by rw [List.length_tail]; omega
            have hpe : ps9.tail = if 20 ≤ ps9.length then ps9.tail else ps9 := (if_pos (by omega)).symm
            have hP : va_P K.1 vwCl (mW K o ad (va_up (va_up (va_up (va_up (va_up f 10 g10) 11 g11) 12 g12) 13 g13) 14 g14) d (nI ps9.tail.length) ta ti la) H := hP
            have hD : va_D A (mW K o ad (va_up (va_up (va_up (va_up (va_up f 10 g10) 11 g11) 12 g12) 13 g13) 14 g14) d (nI ps9.tail.length) ta ti la) := hD
            refine lv_aload_n hx hb dX3_keeps_58 rfl (lv_at hl 3 rfl) ?_
            refine va_get (D := K.1) (ci := 4) (v := .ref (ad 10)) (C := RX3) (T := TX3) (N := 21) hx hb hts iX3 hown hE.k hP 0 rfl rfl 10 (by decide) f38 (fun _ h9 => h9) rfl dX3_keeps_59 ?_
            refine lv_aload_n hx hb dX3_keeps_62 rfl (lv_at hl 3 rfl) ?_
            refine va_get (D := K.1) (ci := 4) (v := .int (nI ps9.tail.length)) (C := RX3) (T := TX3) (N := 21) hx hb hts iX3 hown hE.k hP 0 rfl rfl 15 (by decide) f88 (fun _ h9 => h9) rfl dX3_keeps_63 ?_
            refine lv_iload hx hb dX3_keeps_66 (lv_at hl 1 rfl) ?_
            refine m_iast hx hb hE.k hP hD hS 10 rfl (by omega) (by omega) dX3_keeps_68 (fun H locs hP hD hS => ?_)
            have hP : va_P K.1 vwCl (mW K o ad (va_up (va_up (va_up (va_up (va_up f 10 (upd g10 ps9.tail.length (nI (l9 + 1)))) 11 g11) 12 g12) 13 g13) 14 g14) d (nI ps9.tail.length) ta ti la) H := hP
            have hD : va_D A (mW K o ad (va_up (va_up (va_up (va_up (va_up f 10 (upd g10 ps9.tail.length (nI (l9 + 1)))) 11 g11) 12 g12) 13 g13) 14 g14) d (nI ps9.tail.length) ta ti la) := hD
            refine lv_aload_n hx hb dX3_keeps_69 rfl (lv_at hl 3 rfl) ?_
            refine va_get (D := K.1) (ci := 4) (v := .ref (ad 11)) (C := RX3) (T := TX3) (N := 21) hx hb hts iX3 hown hE.k hP 0 rfl rfl 11 (by decide) f41 (fun _ h9 => h9) rfl dX3_keeps_70 ?_
            refine lv_aload_n hx hb dX3_keeps_73 rfl (lv_at hl 3 rfl) ?_
            refine va_get (D := K.1) (ci := 4) (v := .int (nI ps9.tail.length)) (C := RX3) (T := TX3) (N := 21) hx hb hts iX3 hown hE.k hP 0 rfl rfl 15 (by decide) f88 (fun _ h9 => h9) rfl dX3_keeps_74 ?_
            refine lv_aload_n hx hb dX3_keeps_77 rfl (lv_at hl 3 rfl) ?_
            refine va_get (D := K.1) (ci := 4) (v := .ref (ad 5)) (C := RX3) (T := TX3) (N := 21) hx hb hts iX3 hown hE.k hP 0 rfl rfl 5 (by decide) f22 (fun _ h9 => h9) rfl dX3_keeps_78 ?_
            refine lv_iload_n hx hb dX3_keeps_81 rfl (lv_at hl 2 rfl) ?_
            have hq9 := hfm (54 * k + j) (by omega)
            have hl9 := hq9.2.1
            refine m_iald hx hb hE.k hP 5 rfl (by omega) (by omega) hq9.1 dX3_keeps_82 ?_
            refine m_iast hx hb hE.k hP hD hS 11 rfl (by omega) (by omega) dX3_keeps_83 (fun H locs hP hD hS => ?_)
            have hP : va_P K.1 vwCl (mW K o ad (va_up (va_up (va_up (va_up (va_up f 10 (upd g10 ps9.tail.length (nI (l9 + 1)))) 11 (upd g11 ps9.tail.length (nI (lenF (fm (54 * k + j)))))) 12 g12) 13 g13) 14 g14) d (nI ps9.tail.length) ta ti la) H := hP
            have hD : va_D A (mW K o ad (va_up (va_up (va_up (va_up (va_up f 10 (upd g10 ps9.tail.length (nI (l9 + 1)))) 11 (upd g11 ps9.tail.length (nI (lenF (fm (54 * k + j)))))) 12 g12) 13 g13) 14 g14) d (nI ps9.tail.length) ta ti la) := hD
            refine lv_aload_n hx hb dX3_keeps_84 rfl (lv_at hl 3 rfl) ?_
            refine va_get (D := K.1) (ci := 4) (v := .ref (ad 12)) (C := RX3) (T := TX3) (N := 21) hx hb hts iX3 hown hE.k hP 0 rfl rfl 12 (by decide) f44 (fun _ h9 => h9) rfl dX3_keeps_85 ?_
            refine lv_aload_n hx hb dX3_keeps_88 rfl (lv_at hl 3 rfl) ?_
            refine va_get (D := K.1) (ci := 4) (v := .int (nI ps9.tail.length)) (C := RX3) (T := TX3) (N := 21) hx hb hts iX3 hown hE.k hP 0 rfl rfl 15 (by decide) f88 (fun _ h9 => h9) rfl dX3_keeps_89 ?_
            refine lv_aload_n hx hb dX3_keeps_92 rfl (lv_at hl 3 rfl) ?_
            refine va_get (D := K.1) (ci := 4) (v := .ref (ad 5)) (C := RX3) (T := TX3) (N := 21) hx hb hts iX3 hown hE.k hP 0 rfl rfl 5 (by decide) f22 (fun _ h9 => h9) rfl dX3_keeps_93 ?_
            refine lv_iload hx hb dX3_keeps_96 (lv_at hl 0 rfl) ?_
            have hq9 := hfm ((54 * k + j) + (9 * (l9 + 1))) (by omega)
            have hl9 := hq9.2.1
            refine m_iald hx hb hE.k hP 5 rfl (by omega) (by omega) hq9.1 dX3_keeps_98 ?_
            refine m_iast hx hb hE.k hP hD hS 12 rfl (by omega) (by omega) dX3_keeps_99 (fun H locs hP hD hS => ?_)
            have hP : va_P K.1 vwCl (mW K o ad (va_up (va_up (va_up (va_up (va_up f 10 (upd g10 ps9.tail.length (nI (l9 + 1)))) 11 (upd g11 ps9.tail.length (nI (lenF (fm (54 * k + j)))))) 12 (upd g12 ps9.tail.length (nI (lenF (fm ((54 * k + j) + (9 * (l9 + 1)))))))) 13 g13) 14 g14) d (nI ps9.tail.length) ta ti la) H := hP
            have hD : va_D A (mW K o ad (va_up (va_up (va_up (va_up (va_up f 10 (upd g10 ps9.tail.length (nI (l9 + 1)))) 11 (upd g11 ps9.tail.length (nI (lenF (fm (54 * k + j)))))) 12 (upd g12 ps9.tail.length (nI (lenF (fm ((54 * k + j) + (9 * (l9 + 1)))))))) 13 g13) 14 g14) d (nI ps9.tail.length) ta ti la) := hD
            refine lv_iconst (v := nI 0) hx hb dX3_keeps_100 (by decide) ?_
            refine lv_istore (lv' := [(6, .int (nI 0)), (5, .int (nI ((54 * k + j) + (9 * (l9 + 1))))), (4, .int (nI (l9 + 1))), (3, .int (nI (54 * k + j))), (0, .ref o), (1, .int (nI k)), (2, .int (nI j))]) hx hb dX3_keeps_101 hl (by decide) rfl (fun ls hl => ?_)
            have hl := lv_sub (l' := [(0, .ref o), (1, .int (nI k)), (2, .int (nI j)), (3, .int (nI (54 * k + j))), (4, .int (nI (l9 + 1))), (5, .int (nI ((54 * k + j) + (9 * (l9 + 1))))), (6, .int (nI 0))]) hl [4, 5, 6, 3, 2, 1, 0] rfl
            refine (?_ : ∀ (n9b : Nat) (i : Nat) (g13b : Nat → Int32) (g14b : Nat → Int32) (H : Heap) (locs : List Loc) (ls : Array Slot), i ≤ 8 → 8 < i + n9b → CP (f 7) (8 * (54 * k + j)) g13 g13b ps9.tail.length i → CP (f 7) (8 * (54 * k + j + 9 * (l9 + 1))) g14 g14b ps9.tail.length i → va_P K.1 vwCl (mW K o ad (va_up (va_up (va_up (va_up (va_up f 10 (upd g10 ps9.tail.length (nI (l9 + 1)))) 11 (upd g11 ps9.tail.length (nI (lenF (fm (54 * k + j)))))) 12 (upd g12 ps9.tail.length (nI (lenF (fm ((54 * k + j) + (9 * (l9 + 1)))))))) 13 g13b) 14 g14b) d (nI ps9.tail.length) ta ti la) H → va_D A (mW K o ad (va_up (va_up (va_up (va_up (va_up f 10 (upd g10 ps9.tail.length (nI (l9 + 1)))) 11 (upd g11 ps9.tail.length (nI (lenF (fm (54 * k + j)))))) 12 (upd g12 ps9.tail.length (nI (lenF (fm ((54 * k + j) + (9 * (l9 + 1)))))))) 13 g13b) 14 g14b) d (nI ps9.tail.length) ta ti la) → va_S A s.heap H locs → lv_has ls 7 [(6, .int (nI i)), (5, .int (nI (54 * k + j + 9 * (l9 + 1)))), (4, .int (nI (l9 + 1))), (3, .int (nI (54 * k + j))), (0, .ref o), (1, .int (nI k)), (2, .int (nI j))] → W p l e _ s m args below meth c H locs 0 0 _ (F0 m 103 ls [])) (8 + 1) 0 g13 g14 _ _ ls (by omega) (by omega) (CP.zero _ _ _ _) (CP.zero _ _ _ _) hP hD hS (lv_sub hl [6, 5, 4, 3, 0, 1, 2] rfl)
            clear hS hl hP hD
            intro n9b
            induction n9b with
            | zero => intro i g13b g14b H locs ls hi9 hn9; exact absurd hn9 (by omega)
            | succ n9b ihb =>
              intro i g13b g14b H locs ls hi9b hn9b h13 h14 hP hD hS hl
              refine lv_iload hx hb dX3_keeps_103 (lv_at hl 0 rfl) ?_
              refine lv_bipush (v := nI 8) hx hb dX3_keeps_105 (by decide) ?_
              refine m_icmp_ge (tgt := 171) hx hb (by omega) (by omega) dX3_keeps_107 (by decide) (fun c_107 => ?_) (fun c_107 => ?_)
              · have i8 : i = 8 := by omega
                refine lv_aload_n hx hb dX3_keeps_171 rfl (lv_at hl 4 rfl) ?_
                refine lv_dup hx hb dX3_keeps_172 rfl ?_
                refine va_get (D := K.1) (ci := 4) (v := .int (nI ps9.tail.length)) (C := RX3) (T := TX3) (N := 21) hx hb hts iX3 hown hE.k hP 0 rfl rfl 15 (by decide) f88 (fun _ h9 => h9) rfl dX3_keeps_173 ?_
                refine lv_iconst (v := nI 1) hx hb dX3_keeps_176 (by decide) ?_
                refine m_iadd hx hb dX3_keeps_177 ?_
                refine va_put (D := K.1) (ci := 4) (v := .int (nI (ps9.tail.length + 1))) (ty := .int) (C := RX3) (T := TX3) (N := 21) hx hb hts iX3 tyX3 tyX3_ok nmX3 hown hE.k hP hD hS 0 rfl rfl 15 (by decide) f88 (fun _ h9 => h9) rfl (by decide +kernel) rfl rfl (Nat.le_of_ble_eq_true rfl) dX3_keeps_178 (fun H locs hP hD hS => ?_)
                have hP : va_P K.1 vwCl (mW K o ad (va_up (va_up (va_up (va_up (va_up f 10 (upd g10 ps9.tail.length (nI (l9 + 1)))) 11 (upd g11 ps9.tail.length (nI (lenF (fm (54 * k + j)))))) 12 (upd g12 ps9.tail.length (nI (lenF (fm ((54 * k + j) + (9 * (l9 + 1)))))))) 13 g13b) 14 g14b) d (nI (ps9.tail.length + 1)) ta ti la) H := hP
                have hD : va_D A (mW K o ad (va_up (va_up (va_up (va_up (va_up f 10 (upd g10 ps9.tail.length (nI (l9 + 1)))) 11 (upd g11 ps9.tail.length (nI (lenF (fm (54 * k + j)))))) 12 (upd g12 ps9.tail.length (nI (lenF (fm ((54 * k + j) + (9 * (l9 + 1)))))))) 13 g13b) 14 g14b) d (nI (ps9.tail.length + 1)) ta ti la) := hD
                rw [show ps9.tail.length + 1 = (ps9.tail ++ [(l9 + 1, F, Gf)]).length by simp] at hP hD
                refine lv_iinc (v := nI ((l9 + 1) + 1)) (lv' := [(4, .int (nI ((l9 + 1) + 1))), (6, .int (nI i)), (5, .int (nI (54 * k + j + 9 * (l9 + 1)))), (3, .int (nI (54 * k + j))), (0, .ref o), (1, .int (nI k)), (2, .int (nI j))]) hx hb dX3_keeps_181 hl (k := 2) rfl (m_inc _) (by decide) rfl (fun ls hl => ?_)
                refine lv_goto (tgt := 10) hx hb dX3_keeps_184 (by decide) ?_
                exact iha (l9 + 1) (upd g10 ps9.tail.length (nI (l9 + 1))) (upd g11 ps9.tail.length (nI (lenF (fm (54 * k + j))))) (upd g12 ps9.tail.length (nI (lenF (fm ((54 * k + j) + (9 * (l9 + 1))))))) g13b g14b (ps9.tail ++ [(l9 + 1, F, Gf)]) _ _ ls (by omega) (by omega) (hm1.push hn1 (by omega) hF8 hG8.2 (i8 ▸ h13) (i8 ▸ h14) hFs hGs (congrArg nI hFl) (congrArg nI hGl)) (by rw [keepX_y hF hG, ← hinv, pushP, ← hpe]) hP hD hS (lv_sub hl [0, 3, 4, 5, 6] rfl)
              · refine lv_aload_n hx hb dX3_keeps_110 rfl (lv_at hl 4 rfl) ?_
                refine va_get (D := K.1) (ci := 4) (v := .ref (ad 13)) (C := RX3) (T := TX3) (N := 21) hx hb hts iX3 hown hE.k hP 0 rfl rfl 13 (by decide) f47 (fun _ h9 => h9) rfl dX3_keeps_111 ?_
                refine lv_bipush (v := nI 8) hx hb dX3_keeps_114 (by decide) ?_
                refine lv_aload_n hx hb dX3_keeps_116 rfl (lv_at hl 4 rfl) ?_
                refine va_get (D := K.1) (ci := 4) (v := .int (nI ps9.tail.length)) (C := RX3) (T := TX3) (N := 21) hx hb hts iX3 hown hE.k hP 0 rfl rfl 15 (by decide) f88 (fun _ h9 => h9) rfl dX3_keeps_117 ?_
                refine m_imul hx hb dX3_keeps_120 ?_
                refine lv_iload hx hb dX3_keeps_121 (lv_at hl 0 rfl) ?_
                refine m_iadd hx hb dX3_keeps_123 ?_
                refine lv_aload_n hx hb dX3_keeps_124 rfl (lv_at hl 4 rfl) ?_
                refine va_get (D := K.1) (ci := 4) (v := .ref (ad 7)) (C := RX3) (T := TX3) (N := 21) hx hb hts iX3 hown hE.k hP 0 rfl rfl 7 (by decide) f29 (fun _ h9 => h9) rfl dX3_keeps_125 ?_
                refine lv_bipush (v := nI 8) hx hb dX3_keeps_128 (by decide) ?_
                refine lv_iload_n hx hb dX3_keeps_130 rfl (lv_at hl 3 rfl) ?_
                refine m_imul hx hb dX3_keeps_131 ?_
                refine lv_iload hx hb dX3_keeps_132 (lv_at hl 0 rfl) ?_
                refine m_iadd hx hb dX3_keeps_134 ?_
                refine m_iald hx hb hE.k hP 7 rfl (by omega) (by omega) rfl dX3_keeps_135 ?_
                refine m_iast hx hb hE.k hP hD hS 13 rfl (by omega) (by omega) dX3_keeps_136 (fun H locs hP hD hS => ?_)
                have hP : va_P K.1 vwCl (mW K o ad (va_up (va_up (va_up (va_up (va_up f 10 (upd g10 ps9.tail.length (nI (l9 + 1)))) 11 (upd g11 ps9.tail.length (nI (lenF (fm (54 * k + j)))))) 12 (upd g12 ps9.tail.length (nI (lenF (fm ((54 * k + j) + (9 * (l9 + 1)))))))) 13 (upd g13b ((8 * ps9.tail.length) + i) (f 7 ((8 * (54 * k + j)) + i)))) 14 g14b) d (nI ps9.tail.length) ta ti la) H := hP
                have hD : va_D A (mW K o ad (va_up (va_up (va_up (va_up (va_up f 10 (upd g10 ps9.tail.length (nI (l9 + 1)))) 11 (upd g11 ps9.tail.length (nI (lenF (fm (54 * k + j)))))) 12 (upd g12 ps9.tail.length (nI (lenF (fm ((54 * k + j) + (9 * (l9 + 1)))))))) 13 (upd g13b ((8 * ps9.tail.length) + i) (f 7 ((8 * (54 * k + j)) + i)))) 14 g14b) d (nI ps9.tail.length) ta ti la) := hD
                refine lv_aload_n hx hb dX3_keeps_137 rfl (lv_at hl 4 rfl) ?_
                refine va_get (D := K.1) (ci := 4) (v := .ref (ad 14)) (C := RX3) (T := TX3) (N := 21) hx hb hts iX3 hown hE.k hP 0 rfl rfl 14 (by decide) f50 (fun _ h9 => h9) rfl dX3_keeps_138 ?_
                refine lv_bipush (v := nI 8) hx hb dX3_keeps_141 (by decide) ?_
                refine lv_aload_n hx hb dX3_keeps_143 rfl (lv_at hl 4 rfl) ?_
                refine va_get (D := K.1) (ci := 4) (v := .int (nI ps9.tail.length)) (C := RX3) (T := TX3) (N := 21) hx hb hts iX3 hown hE.k hP 0 rfl rfl 15 (by decide) f88 (fun _ h9 => h9) rfl dX3_keeps_144 ?_
                refine m_imul hx hb dX3_keeps_147 ?_
                refine lv_iload hx hb dX3_keeps_148 (lv_at hl 0 rfl) ?_
                refine m_iadd hx hb dX3_keeps_150 ?_
                refine lv_aload_n hx hb dX3_keeps_151 rfl (lv_at hl 4 rfl) ?_
                refine va_get (D := K.1) (ci := 4) (v := .ref (ad 7)) (C := RX3) (T := TX3) (N := 21) hx hb hts iX3 hown hE.k hP 0 rfl rfl 7 (by decide) f29 (fun _ h9 => h9) rfl dX3_keeps_152 ?_
                refine lv_bipush (v := nI 8) hx hb dX3_keeps_155 (by decide) ?_
                refine lv_iload hx hb dX3_keeps_157 (lv_at hl 1 rfl) ?_
                refine m_imul hx hb dX3_keeps_159 ?_
                refine lv_iload hx hb dX3_keeps_160 (lv_at hl 0 rfl) ?_
                refine m_iadd hx hb dX3_keeps_162 ?_
                refine m_iald hx hb hE.k hP 7 rfl (by omega) (by omega) rfl dX3_keeps_163 ?_
                refine m_iast hx hb hE.k hP hD hS 14 rfl (by omega) (by omega) dX3_keeps_164 (fun H locs hP hD hS => ?_)
                have hP : va_P K.1 vwCl (mW K o ad (va_up (va_up (va_up (va_up (va_up f 10 (upd g10 ps9.tail.length (nI (l9 + 1)))) 11 (upd g11 ps9.tail.length (nI (lenF (fm (54 * k + j)))))) 12 (upd g12 ps9.tail.length (nI (lenF (fm ((54 * k + j) + (9 * (l9 + 1)))))))) 13 (upd g13b ((8 * ps9.tail.length) + i) (f 7 ((8 * (54 * k + j)) + i)))) 14 (upd g14b ((8 * ps9.tail.length) + i) (f 7 ((8 * (54 * k + j + 9 * (l9 + 1))) + i)))) d (nI ps9.tail.length) ta ti la) H := hP
                have hD : va_D A (mW K o ad (va_up (va_up (va_up (va_up (va_up f 10 (upd g10 ps9.tail.length (nI (l9 + 1)))) 11 (upd g11 ps9.tail.length (nI (lenF (fm (54 * k + j)))))) 12 (upd g12 ps9.tail.length (nI (lenF (fm ((54 * k + j) + (9 * (l9 + 1)))))))) 13 (upd g13b ((8 * ps9.tail.length) + i) (f 7 ((8 * (54 * k + j)) + i)))) 14 (upd g14b ((8 * ps9.tail.length) + i) (f 7 ((8 * (54 * k + j + 9 * (l9 + 1))) + i)))) d (nI ps9.tail.length) ta ti la) := hD
                refine lv_iinc (v := nI (i + 1)) (lv' := [(6, .int (nI (i + 1))), (5, .int (nI (54 * k + j + 9 * (l9 + 1)))), (4, .int (nI (l9 + 1))), (3, .int (nI (54 * k + j))), (0, .ref o), (1, .int (nI k)), (2, .int (nI j))]) hx hb dX3_keeps_165 hl (k := 0) rfl (m_inc _) (by decide) rfl (fun ls hl => ?_)
                refine lv_goto (tgt := 103) hx hb dX3_keeps_168 (by decide) ?_
                exact ihb (i + 1) (upd g13b ((8 * ps9.tail.length) + i) (f 7 ((8 * (54 * k + j)) + i))) (upd g14b ((8 * ps9.tail.length) + i) (f 7 ((8 * (54 * k + j + 9 * (l9 + 1))) + i))) _ _ ls (by omega) (by omega) h13.up h14.up hP hD hS (lv_sub hl [0, 1, 2, 3, 4, 5, 6] rfl)

set_option maxHeartbeats 4000000 in
set_option maxRecDepth 100000 in
theorem kX3_changes (l : Launch) (K : m_K) (A : Nat → Prop) (H0 : Heap) (o : Nat) (ad : Nat → Nat) (f : Nat → Nat → Int32) (d ta ti la : Int32) (fm : Nat → Option Frm) (hfm : ∀ k, k < 540 → mF (f 5) (f 6) (f 7) k (fm k)) (ps : List Pr) (hps : mPs (f 10) (f 11) (f 12) (f 13) (f 14) ps) (hP : va_P K.1 vwCl (mW K o ad f d (nI ps.length) ta ti la) H0) (hD : va_D A (mW K o ad f d (nI ps.length) ta ti la)) (k g j : Nat) (hk9 : k < 10) (hg9 : g < 6) (hj9 : j < 9) : Met l yX3_changes wsX3_changes ({ frames := 2, cells := 0, slots := 0, locals := 47 } : Room) (m_Pc K A H0 [.ref o, .int (nI k), .int (nI g), .int (nI j)]) (va_Qv (fun H1 => ∃ f' ps9, va_P K.1 vwCl (mW K o ad f' d (nI ps9.length) ta ti la) H1 ∧ va_D A (mW K o ad f' d (nI ps9.length) ta ti la) ∧ (f' 0 = f 0 ∧ f' 1 = f 1 ∧ f' 2 = f 2 ∧ f' 3 = f 3 ∧ f' 5 = f 5 ∧ f' 6 = f 6 ∧ f' 7 = f 7) ∧ ps9 = psC fm ps k g j ∧ mPs (f' 10) (f' 11) (f' 12) (f' 13) (f' 14) ps9 ∧ f' 8 = (if g = 0 then upd (f 8) k (f 8 k + nI 1) else f 8) ∧ f' 9 = upd (f 9) (6 * k + g) (f' 8 k)) m_B A) 0 0 A := by
  refine m_ofW (by decide) rfl (Nat.le_of_ble_eq_true rfl) ?_
  intro p e s m args below meth c ls hx hb hr hml hown hts hlk hnm hE hsz hS hl
  have hl : lv_has ls 4 [(0, .ref o), (1, .int (nI k)), (2, .int (nI g)), (3, .int (nI j))] := hl
  have iX3 : ∀ w ∈ wsX30, w ∈ wsX3_changes := by decide +kernel
  have f35 := hts (.fieldLink RX3 35 "PhraseCatalogueModel" "changedAt" "[I") (by decide +kernel)
  have f32 := hts (.fieldLink RX3 32 "PhraseCatalogueModel" "versions" "[I") (by decide +kernel)
  refine lv_iload_n hx hb dX3_changes_0 rfl (lv_at hl 2 rfl) ?_
  refine m_if_ne (tgt := 20) hx hb (by omega) dX3_changes_1 (by decide) (fun c_1 => ?_) (fun c_1 => ?_)
  · refine lv_aload_n hx hb dX3_changes_20 rfl (lv_at hl 0 rfl) ?_
    refine va_get (D := K.1) (ci := 4) (v := .ref (ad 9)) (C := RX3) (T := TX3) (N := 21) hx hb hts iX3 hown hE.k hP 0 rfl rfl 9 (by decide) f35 (fun _ h9 => h9) rfl dX3_changes_21 ?_
    refine lv_bipush (v := nI 6) hx hb dX3_changes_24 (by decide) ?_
    refine lv_iload_n hx hb dX3_changes_26 rfl (lv_at hl 1 rfl) ?_
    refine m_imul hx hb dX3_changes_27 ?_
    refine lv_iload_n hx hb dX3_changes_28 rfl (lv_at hl 2 rfl) ?_
    refine m_iadd hx hb dX3_changes_29 ?_
    refine lv_aload_n hx hb dX3_changes_30 rfl (lv_at hl 0 rfl) ?_
    refine va_get (D := K.1) (ci := 4) (v := .ref (ad 8)) (C := RX3) (T := TX3) (N := 21) hx hb hts iX3 hown hE.k hP 0 rfl rfl 8 (by decide) f32 (fun _ h9 => h9) rfl dX3_changes_31 ?_
    refine lv_iload_n hx hb dX3_changes_34 rfl (lv_at hl 1 rfl) ?_
    refine m_iald hx hb hE.k hP 8 rfl (by omega) (by omega) rfl dX3_changes_35 ?_
    refine m_iast hx hb hE.k hP hD hS 9 rfl (by omega) (by omega) dX3_changes_36 (fun H locs hP hD hS => ?_)
    have hP : va_P K.1 vwCl (mW K o ad (va_up f 9 (upd (f 9) ((6 * k) + g) (f 8 k))) d (nI ps.length) ta ti la) H := hP
    have hD : va_D A (mW K o ad (va_up f 9 (upd (f 9) ((6 * k) + g) (f 8 k))) d (nI ps.length) ta ti la) := hD
    exact m_vret hx hb hr hlk hS (Nat.le_of_ble_eq_true rfl) (Nat.le_of_ble_eq_true rfl) dX3_changes_37 (⟨_, ps, hP, hD, ⟨rfl, rfl, rfl, rfl, rfl, rfl, rfl⟩, by rw [psC, if_neg c_1], hps, (if_neg c_1).symm, rfl⟩)
  · refine lv_aload_n hx hb dX3_changes_4 rfl (lv_at hl 0 rfl) ?_
    refine lv_iload_n hx hb dX3_changes_5 rfl (lv_at hl 1 rfl) ?_
    refine lv_iload_n hx hb dX3_changes_6 rfl (lv_at hl 3 rfl) ?_
    refine m_cVv (rest := []) ⟨hx, hb, hml, hown, hts⟩ hE hS (fun _ h => h) (kX3_keeps l K A _ o ad f d ta ti la fm hfm ps hps hP hD k j hk9 hj9) (cwV 2 hts gX3_changes_X3_keeps rfl rfl rfl (by decide +kernel) ⟨Nat.le_of_ble_eq_true rfl, Nat.le_of_ble_eq_true rfl⟩) (va_recv hE.k hP (ci := 4) (q0 := 0) rfl rfl) rfl rfl hl.1 rfl (Nat.le_of_ble_eq_true rfl) dX3_changes_7 ⟨Nat.le_of_ble_eq_true rfl, Nat.le_of_ble_eq_true rfl⟩ (fun H locs hp hS hk => ?_)
    obtain ⟨g10, g11, g12, g13, g14, ps9, hP, hD, hm, hpe⟩ := hp
    refine lv_aload_n hx hb dX3_changes_10 rfl (lv_at hl 0 rfl) ?_
    refine va_get (D := K.1) (ci := 4) (v := .ref (ad 8)) (C := RX3) (T := TX3) (N := 21) hx hb hts iX3 hown hE.k hP 0 rfl rfl 8 (by decide) f32 (fun _ h9 => h9) rfl dX3_changes_11 ?_
    refine lv_iload_n hx hb dX3_changes_14 rfl (lv_at hl 1 rfl) ?_
    refine lv_dup2_11 hx hb dX3_changes_15 rfl rfl ?_
    refine m_iald hx hb hE.k hP 8 rfl (by omega) (by omega) rfl dX3_changes_16 ?_
    refine lv_iconst (v := nI 1) hx hb dX3_changes_17 (by decide) ?_
    refine lv_iadd hx hb dX3_changes_18 ?_
    refine m_iast hx hb hE.k hP hD hS 8 rfl (by omega) (by omega) dX3_changes_19 (fun H locs hP hD hS => ?_)
    have hP : va_P K.1 vwCl (mW K o ad (va_up (va_up (va_up (va_up (va_up (va_up f 8 (upd (f 8) k ((f 8 k) + (nI 1)))) 10 g10) 11 g11) 12 g12) 13 g13) 14 g14) d (nI ps9.length) ta ti la) H := hP
    have hD : va_D A (mW K o ad (va_up (va_up (va_up (va_up (va_up (va_up f 8 (upd (f 8) k ((f 8 k) + (nI 1)))) 10 g10) 11 g11) 12 g12) 13 g13) 14 g14) d (nI ps9.length) ta ti la) := hD
    refine lv_aload_n hx hb dX3_changes_20 rfl (lv_at hl 0 rfl) ?_
    refine va_get (D := K.1) (ci := 4) (v := .ref (ad 9)) (C := RX3) (T := TX3) (N := 21) hx hb hts iX3 hown hE.k hP 0 rfl rfl 9 (by decide) f35 (fun _ h9 => h9) rfl dX3_changes_21 ?_
    refine lv_bipush (v := nI 6) hx hb dX3_changes_24 (by decide) ?_
    refine lv_iload_n hx hb dX3_changes_26 rfl (lv_at hl 1 rfl) ?_
    refine m_imul hx hb dX3_changes_27 ?_
    refine lv_iload_n hx hb dX3_changes_28 rfl (lv_at hl 2 rfl) ?_
    refine m_iadd hx hb dX3_changes_29 ?_
    refine lv_aload_n hx hb dX3_changes_30 rfl (lv_at hl 0 rfl) ?_
    refine va_get (D := K.1) (ci := 4) (v := .ref (ad 8)) (C := RX3) (T := TX3) (N := 21) hx hb hts iX3 hown hE.k hP 0 rfl rfl 8 (by decide) f32 (fun _ h9 => h9) rfl dX3_changes_31 ?_
    refine lv_iload_n hx hb dX3_changes_34 rfl (lv_at hl 1 rfl) ?_
    refine m_iald hx hb hE.k hP 8 rfl (by omega) (by omega) rfl dX3_changes_35 ?_
    refine m_iast hx hb hE.k hP hD hS 9 rfl (by omega) (by omega) dX3_changes_36 (fun H locs hP hD hS => ?_)
    have hP : va_P K.1 vwCl (mW K o ad (va_up (va_up (va_up (va_up (va_up (va_up (va_up f 8 (upd (f 8) k ((f 8 k) + (nI 1)))) 9 (upd (f 9) ((6 * k) + g) ((upd (f 8) k ((f 8 k) + (nI 1))) k))) 10 g10) 11 g11) 12 g12) 13 g13) 14 g14) d (nI ps9.length) ta ti la) H := hP
    have hD : va_D A (mW K o ad (va_up (va_up (va_up (va_up (va_up (va_up (va_up f 8 (upd (f 8) k ((f 8 k) + (nI 1)))) 9 (upd (f 9) ((6 * k) + g) ((upd (f 8) k ((f 8 k) + (nI 1))) k))) 10 g10) 11 g11) 12 g12) 13 g13) 14 g14) d (nI ps9.length) ta ti la) := hD
    exact m_vret hx hb hr hlk hS (Nat.le_of_ble_eq_true rfl) (Nat.le_of_ble_eq_true rfl) dX3_changes_37 (⟨_, ps9, hP, hD, ⟨rfl, rfl, rfl, rfl, rfl, rfl, rfl⟩, by rw [psC, if_pos c_1]; exact hpe, hm, (if_pos c_1).symm, rfl⟩)
