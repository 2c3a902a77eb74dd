
/-- a row of distances out of the one above: i signs read there, cst: whether the signs differ -/
def lvR (prev : Nat → Nat) (i : Nat) (cst : Nat → Nat) : Nat → Nat
  | 0 => i + 1
  | j + 1 => min (prev j + cst j) (1 + min (prev (j + 1)) (lvR prev i cst j))
def lvD (x y : Nat → Int32) : Nat → Nat → Nat
  | 0, j => j
  | i + 1, j => lvR (lvD x y i) i (fun t => if x i = y t then 0 else 1) j
theorem lvD_le (x y : Nat → Int32) : ∀ i j, lvD x y i j ≤ i + j
  | 0, j => by unfold lvD; omega
  | i + 1, 0 => Nat.le_refl _
  | i + 1, j + 1 => by
    show min _ (1 + min (lvD x y i (j + 1)) _) ≤ _
    have := lvD_le x y i (j + 1)
    omega
theorem lvD_0 (x y : Nat → Int32) (i : Nat) : lvD x y i 0 = i := by cases i <;> rfl
def dst (L M : List Int32) : Nat := lvD (fun i => L.getD i 0) (fun j => M.getD j 0) L.length M.length
/-- the near one among the first n pairs: itself, and the least distance so far -/
def nearN (ps : List Pr) (g : Nat) (L : List Int32) : Nat → Option Pr × Nat
  | 0 => (none, L.length / 2)
  | i + 1 => match ps[i]? with
    | none => nearN ps g L i
    | some P => if P.1 = g ∧ dst P.2.1.1 L ≤ (nearN ps g L i).2 then (some P, dst P.2.1.1 L) else nearN ps g L i
theorem nearN_le (ps : List Pr) (g : Nat) (L : List Int32) : ∀ i, (nearN ps g L i).2 ≤ L.length / 2
  | 0 => Nat.le_refl _
  | i + 1 => by
    have h := nearN_le ps g L i
    unfold nearN
    split
    · exact h
    · split
      · rename_i c
        exact Nat.le_trans c.2 h
      · exact h
def nearF (fo : Option Frm) (ps : List Pr) (g : Nat) : Option Pr := match fo with
  | none => none
  | some F => (nearN ps g F.1 ps.length).1
def POpt (K : m_K) (T : va_W) (r : Option Nat) (po : Option Pr) : Prop := match po with
  | none => r = none
  | some P => ∃ a, r = some a ∧ PairAt K T a P
theorem POpt_n {K : m_K} {T : va_W} {r : Option Nat} {po : Option Pr} (h : POpt K T r po) (e : r = none) : po = none := by
  cases po with
  | none => rfl
  | some F =>
    obtain ⟨a, h1, -⟩ := h
    rw [e] at h1
    cases h1
theorem POpt_s {K : m_K} {T : va_W} {r : Option Nat} {a : Nat} {po : Option Pr} (h : POpt K T r po) (e : r = some a) : ∃ P, po = some P ∧ PairAt K T a P := by
  cases po with
  | none => exact absurd (e.symm.trans h) (by simp)
  | some F =>
    obtain ⟨a2, h1, h2⟩ := h
    cases e.symm.trans h1
    exact ⟨F, rfl, h2⟩

theorem row_up1 {w : Nat → Int32} {j : Nat} (h : ∀ t, t < j → w t = nI t) : ∀ t, t < j + 1 → upd w j (nI j) t = nI t := fun t ht => by
  unfold upd
  split
  · rename_i e; rw [e]
  · exact h t (by omega)
theorem row_up2 {w : Nat → Int32} {j : Nat} {v : Nat → Nat} (h : ∀ t, t ≤ j → w t = nI (v t)) : ∀ t, t ≤ j + 1 → upd w (j + 1) (nI (v (j + 1))) t = nI (v t) := fun t ht => by
  unfold upd
  split
  · rename_i e; rw [e]
  · exact h t (by omega)
theorem lvD_y {x y : Nat → Int32} {i j : Nat} (h : x i = y j) : min (lvD x y i j + 0) (1 + min (lvD x y i (j + 1)) (lvD x y (i + 1) j)) = lvD x y (i + 1) (j + 1) := by
  show _ = min (lvD x y i j + (if x i = y j then 0 else 1)) (1 + min (lvD x y i (j + 1)) (lvD x y (i + 1) j))
  rw [if_pos h]
theorem lvD_n {x y : Nat → Int32} {i j : Nat} (h : ¬ x i = y j) : min (lvD x y i j + 1) (1 + min (lvD x y i (j + 1)) (lvD x y (i + 1) j)) = lvD x y (i + 1) (j + 1) := by
  show _ = min (lvD x y i j + (if x i = y j then 0 else 1)) (1 + min (lvD x y i (j + 1)) (lvD x y (i + 1) j))
  rw [if_neg h]

set_option maxHeartbeats 4000000 in
set_option maxRecDepth 100000 in
theorem kX2_distance (l : Launch) (K : m_K) (A : Nat → Prop) (H0 : Heap) (o : Nat) (ad : Nat → Nat) (f : Nat → Nat → Int32) (d : Int32) (ft : Nat → Option Nat) (li : List Value) (T : va_W) (hP : va_P K.1 vwCl (cW K o ad f d ft li T) H0) (hD : va_D A (cW K o ad f d ft li T)) (a1 a2 : Nat) (F G : Frm) (hF : FormAt K T a1 F) (hG : FormAt K T a2 G) : Met l yX2_distance wsX2_distance ({ frames := 1, cells := 0, slots := 0, locals := 40 } : Room) (m_Pc K A H0 [.ref o, .ref a1, .ref a2]) (va_Qi (fun r H1 => r = nI (dst F.1 G.1) ∧ ∃ w, va_P K.1 vwCl (cW K o ad (va_up f 9 w) d ft li T) H1 ∧ va_D A (cW K o ad (va_up f 9 w) d ft li T)) m_B A) 0 0 A := by
  refine m_ofW (by decide) rfl (Nat.le_of_ble_eq_true rfl) ?_
  intro p e s m args below meth c ls hx hb hr hml hown hts hlk hnm hE hsz hS hl
  have hl : lv_has ls 7 [(0, .ref o), (1, .ref a1), (2, .ref a2)] := hl
  obtain ⟨ix1, sq1, jx1, sg1, hix1, hjx1, hsg1, hl11, hl18⟩ := hF
  obtain ⟨ix2, sq2, jx2, sg2, hix2, hjx2, hsg2, hl21, hl28⟩ := hG
  have iX0 : ∀ w ∈ wsX00, w ∈ wsX2_distance := by decide +kernel
  have f118 := hts (.fieldLink RX2 118 "PhraseCatalogue$Form" "signs" "[I") (by decide +kernel)
  have iX2 : ∀ w ∈ wsX20, w ∈ wsX2_distance := by decide +kernel
  have f51 := hts (.fieldLink RX2 51 "PhraseCatalogue" "distanceRow" "[I") (by decide +kernel)
  have mm242 := hts (.methodLink RX2 242 Lib.Math.min.name) (by decide +kernel)
  have msmin := hts (.static Lib.Math.min.name) (by decide +kernel)
  have mini := hts (.initialized "java/lang/Math") (by decide +kernel)
  have mcmin := hts (.code Lib.Math.min.name Lib.Math.min.code 2 (some .int)) (by decide +kernel)
  refine lv_iconst (v := nI 0) hx hb dX2_distance_0 (by decide) ?_
  refine lv_istore_n (lv' := [(3, .int (nI 0)), (0, .ref o), (1, .ref a1), (2, .ref a2)]) hx hb dX2_distance_1 rfl hl (by decide) rfl (fun ls hl => ?_)
  have hP : va_P K.1 vwCl (cW K o ad (va_up f 9 (f 9)) d ft li T) _ := hP
  have hD : va_D A (cW K o ad (va_up f 9 (f 9)) d ft li T) := hD
  refine (?_ : ∀ (n9a : Nat) (j : Nat) (w : Nat → Int32) (H : Heap) (locs : List Loc) (ls : Array Slot), j ≤ G.1.length + 1 → G.1.length + 1 < j + n9a → (∀ t, t < j → w t = nI t) → va_P K.1 vwCl (cW K o ad (va_up f 9 w) d ft li T) H → va_D A (cW K o ad (va_up f 9 w) d ft li T) → va_S A s.heap H locs → lv_has ls 7 [(3, .int (nI j)), (0, .ref o), (1, .ref a1), (2, .ref a2)] → W p l e _ s m args below meth c H locs 0 0 _ (F0 m 2 ls [])) (G.1.length + 1 + 1) 0 (f 9) _ _ ls (by omega) (by omega) (fun t ht => absurd ht (Nat.not_lt_zero t)) hP hD hS (lv_sub hl [0, 1, 2, 3] rfl)
  clear hS hl hP hD
  intro n9a
  induction n9a with
  | zero => intro j w H locs ls hi9 hn9; exact absurd hn9 (by omega)
  | succ n9a iha =>
    intro j w H locs ls hi9a hn9a hw hP hD hS hl
    refine lv_iload_n hx hb dX2_distance_2 rfl (lv_at hl 0 rfl) ?_
    refine lv_aload_n hx hb dX2_distance_3 rfl (lv_at hl 3 rfl) ?_
    refine va_get (D := K.1) (ci := 1) (v := .ref sq2) (C := RX0) (T := TX0) (N := 3) hx hb hts iX0 hown hE.k hP (ix2 + 10) (cW_t hix2) rfl 0 (by decide) f118 (fun _ h9 => h9) rfl dX2_distance_4 ?_
    refine va_alen (v := nI G.1.length) hx hb hE.k hP (jx2 + 10) 0 (cW_t hjx2) rfl rfl dX2_distance_7 ?_
    refine m_icmp_gt (tgt := 24) hx hb (by omega) (by omega) dX2_distance_8 (by decide) (fun c_8 => ?_) (fun c_8 => ?_)
    · refine lv_iconst (v := nI 0) hx hb dX2_distance_24 (by decide) ?_
      refine lv_istore_n (lv' := [(3, .int (nI 0)), (0, .ref o), (1, .ref a1), (2, .ref a2)]) hx hb dX2_distance_25 rfl hl (by decide) rfl (fun ls hl => ?_)
      refine (?_ : ∀ (n9b : Nat) (i : Nat) (w : Nat → Int32) (H : Heap) (locs : List Loc) (ls : Array Slot), i ≤ F.1.length → F.1.length < i + n9b → (∀ t, t ≤ G.1.length → w t = nI (lvD (fun i => F.1.getD i 0) (fun j => G.1.getD j 0) i t)) → va_P K.1 vwCl (cW K o ad (va_up f 9 w) d ft li T) H → va_D A (cW K o ad (va_up f 9 w) d ft li T) → va_S A s.heap H locs → lv_has ls 7 [(3, .int (nI i)), (0, .ref o), (1, .ref a1), (2, .ref a2)] → W p l e _ s m args below meth c H locs 0 0 _ (F0 m 26 ls [])) (F.1.length + 1) 0 w _ _ ls (by omega) (by omega) (fun t ht => hw t (by omega)) hP hD hS (lv_sub hl [0, 1, 2, 3] rfl)
      clear hS hl hP hD
      intro n9b
      induction n9b with
      | zero => intro i w H locs ls hi9 hn9; exact absurd hn9 (by omega)
      | succ n9b ihb =>
        intro i w H locs ls hi9b hn9b hw hP hD hS hl
        refine lv_iload_n hx hb dX2_distance_26 rfl (lv_at hl 0 rfl) ?_
        refine lv_aload_n hx hb dX2_distance_27 rfl (lv_at hl 2 rfl) ?_
        refine va_get (D := K.1) (ci := 1) (v := .ref sq1) (C := RX0) (T := TX0) (N := 3) hx hb hts iX0 hown hE.k hP (ix1 + 10) (cW_t hix1) rfl 0 (by decide) f118 (fun _ h9 => h9) rfl dX2_distance_28 ?_
        refine va_alen (v := nI F.1.length) hx hb hE.k hP (jx1 + 10) 0 (cW_t hjx1) rfl rfl dX2_distance_31 ?_
        refine m_icmp_ge (tgt := 142) hx hb (by omega) (by omega) dX2_distance_32 (by decide) (fun c_32 => ?_) (fun c_32 => ?_)
        · refine lv_aload_n hx hb dX2_distance_142 rfl (lv_at hl 1 rfl) ?_
          refine va_get (D := K.1) (ci := 3) (v := .ref (ad 9)) (C := RX2) (T := TX2) (N := 10) hx hb hts iX2 hown hE.k hP 0 rfl rfl 9 (by decide) f51 (fun _ h9 => h9) rfl dX2_distance_143 ?_
          refine lv_aload_n hx hb dX2_distance_146 rfl (lv_at hl 3 rfl) ?_
          refine va_get (D := K.1) (ci := 1) (v := .ref sq2) (C := RX0) (T := TX0) (N := 3) hx hb hts iX0 hown hE.k hP (ix2 + 10) (cW_t hix2) rfl 0 (by decide) f118 (fun _ h9 => h9) rfl dX2_distance_147 ?_
          refine va_alen (v := nI G.1.length) hx hb hE.k hP (jx2 + 10) 0 (cW_t hjx2) rfl rfl dX2_distance_150 ?_
          refine m_iald hx hb hE.k hP 8 rfl (by omega) (by omega) (hw _ (Nat.le_refl _)) dX2_distance_151 ?_
          exact m_iret hx hb hr hlk hS (Nat.le_of_ble_eq_true rfl) (Nat.le_of_ble_eq_true rfl) dX2_distance_152 (⟨by rw [dst, show F.1.length = i by omega], w, hP, hD⟩)
        · refine lv_aload_n hx hb dX2_distance_35 rfl (lv_at hl 1 rfl) ?_
          refine va_get (D := K.1) (ci := 3) (v := .ref (ad 9)) (C := RX2) (T := TX2) (N := 10) hx hb hts iX2 hown hE.k hP 0 rfl rfl 9 (by decide) f51 (fun _ h9 => h9) rfl dX2_distance_36 ?_
          refine lv_iconst (v := nI 0) hx hb dX2_distance_39 (by decide) ?_
          refine m_iald hx hb hE.k hP 8 rfl (by omega) (by omega) (hw 0 (Nat.zero_le _)) dX2_distance_40 ?_
          refine lv_istore (lv' := [(4, .int (nI (lvD (fun i => F.1.getD i 0) (fun j => G.1.getD j 0) i 0))), (3, .int (nI i)), (0, .ref o), (1, .ref a1), (2, .ref a2)]) hx hb dX2_distance_41 hl (by decide) rfl (fun ls hl => ?_)
          refine lv_aload_n hx hb dX2_distance_43 rfl (lv_at hl 2 rfl) ?_
          refine va_get (D := K.1) (ci := 3) (v := .ref (ad 9)) (C := RX2) (T := TX2) (N := 10) hx hb hts iX2 hown hE.k hP 0 rfl rfl 9 (by decide) f51 (fun _ h9 => h9) rfl dX2_distance_44 ?_
          refine lv_iconst (v := nI 0) hx hb dX2_distance_47 (by decide) ?_
          refine lv_iload_n hx hb dX2_distance_48 rfl (lv_at hl 1 rfl) ?_
          refine lv_iconst (v := nI 1) hx hb dX2_distance_49 (by decide) ?_
          refine m_iadd hx hb dX2_distance_50 ?_
          refine m_iast hx hb hE.k hP hD hS 8 rfl (by omega) (by omega) dX2_distance_51 (fun H locs hP hD hS => ?_)
          have hP : va_P K.1 vwCl (cW K o ad (va_up f 9 (upd w 0 (nI (i + 1)))) d ft li T) H := hP
          have hD : va_D A (cW K o ad (va_up f 9 (upd w 0 (nI (i + 1)))) d ft li T) := hD
          refine lv_iconst (v := nI 0) hx hb dX2_distance_52 (by decide) ?_
          refine lv_istore (lv' := [(5, .int (nI 0)), (4, .int (nI (lvD (fun i => F.1.getD i 0) (fun j => G.1.getD j 0) i 0))), (3, .int (nI i)), (0, .ref o), (1, .ref a1), (2, .ref a2)]) hx hb dX2_distance_53 hl (by decide) rfl (fun ls hl => ?_)
          refine (?_ : ∀ (n9c : Nat) (j : Nat) (w : Nat → Int32) (H : Heap) (locs : List Loc) (ls : Array Slot), j ≤ G.1.length → G.1.length < j + n9c → (∀ t, t ≤ j → w t = nI (lvD (fun i => F.1.getD i 0) (fun j => G.1.getD j 0) (i + 1) t)) → (∀ t, j < t → t ≤ G.1.length → w t = nI (lvD (fun i => F.1.getD i 0) (fun j => G.1.getD j 0) i t)) → va_P K.1 vwCl (cW K o ad (va_up f 9 w) d ft li T) H → va_D A (cW K o ad (va_up f 9 w) d ft li T) → va_S A s.heap H locs → lv_has ls 7 [(5, .int (nI j)), (4, .int (nI (lvD (fun i => F.1.getD i 0) (fun j => G.1.getD j 0) i j))), (3, .int (nI i)), (0, .ref o), (1, .ref a1), (2, .ref a2)] → W p l e _ s m args below meth c H locs 0 0 _ (F0 m 55 ls [])) (G.1.length + 1) 0 (upd w 0 (nI (i + 1))) _ _ ls (by omega) (by omega) (fun t ht => by rw [show t = 0 by omega, lvD_0]; rfl) (fun t ht ht2 => by rw [pk_un (by omega)]; exact hw t ht2) hP hD hS (lv_sub hl [0, 1, 2, 3, 4, 5] rfl)
          clear hS hl hP hD
          intro n9c
          induction n9c with
          | zero => intro j w H locs ls hi9 hn9; exact absurd hn9 (by omega)
          | succ n9c ihc =>
            intro j w H locs ls hi9c hn9c hw1 hw2 hP hD hS hl
            refine lv_iload hx hb dX2_distance_55 (lv_at hl 0 rfl) ?_
            refine lv_aload_n hx hb dX2_distance_57 rfl (lv_at hl 5 rfl) ?_
            refine va_get (D := K.1) (ci := 1) (v := .ref sq2) (C := RX0) (T := TX0) (N := 3) hx hb hts iX0 hown hE.k hP (ix2 + 10) (cW_t hix2) rfl 0 (by decide) f118 (fun _ h9 => h9) rfl dX2_distance_58 ?_
            refine va_alen (v := nI G.1.length) hx hb hE.k hP (jx2 + 10) 0 (cW_t hjx2) rfl rfl dX2_distance_61 ?_
            refine m_icmp_ge (tgt := 136) hx hb (by omega) (by omega) dX2_distance_62 (by decide) (fun c_62 => ?_) (fun c_62 => ?_)
            · refine lv_iinc (v := nI (i + 1)) (lv' := [(3, .int (nI (i + 1))), (5, .int (nI j)), (4, .int (nI (lvD (fun i => F.1.getD i 0) (fun j => G.1.getD j 0) i j))), (0, .ref o), (1, .ref a1), (2, .ref a2)]) hx hb dX2_distance_136 hl (k := 2) rfl (m_inc _) (by decide) rfl (fun ls hl => ?_)
              refine lv_goto (tgt := 26) hx hb dX2_distance_139 (by decide) ?_
              exact ihb (i + 1) w _ _ ls (by omega) (by omega) (fun t ht => hw1 t (by omega)) hP hD hS (lv_sub hl [0, 3, 4, 5] rfl)
            · refine lv_iload hx hb dX2_distance_65 (lv_at hl 1 rfl) ?_
              refine lv_aload_n hx hb dX2_distance_67 rfl (lv_at hl 4 rfl) ?_
              refine va_get (D := K.1) (ci := 1) (v := .ref sq1) (C := RX0) (T := TX0) (N := 3) hx hb hts iX0 hown hE.k hP (ix1 + 10) (cW_t hix1) rfl 0 (by decide) f118 (fun _ h9 => h9) rfl dX2_distance_68 ?_
              refine lv_iload_n hx hb dX2_distance_71 rfl (lv_at hl 2 rfl) ?_
              refine m_iald hx hb hE.k hP (jx1 + 10) (cW_t hjx1) (by omega) (by omega) (hsg1 _ (by omega)) dX2_distance_72 ?_
              refine lv_aload_n hx hb dX2_distance_73 rfl (lv_at hl 5 rfl) ?_
              refine va_get (D := K.1) (ci := 1) (v := .ref sq2) (C := RX0) (T := TX0) (N := 3) hx hb hts iX0 hown hE.k hP (ix2 + 10) (cW_t hix2) rfl 0 (by decide) f118 (fun _ h9 => h9) rfl dX2_distance_74 ?_
              refine lv_iload hx hb dX2_distance_77 (lv_at hl 0 rfl) ?_
              refine m_iald hx hb hE.k hP (jx2 + 10) (cW_t hjx2) (by omega) (by omega) (hsg2 _ (by omega)) dX2_distance_79 ?_
              refine lv_icmp_ne (tgt := 87) hx hb dX2_distance_80 (by decide) (fun c_80 => ?_) (fun c_80 => ?_)
              · have b1 := lvD_le (fun i => F.1.getD i 0) (fun j => G.1.getD j 0) i j
                have b2 := lvD_le (fun i => F.1.getD i 0) (fun j => G.1.getD j 0) i (j + 1)
                have b3 := lvD_le (fun i => F.1.getD i 0) (fun j => G.1.getD j 0) (i + 1) j
                refine lv_iconst (v := nI 1) hx hb dX2_distance_87 (by decide) ?_
                refine m_iadd hx hb dX2_distance_88 ?_
                refine lv_istore (lv' := [(6, .int (nI ((lvD (fun i => F.1.getD i 0) (fun j => G.1.getD j 0) i j) + 1))), (5, .int (nI j)), (4, .int (nI (lvD (fun i => F.1.getD i 0) (fun j => G.1.getD j 0) i j))), (3, .int (nI i)), (0, .ref o), (1, .ref a1), (2, .ref a2)]) hx hb dX2_distance_89 hl (by decide) rfl (fun ls hl => ?_)
                refine lv_aload_n hx hb dX2_distance_91 rfl (lv_at hl 4 rfl) ?_
                refine va_get (D := K.1) (ci := 3) (v := .ref (ad 9)) (C := RX2) (T := TX2) (N := 10) hx hb hts iX2 hown hE.k hP 0 rfl rfl 9 (by decide) f51 (fun _ h9 => h9) rfl dX2_distance_92 ?_
                refine lv_iload hx hb dX2_distance_95 (lv_at hl 1 rfl) ?_
                refine lv_iconst (v := nI 1) hx hb dX2_distance_97 (by decide) ?_
                refine m_iadd hx hb dX2_distance_98 ?_
                refine m_iald hx hb hE.k hP 8 rfl (by omega) (by omega) (hw2 (j + 1) (by omega) (by omega)) dX2_distance_99 ?_
                refine lv_istore (lv' := [(4, .int (nI (lvD (fun i => F.1.getD i 0) (fun j => G.1.getD j 0) i (j + 1)))), (6, .int (nI ((lvD (fun i => F.1.getD i 0) (fun j => G.1.getD j 0) i j) + 1))), (5, .int (nI j)), (3, .int (nI i)), (0, .ref o), (1, .ref a1), (2, .ref a2)]) hx hb dX2_distance_100 hl (by decide) rfl (fun ls hl => ?_)
                refine lv_aload_n hx hb dX2_distance_102 rfl (lv_at hl 4 rfl) ?_
                refine va_get (D := K.1) (ci := 3) (v := .ref (ad 9)) (C := RX2) (T := TX2) (N := 10) hx hb hts iX2 hown hE.k hP 0 rfl rfl 9 (by decide) f51 (fun _ h9 => h9) rfl dX2_distance_103 ?_
                refine lv_iload hx hb dX2_distance_106 (lv_at hl 2 rfl) ?_
                refine lv_iconst (v := nI 1) hx hb dX2_distance_108 (by decide) ?_
                refine m_iadd hx hb dX2_distance_109 ?_
                refine lv_iload hx hb dX2_distance_110 (lv_at hl 1 rfl) ?_
                refine lv_iconst (v := nI 1) hx hb dX2_distance_112 (by decide) ?_
                refine lv_iload hx hb dX2_distance_113 (lv_at hl 0 rfl) ?_
                refine lv_aload_n hx hb dX2_distance_115 rfl (lv_at hl 4 rfl) ?_
                refine va_get (D := K.1) (ci := 3) (v := .ref (ad 9)) (C := RX2) (T := TX2) (N := 10) hx hb hts iX2 hown hE.k hP 0 rfl rfl 9 (by decide) f51 (fun _ h9 => h9) rfl dX2_distance_116 ?_
                refine lv_iload hx hb dX2_distance_119 (lv_at hl 2 rfl) ?_
                refine m_iald hx hb hE.k hP 8 rfl (by omega) (by omega) (hw1 j (Nat.le_refl _)) dX2_distance_121 ?_
                refine m_mmin hx hb (hml.trans hl.1.symm) hown mm242 msmin mini mcmin (Nat.le_of_ble_eq_true rfl) (Nat.le_of_ble_eq_true rfl) (Nat.le_of_ble_eq_true rfl) (Nat.le_of_ble_eq_true rfl) (by omega) (by omega) dX2_distance_122 ?_
                refine m_iadd hx hb dX2_distance_125 ?_
                refine m_mmin hx hb (hml.trans hl.1.symm) hown mm242 msmin mini mcmin (Nat.le_of_ble_eq_true rfl) (Nat.le_of_ble_eq_true rfl) (Nat.le_of_ble_eq_true rfl) (Nat.le_of_ble_eq_true rfl) (by omega) (by omega) dX2_distance_126 ?_
                rw [lvD_n c_80] 
                refine m_iast hx hb hE.k hP hD hS 8 rfl (by omega) (by omega) dX2_distance_129 (fun H locs hP hD hS => ?_)
                have hP : va_P K.1 vwCl (cW K o ad (va_up f 9 (upd w (j + 1) (nI (lvD (fun i => F.1.getD i 0) (fun j => G.1.getD j 0) (i + 1) (j + 1))))) d ft li T) H := hP
                have hD : va_D A (cW K o ad (va_up f 9 (upd w (j + 1) (nI (lvD (fun i => F.1.getD i 0) (fun j => G.1.getD j 0) (i + 1) (j + 1))))) d ft li T) := hD
                refine lv_iinc (v := nI (j + 1)) (lv' := [(5, .int (nI (j + 1))), (4, .int (nI (lvD (fun i => F.1.getD i 0) (fun j => G.1.getD j 0) i (j + 1)))), (6, .int (nI ((lvD (fun i => F.1.getD i 0) (fun j => G.1.getD j 0) i j) + 1))), (3, .int (nI i)), (0, .ref o), (1, .ref a1), (2, .ref a2)]) hx hb dX2_distance_130 hl (k := 2) rfl (m_inc _) (by decide) rfl (fun ls hl => ?_)
                refine lv_goto (tgt := 55) hx hb dX2_distance_133 (by decide) ?_
                exact ihc (j + 1) (upd w (j + 1) (nI (lvD (fun i => F.1.getD i 0) (fun j => G.1.getD j 0) (i + 1) (j + 1)))) _ _ ls (by omega) (by omega) (fun t ht => row_up2 hw1 t ht) (fun t ht ht2 => by rw [pk_un (by omega)]; exact hw2 t (by omega) ht2) hP hD hS (lv_sub hl [0, 1, 3, 4, 5, 6] rfl)
              · have b1 := lvD_le (fun i => F.1.getD i 0) (fun j => G.1.getD j 0) i j
                have b2 := lvD_le (fun i => F.1.getD i 0) (fun j => G.1.getD j 0) i (j + 1)
                have b3 := lvD_le (fun i => F.1.getD i 0) (fun j => G.1.getD j 0) (i + 1) j
                refine lv_iconst (v := nI 0) hx hb dX2_distance_83 (by decide) ?_
                refine lv_goto (tgt := 88) hx hb dX2_distance_84 (by decide) ?_
                refine m_iadd hx hb dX2_distance_88 ?_
                refine lv_istore (lv' := [(6, .int (nI ((lvD (fun i => F.1.getD i 0) (fun j => G.1.getD j 0) i j) + 0))), (5, .int (nI j)), (4, .int (nI (lvD (fun i => F.1.getD i 0) (fun j => G.1.getD j 0) i j))), (3, .int (nI i)), (0, .ref o), (1, .ref a1), (2, .ref a2)]) hx hb dX2_distance_89 hl (by decide) rfl (fun ls hl => ?_)
                refine lv_aload_n hx hb dX2_distance_91 rfl (lv_at hl 4 rfl) ?_
                refine va_get (D := K.1) (ci := 3) (v := .ref (ad 9)) (C := RX2) (T := TX2) (N := 10) hx hb hts iX2 hown hE.k hP 0 rfl rfl 9 (by decide) f51 (fun _ h9 => h9) rfl dX2_distance_92 ?_
                refine lv_iload hx hb dX2_distance_95 (lv_at hl 1 rfl) ?_
                refine lv_iconst (v := nI 1) hx hb dX2_distance_97 (by decide) ?_
                refine m_iadd hx hb dX2_distance_98 ?_
                refine m_iald hx hb hE.k hP 8 rfl (by omega) (by omega) (hw2 (j + 1) (by omega) (by omega)) dX2_distance_99 ?_
                refine lv_istore (lv' := [(4, .int (nI (lvD (fun i => F.1.getD i 0) (fun j => G.1.getD j 0) i (j + 1)))), (6, .int (nI ((lvD (fun i => F.1.getD i 0) (fun j => G.1.getD j 0) i j) + 0))), (5, .int (nI j)), (3, .int (nI i)), (0, .ref o), (1, .ref a1), (2, .ref a2)]) hx hb dX2_distance_100 hl (by decide) rfl (fun ls hl => ?_)
                refine lv_aload_n hx hb dX2_distance_102 rfl (lv_at hl 4 rfl) ?_
                refine va_get (D := K.1) (ci := 3) (v := .ref (ad 9)) (C := RX2) (T := TX2) (N := 10) hx hb hts iX2 hown hE.k hP 0 rfl rfl 9 (by decide) f51 (fun _ h9 => h9) rfl dX2_distance_103 ?_
                refine lv_iload hx hb dX2_distance_106 (lv_at hl 2 rfl) ?_
                refine lv_iconst (v := nI 1) hx hb dX2_distance_108 (by decide) ?_
                refine m_iadd hx hb dX2_distance_109 ?_
                refine lv_iload hx hb dX2_distance_110 (lv_at hl 1 rfl) ?_
                refine lv_iconst (v := nI 1) hx hb dX2_distance_112 (by decide) ?_
                refine lv_iload hx hb dX2_distance_113 (lv_at hl 0 rfl) ?_
                refine lv_aload_n hx hb dX2_distance_115 rfl (lv_at hl 4 rfl) ?_
                refine va_get (D := K.1) (ci := 3) (v := .ref (ad 9)) (C := RX2) (T := TX2) (N := 10) hx hb hts iX2 hown hE.k hP 0 rfl rfl 9 (by decide) f51 (fun _ h9 => h9) rfl dX2_distance_116 ?_
                refine lv_iload hx hb dX2_distance_119 (lv_at hl 2 rfl) ?_
                refine m_iald hx hb hE.k hP 8 rfl (by omega) (by omega) (hw1 j (Nat.le_refl _)) dX2_distance_121 ?_
                refine m_mmin hx hb (hml.trans hl.1.symm) hown mm242 msmin mini mcmin (Nat.le_of_ble_eq_true rfl) (Nat.le_of_ble_eq_true rfl) (Nat.le_of_ble_eq_true rfl) (Nat.le_of_ble_eq_true rfl) (by omega) (by omega) dX2_distance_122 ?_
                refine m_iadd hx hb dX2_distance_125 ?_
                refine m_mmin hx hb (hml.trans hl.1.symm) hown mm242 msmin mini mcmin (Nat.le_of_ble_eq_true rfl) (Nat.le_of_ble_eq_true rfl) (Nat.le_of_ble_eq_true rfl) (Nat.le_of_ble_eq_true rfl) (by omega) (by omega) dX2_distance_126 ?_
                rw [lvD_y c_80] 
                refine m_iast hx hb hE.k hP hD hS 8 rfl (by omega) (by omega) dX2_distance_129 (fun H locs hP hD hS => ?_)
                have hP : va_P K.1 vwCl (cW K o ad (va_up f 9 (upd w (j + 1) (nI (lvD (fun i => F.1.getD i 0) (fun j => G.1.getD j 0) (i + 1) (j + 1))))) d ft li T) H := hP
                have hD : va_D A (cW K o ad (va_up f 9 (upd w (j + 1) (nI (lvD (fun i => F.1.getD i 0) (fun j => G.1.getD j 0) (i + 1) (j + 1))))) d ft li T) := hD
                refine lv_iinc (v := nI (j + 1)) (lv' := [(5, .int (nI (j + 1))), (4, .int (nI (lvD (fun i => F.1.getD i 0) (fun j => G.1.getD j 0) i (j + 1)))), (6, .int (nI ((lvD (fun i => F.1.getD i 0) (fun j => G.1.getD j 0) i j) + 0))), (3, .int (nI i)), (0, .ref o), (1, .ref a1), (2, .ref a2)]) hx hb dX2_distance_130 hl (k := 2) rfl (m_inc _) (by decide) rfl (fun ls hl => ?_)
                refine lv_goto (tgt := 55) hx hb dX2_distance_133 (by decide) ?_
                exact ihc (j + 1) (upd w (j + 1) (nI (lvD (fun i => F.1.getD i 0) (fun j => G.1.getD j 0) (i + 1) (j + 1)))) _ _ ls (by omega) (by omega) (fun t ht => row_up2 hw1 t ht) (fun t ht ht2 => by rw [pk_un (by omega)]; exact hw2 t (by omega) ht2) hP hD hS (lv_sub hl [0, 1, 3, 4, 5, 6] rfl)
    · refine lv_aload_n hx hb dX2_distance_11 rfl (lv_at hl 1 rfl) ?_
      refine va_get (D := K.1) (ci := 3) (v := .ref (ad 9)) (C := RX2) (T := TX2) (N := 10) hx hb hts iX2 hown hE.k hP 0 rfl rfl 9 (by decide) f51 (fun _ h9 => h9) rfl dX2_distance_12 ?_
      refine lv_iload_n hx hb dX2_distance_15 rfl (lv_at hl 0 rfl) ?_
      refine lv_iload_n hx hb dX2_distance_16 rfl (lv_at hl 0 rfl) ?_
      refine m_iast hx hb hE.k hP hD hS 8 rfl (by omega) (by omega) dX2_distance_17 (fun H locs hP hD hS => ?_)
      have hP : va_P K.1 vwCl (cW K o ad (va_up f 9 (upd w j (nI j))) d ft li T) H := hP
      have hD : va_D A (cW K o ad (va_up f 9 (upd w j (nI j))) d ft li T) := hD
      refine lv_iinc (v := nI (j + 1)) (lv' := [(3, .int (nI (j + 1))), (0, .ref o), (1, .ref a1), (2, .ref a2)]) hx hb dX2_distance_18 hl (k := 0) rfl (m_inc _) (by decide) rfl (fun ls hl => ?_)
      refine lv_goto (tgt := 2) hx hb dX2_distance_21 (by decide) ?_
      exact iha (j + 1) (upd w j (nI j)) _ _ ls (by omega) (by omega) (fun t ht => row_up1 hw t ht) hP hD hS (lv_sub hl [0, 1, 2, 3] rfl)

theorem FormAt.len {K : m_K} {T : va_W} {a : Nat} {F : Frm} (h : FormAt K T a F) : F.1.length ≤ 8 := by
  obtain ⟨i, q, j, g, h1, h2, h3, h4, h5⟩ := h
  exact h5

set_option maxHeartbeats 4000000 in
set_option maxRecDepth 100000 in
theorem kX2_findNear (l : Launch) (K : m_K) (A : Nat → Prop) (H0 : Heap) (o : Nat) (ad : Nat → Nat) (f : Nat → Nat → Int32) (d : Int32) (ft : Nat → Option Nat) (li : List Value) (T : va_W) (hP : va_P K.1 vwCl (cW K o ad f d ft li T) H0) (hD : va_D A (cW K o ad f d ft li T)) (ps : List Pr) (hls : LST K T li ps) (g : Nat) (hg9 : g < 6) (r9 : Option Nat) (fo : Option Frm) (hr9 : FOpt K T r9 fo) : Met l yX2_findNear wsX2_findNear ({ frames := 3, cells := 0, slots := 0, locals := 66 } : Room) (m_Pc K A H0 [.ref o, va_rf r9, .int (nI g)]) (va_Qq (fun r H1 => POpt K T r (nearF fo ps g) ∧ ∃ w, va_P K.1 vwCl (cW K o ad (va_up f 9 w) d ft li T) H1 ∧ va_D A (cW K o ad (va_up f 9 w) d ft li T)) m_B A) 0 0 A := by
  cases r9 with
  | none =>
    refine m_ofW (by decide) rfl (Nat.le_of_ble_eq_true rfl) ?_
    intro p e s m args below meth c ls hx hb hr hml hown hts hlk hnm hE hsz hS hl
    have hl : lv_has ls 8 [(0, .ref o), (1, .null), (2, .int (nI g))] := hl
    obtain ⟨md, ed, r99, rfl, hL, hn20, hPl⟩ := hls
    refine lv_aload_nN hx hb dX2_findNear_0 rfl (lv_at hl 1 rfl) ?_
    refine lv_ifnonnullN hx hb dX2_findNear_1 ?_
    refine lv_null hx hb dX2_findNear_4 ?_
    exact m_qret (r := none) hx hb hr (Or.inl ⟨_, rfl⟩) hlk hS (Nat.le_of_ble_eq_true rfl) (Nat.le_of_ble_eq_true rfl) dX2_findNear_5 ⟨by rw [FOpt_has hr9 rfl]; rfl, f 9, hP, hD⟩
  | some a9 =>
    refine m_ofW (by decide) rfl (Nat.le_of_ble_eq_true rfl) ?_
    intro p e s m args below meth c ls hx hb hr hml hown hts hlk hnm hE hsz hS hl
    have hl : lv_has ls 8 [(0, .ref o), (1, .ref a9), (2, .int (nI g))] := hl
    obtain ⟨md, ed, r99, rfl, hL, hn20, hPl⟩ := hls
    have iX0 : ∀ w ∈ wsX00, w ∈ wsX2_findNear := by decide +kernel
    have f118 := hts (.fieldLink RX2 118 "PhraseCatalogue$Form" "signs" "[I") (by decide +kernel)
    have iX2 : ∀ w ∈ wsX20, w ∈ wsX2_findNear := by decide +kernel
    have f47 := hts (.fieldLink RX2 47 "PhraseCatalogue" "past" "Ljava/util/ArrayList;") (by decide +kernel)
    have cl166 := hts (.classLink RX2 166 RX1) (by decide +kernel)
    have iX1 : ∀ w ∈ wsX10, w ∈ wsX2_findNear := by decide +kernel
    have f239 := hts (.fieldLink RX2 239 "PhraseCatalogue$Pair" "language" "I") (by decide +kernel)
    have f165 := hts (.fieldLink RX2 165 "PhraseCatalogue$Pair" "old" "LPhraseCatalogue$Form;") (by decide +kernel)
    obtain ⟨F, hFo, hFa⟩ := FOpt_at hr9 rfl
    obtain ⟨ix, sq, jx, sg, hix, hjx, hsg, hl1, hl8⟩ := id hFa
    refine lv_aload_n hx hb dX2_findNear_0 rfl (lv_at hl 1 rfl) ?_
    refine lv_ifnonnull (tgt := 6) hx hb dX2_findNear_1 (by decide) ?_
    refine lv_null hx hb dX2_findNear_6 ?_
    refine lv_astore_nN (lv' := [(3, .null), (0, .ref o), (1, .ref a9), (2, .int (nI g))]) hx hb dX2_findNear_7 rfl hl (by decide) rfl (fun ls hl => ?_)
    refine lv_aload_n hx hb dX2_findNear_8 rfl (lv_at hl 2 rfl) ?_
    refine va_get (D := K.1) (ci := 1) (v := .ref sq) (C := RX0) (T := TX0) (N := 3) hx hb hts iX0 hown hE.k hP (ix + 10) (cW_t hix) rfl 0 (by decide) f118 (fun _ h9 => h9) rfl dX2_findNear_9 ?_
    refine va_alen (v := nI F.1.length) hx hb hE.k hP (jx + 10) 0 (cW_t hjx) rfl rfl dX2_findNear_12 ?_
    refine lv_iconst (v := nI 2) hx hb dX2_findNear_13 (by decide) ?_
    refine m_idiv hx hb (by omega) (by omega) (by omega) dX2_findNear_14 ?_
    refine lv_istore (lv' := [(4, .int (nI (F.1.length / 2))), (3, .null), (0, .ref o), (1, .ref a9), (2, .int (nI g))]) hx hb dX2_findNear_15 hl (by decide) rfl (fun ls hl => ?_)
    refine lv_iconst (v := nI 0) hx hb dX2_findNear_17 (by decide) ?_
    refine lv_istore (lv' := [(5, .int (nI 0)), (4, .int (nI (F.1.length / 2))), (3, .null), (0, .ref o), (1, .ref a9), (2, .int (nI g))]) hx hb dX2_findNear_18 hl (by decide) rfl (fun ls hl => ?_)
    have hP : va_P K.1 vwCl (cW K o ad (va_up f 9 (f 9)) d ft [.int md, ed, .int (nI ps.length)] T) _ := hP
    have hD : va_D A (cW K o ad (va_up f 9 (f 9)) d ft [.int md, ed, .int (nI ps.length)] T) := hD
    refine (?_ : ∀ (n9 : Nat) (i : Nat) (w : Nat → Int32) (nr : Option Nat) (np : Option Pr) (le : Nat) (H : Heap) (locs : List Loc) (ls : Array Slot), i ≤ ps.length → ps.length < i + n9 → le ≤ F.1.length / 2 → POpt K T nr np → nearN ps g F.1 i = (np, le) → va_P K.1 vwCl (cW K o ad (va_up f 9 w) d ft [.int md, ed, .int (nI ps.length)] T) H → va_D A (cW K o ad (va_up f 9 w) d ft [.int md, ed, .int (nI ps.length)] T) → va_S A s.heap H locs → lv_has ls 8 [(3, va_rf nr), (4, .int (nI le)), (5, .int (nI i)), (0, .ref o), (1, .ref a9), (2, .int (nI g))] → W p l e _ s m args below meth c H locs 0 0 _ (F0 m 20 ls [])) (ps.length + 1) 0 (f 9) none none (F.1.length / 2) _ _ ls (by omega) (by omega) (Nat.le_refl _) rfl rfl hP hD hS (lv_sub hl [2, 1, 0, 3, 4, 5] rfl)
    clear hS hl hP hD
    intro n9
    induction n9 with
    | zero => intro i w nr np le H locs ls hi9 hn9; exact absurd hn9 (by omega)
    | succ n9 ih =>
      intro i w nr np le H locs ls hi9 hn9 hle hnp hinv hP hD hS hl
      refine lv_iload hx hb dX2_findNear_20 (lv_at hl 2 rfl) ?_
      refine lv_aload_n hx hb dX2_findNear_22 rfl (lv_at hl 3 rfl) ?_
      refine va_get (D := K.1) (ci := 3) (v := .ref (ad 8)) (C := RX2) (T := TX2) (N := 10) hx hb hts iX2 hown hE.k hP 0 rfl rfl 8 (by decide) f47 (fun _ h9 => h9) rfl dX2_findNear_23 ?_
      refine m_cVi (rest := [.int (nI i)]) ⟨hx, hb, hml, hown, hts⟩ hE hS (fun _ h => h) (kJx4a65c_size_8abf5 l K A _ _ hP 9 (ad 8) md ed ps.length rfl) (cwV 0 hts gX2_findNear_Jx4a65c_size_8abf5 rfl rfl rfl (by decide +kernel) ⟨Nat.le_of_ble_eq_true rfl, Nat.le_of_ble_eq_true rfl⟩) (va_recv hE.k hP (ci := 0) (q0 := 9) rfl rfl) rfl rfl hl.1 rfl (Nat.le_of_ble_eq_true rfl) dX2_findNear_26 ⟨Nat.le_of_ble_eq_true rfl, Nat.le_of_ble_eq_true rfl⟩ (fun r H1 locs hp hS hk => ?_)
      obtain ⟨rfl, rfl⟩ := hp
      refine m_icmp_ge (tgt := 87) hx hb (by omega) (by omega) dX2_findNear_29 (by decide) (fun c_29 => ?_) (fun c_29 => ?_)
      · refine m_aload_nq hx hb dX2_findNear_87 rfl (lv_at hl 0 rfl) ?_
        exact m_qret (r := nr) hx hb hr (Or.inl ⟨_, rfl⟩) hlk hS (Nat.le_of_ble_eq_true rfl) (Nat.le_of_ble_eq_true rfl) dX2_findNear_88 (⟨by rw [hFo, nearF, show ps.length = i by omega, hinv]; exact hnp, w, hP, hD⟩)
      · refine lv_aload_n hx hb dX2_findNear_32 rfl (lv_at hl 3 rfl) ?_
        refine va_get (D := K.1) (ci := 3) (v := .ref (ad 8)) (C := RX2) (T := TX2) (N := 10) hx hb hts iX2 hown hE.k hP 0 rfl rfl 8 (by decide) f47 (fun _ h9 => h9) rfl dX2_findNear_33 ?_
        refine lv_iload hx hb dX2_findNear_36 (lv_at hl 2 rfl) ?_
        obtain ⟨pa, hr9, hpa⟩ := hPl i _ (List.getElem?_eq_getElem (show i < ps.length by omega))
        have hPi := List.getElem?_eq_getElem (show i < ps.length by omega)
        generalize ps[i] = P at hpa hPi
        rcases hL with ⟨h1, h2⟩ | ⟨ie, aE, cap, fE, h1, h2, h3, h4, h5⟩
        · omega
        subst h1
        refine m_cVq (rest := []) ⟨hx, hb, hml, hown, hts⟩ hE hS (fun _ h => h) (kJx4a65c_get_915e3 l K A _ _ hP 9 (ie + 10) (ad 8) aE md ps.length cap fE rfl (cW_t h2) i (by omega) h3 (by omega)) (cwV 1 hts gX2_findNear_Jx4a65c_get_915e3 rfl rfl rfl (by decide +kernel) ⟨Nat.le_of_ble_eq_true rfl, Nat.le_of_ble_eq_true rfl⟩) (va_recv hE.k hP (ci := 0) (q0 := 9) rfl rfl) rfl rfl hl.1 rfl (Nat.le_of_ble_eq_true rfl) dX2_findNear_38 ⟨Nat.le_of_ble_eq_true rfl, Nat.le_of_ble_eq_true rfl⟩ (fun r H1 locs hp hS hk => ?_)
        obtain ⟨rfl, rfl⟩ := hp
        rw [show fE i = some pa from (h5 i (by omega)).trans hr9]
        obtain ⟨ip, fa, ga, hip, hfa, hga, hP6⟩ := id hpa
        refine va_castS (a := pa) hx hb hown cl166 ((hE.k.1 2 _ rfl).2) (va_recv hE.k hP (ci := 2) (q0 := (ip + 10)) rfl (cW_t hip)) dX2_findNear_41 ?_
        refine lv_astore (lv' := [(6, .ref pa), (3, va_rf nr), (4, .int (nI le)), (5, .int (nI i)), (0, .ref o), (1, .ref a9), (2, .int (nI g))]) hx hb dX2_findNear_44 hl (by decide) rfl (fun ls hl => ?_)
        refine lv_aload hx hb dX2_findNear_46 (lv_at hl 0 rfl) ?_
        refine va_get (D := K.1) (ci := 2) (v := .int (nI P.1)) (C := RX1) (T := TX1) (N := 3) hx hb hts iX1 hown hE.k hP (ip + 10) (cW_t hip) rfl 0 (by decide) f239 (fun _ h9 => h9) rfl dX2_findNear_48 ?_
        refine lv_iload_n hx hb dX2_findNear_51 rfl (lv_at hl 6 rfl) ?_
        refine m_icmp_ne (tgt := 81) hx hb (by omega) (by omega) dX2_findNear_52 (by decide) (fun c_52 => ?_) (fun c_52 => ?_)
        · refine lv_iinc (v := nI (i + 1)) (lv' := [(5, .int (nI (i + 1))), (6, .ref pa), (3, va_rf nr), (4, .int (nI le)), (0, .ref o), (1, .ref a9), (2, .int (nI g))]) hx hb dX2_findNear_81 hl (k := 3) rfl (m_inc _) (by decide) rfl (fun ls hl => ?_)
          refine lv_goto (tgt := 20) hx hb dX2_findNear_84 (by decide) ?_
          exact ih (i + 1) w nr np le _ _ ls (by omega) (by omega) hle hnp (by rw [nearN, hPi]; simp only [hinv]; rw [if_neg (fun z => c_52 z.1)]) hP hD hS (lv_sub hl [2, 3, 0, 4, 5, 6] rfl)
        · refine lv_aload_n hx hb dX2_findNear_55 rfl (lv_at hl 4 rfl) ?_
          refine lv_aload hx hb dX2_findNear_56 (lv_at hl 0 rfl) ?_
          refine va_get (D := K.1) (ci := 2) (v := .ref fa) (C := RX1) (T := TX1) (N := 3) hx hb hts iX1 hown hE.k hP (ip + 10) (cW_t hip) rfl 1 (by decide) f165 (fun _ h9 => h9) rfl dX2_findNear_58 ?_
          refine lv_aload_n hx hb dX2_findNear_61 rfl (lv_at hl 5 rfl) ?_
          refine m_cVi (rest := []) ⟨hx, hb, hml, hown, hts⟩ hE hS (fun _ h => h) (kX2_distance l K A _ o ad (va_up f 9 w) d ft [.int md, .ref aE, .int (nI ps.length)] T hP hD fa a9 P.2.1 F hfa hFa) (cwV 2 hts gX2_findNear_X2_distance rfl rfl rfl (by decide +kernel) ⟨Nat.le_of_ble_eq_true rfl, Nat.le_of_ble_eq_true rfl⟩) (va_recv hE.k hP (ci := 3) (q0 := 0) rfl rfl) rfl rfl hl.1 rfl (Nat.le_of_ble_eq_true rfl) dX2_findNear_62 ⟨Nat.le_of_ble_eq_true rfl, Nat.le_of_ble_eq_true rfl⟩ (fun r H locs hp hS hk => ?_)
          obtain ⟨rfl, w2, hP, hD⟩ := hp
          have hbd := lvD_le (fun i => P.2.1.1.getD i 0) (fun j => F.1.getD j 0) P.2.1.1.length F.1.length
          have hbl : P.2.1.1.length ≤ 8 := hfa.len
          have hbe : dst P.2.1.1 F.1 ≤ P.2.1.1.length + F.1.length := hbd
          have hP : va_P K.1 vwCl (cW K o ad (va_up f 9 w2) d ft [.int md, .ref aE, .int (nI ps.length)] T) H := hP
          have hD : va_D A (cW K o ad (va_up f 9 w2) d ft [.int md, .ref aE, .int (nI ps.length)] T) := hD
          refine lv_istore (lv' := [(7, .int (nI (dst P.2.1.1 F.1))), (6, .ref pa), (3, va_rf nr), (4, .int (nI le)), (5, .int (nI i)), (0, .ref o), (1, .ref a9), (2, .int (nI g))]) hx hb dX2_findNear_65 hl (by decide) rfl (fun ls hl => ?_)
          refine lv_iload hx hb dX2_findNear_67 (lv_at hl 0 rfl) ?_
          refine lv_iload hx hb dX2_findNear_69 (lv_at hl 3 rfl) ?_
          refine m_icmp_gt (tgt := 81) hx hb (by omega) (by omega) dX2_findNear_71 (by decide) (fun c_71 => ?_) (fun c_71 => ?_)
          · refine lv_iinc (v := nI (i + 1)) (lv' := [(5, .int (nI (i + 1))), (7, .int (nI (dst P.2.1.1 F.1))), (6, .ref pa), (3, va_rf nr), (4, .int (nI le)), (0, .ref o), (1, .ref a9), (2, .int (nI g))]) hx hb dX2_findNear_81 hl (k := 4) rfl (m_inc _) (by decide) rfl (fun ls hl => ?_)
            refine lv_goto (tgt := 20) hx hb dX2_findNear_84 (by decide) ?_
            exact ih (i + 1) w2 nr np le _ _ ls (by omega) (by omega) hle hnp (by rw [nearN, hPi]; simp only [hinv]; rw [if_neg (fun z => absurd z.2 (by omega))]) hP hD hS (lv_sub hl [3, 4, 0, 5, 6, 7] rfl)
          · refine lv_iload hx hb dX2_findNear_74 (lv_at hl 0 rfl) ?_
            have hl := lv_sub (l' := [(4, .int (nI le)), (5, .int (nI i)), (0, .ref o), (1, .ref a9), (2, .int (nI g)), (6, .ref pa), (7, .int (nI (dst P.2.1.1 F.1)))]) hl [3, 4, 5, 6, 7, 1, 0] rfl
            refine lv_istore (lv' := [(4, .int (nI (dst P.2.1.1 F.1))), (5, .int (nI i)), (0, .ref o), (1, .ref a9), (2, .int (nI g)), (6, .ref pa), (7, .int (nI (dst P.2.1.1 F.1)))]) hx hb dX2_findNear_76 hl (by decide) rfl (fun ls hl => ?_)
            refine lv_aload hx hb dX2_findNear_78 (lv_at hl 5 rfl) ?_
            refine lv_astore_n (lv' := [(3, .ref pa), (4, .int (nI (dst P.2.1.1 F.1))), (5, .int (nI i)), (0, .ref o), (1, .ref a9), (2, .int (nI g)), (6, .ref pa), (7, .int (nI (dst P.2.1.1 F.1)))]) hx hb dX2_findNear_80 rfl hl (by decide) rfl (fun ls hl => ?_)
            refine lv_iinc (v := nI (i + 1)) (lv' := [(5, .int (nI (i + 1))), (3, .ref pa), (4, .int (nI (dst P.2.1.1 F.1))), (0, .ref o), (1, .ref a9), (2, .int (nI g)), (6, .ref pa), (7, .int (nI (dst P.2.1.1 F.1)))]) hx hb dX2_findNear_81 hl (k := 2) rfl (m_inc _) (by decide) rfl (fun ls hl => ?_)
            refine lv_goto (tgt := 20) hx hb dX2_findNear_84 (by decide) ?_
            exact ih (i + 1) w2 (some pa) (some P) (dst P.2.1.1 F.1) _ _ ls (by omega) (by omega) (by omega) (⟨pa, rfl, hpa⟩) (by rw [nearN, hPi]; simp only [hinv]; rw [if_pos ⟨c_52, Nat.le_of_not_lt c_71⟩]) hP hD hS (lv_sub hl [1, 2, 0, 3, 4, 5] rfl)
