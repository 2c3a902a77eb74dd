
/-! THE MODEL: its object, its arrays -/
def mW (K : m_K) (o : Nat) (ad : Nat → Nat) (f : Nat → Nat → Int32) (d pr ta ti la : Int32) : va_W :=
  (o, .inr (4, [.ref (ad 0), .ref (ad 1), .ref (ad 2), .ref (ad 3), .int d, .ref (ad 5), .ref (ad 6), .ref (ad 7), .ref (ad 8), .ref (ad 9), .ref (ad 10), .ref (ad 11), .ref (ad 12), .ref (ad 13), .ref (ad 14), .int pr, .ref (ad 16), .ref (ad 17), .int ta, .int ti, .int la])) ::
  (ad 0, .inl (K.2.1 0, 6, .inl (f 0))) :: (ad 1, .inl (K.2.1 0, 6, .inl (f 1))) :: (ad 2, .inl (K.2.1 0, 6, .inl (f 2))) :: (ad 3, .inl (K.2.1 0, 8, .inl (f 3))) ::
  (ad 5, .inl (K.2.1 0, 540, .inl (f 5))) :: (ad 6, .inl (K.2.1 1, 540, .inl (f 6))) :: (ad 7, .inl (K.2.1 0, 4320, .inl (f 7))) :: (ad 8, .inl (K.2.1 0, 10, .inl (f 8))) :: (ad 9, .inl (K.2.1 0, 60, .inl (f 9))) ::
  (ad 10, .inl (K.2.1 0, 20, .inl (f 10))) :: (ad 11, .inl (K.2.1 0, 20, .inl (f 11))) :: (ad 12, .inl (K.2.1 0, 20, .inl (f 12))) :: (ad 13, .inl (K.2.1 0, 160, .inl (f 13))) :: (ad 14, .inl (K.2.1 0, 160, .inl (f 14))) ::
  (ad 16, .inl (K.2.1 0, 9, .inl (f 16))) :: (ad 17, .inl (K.2.1 0, 9, .inl (f 17))) :: []
def mF (g5 g6 g7 : Nat → Int32) (k : Nat) (fo : Option Frm) : Prop := g5 k = nI (lenF fo) ∧ lenF fo ≤ 8 ∧ ∀ F, fo = some F → 1 ≤ F.1.length ∧ g6 k = bI F.2 ∧ ∀ j, j < F.1.length → g7 (8 * k + j) = F.1.getD j 0
def mPs (g10 g11 g12 g13 g14 : Nat → Int32) (ps : List Pr) : Prop := ps.length ≤ 20 ∧ ∀ i P, ps[i]? = some P → P.1 < 6 ∧ (1 ≤ P.2.1.1.length ∧ P.2.1.1.length ≤ 8) ∧ P.2.2.1.length ≤ 8 ∧ g10 i = nI P.1 ∧ g11 i = nI P.2.1.1.length ∧ g12 i = nI P.2.2.1.length ∧ (∀ j, j < P.2.1.1.length → g13 (8 * i + j) = P.2.1.1.getD j 0) ∧ ∀ j, j < P.2.2.1.length → g14 (8 * i + j) = P.2.2.1.getD j 0
/-- languages in an order in which each chain comes down -/
def RK (fb : Nat → Nat) (r : Nat → Nat) : Prop := ∀ l, l < 6 → ¬ l = 0 → r (fb l) < r l
def goB (a b c : Bool) : Bool := a && (b && c)
def goL (a b c : Bool) : Nat := if a then (if b then (if c then 0 else 3) else 2) else 1
def inB (v a b : Int32) : Bool := decide (a ≤ v ∧ v ≤ b)
theorem okB_iff {x : Int32} {n : Nat} : okB x n = true ↔ okN x n := decide_eq_true_iff
theorem inB_ok {x : Int32} {n : Nat} (hn : n + 1 < 2147483648) : inB x (nI 0) (nI n) = okB x (n + 1) := by
  unfold inB okB
  refine decide_eq_decide.mpr ⟨fun h => ?_, fun h => ?_⟩
  · have h1 := Int32.le_iff_toInt_le.mp h.1
    have h2 := Int32.le_iff_toInt_le.mp h.2
    rw [nI_toInt (by omega)] at h1 h2
    exact ⟨by omega, by omega⟩
  · refine ⟨Int32.le_iff_toInt_le.mpr ?_, Int32.le_iff_toInt_le.mpr ?_⟩ <;> rw [nI_toInt (by omega)] <;> omega
def okFB (x y z w : Int32) : Bool := okB x 10 && (okB y 6 && (okB z 3 && okB w 3))
theorem okFB_iff {x y z w : Int32} : okFB x y z w = true ↔ okF x y z w := by
  unfold okFB okF
  rw [Bool.and_eq_true, Bool.and_eq_true, Bool.and_eq_true, okB_iff, okB_iff, okB_iff, okB_iff]

set_option maxHeartbeats 4000000 in
set_option maxRecDepth 100000 in
theorem kX3_in (l : Launch) (K : m_K) (A : Nat → Prop) (H0 : Heap) (v a1 a2 : Int32) : Met l yX3_in wsX3_in ({ frames := 0, cells := 0, slots := 0, locals := 0 } : Room) (m_Pc K A H0 [.int v, .int a1, .int a2]) (va_Qi (fun r H1 => r = bI (inB v a1 a2) ∧ H0 = H1) m_B A) 0 0 A := by
  refine m_ofW (by decide) rfl (Nat.le_of_ble_eq_true rfl) ?_
  intro p e s m args below meth c ls hx hb hr hml hown hts hlk hnm hE hsz hS hl
  have hl : lv_has ls 3 [(0, .int v), (1, .int a1), (2, .int a2)] := hl
  refine lv_iload_n hx hb dX3_in_0 rfl (lv_at hl 0 rfl) ?_
  refine lv_iload_n hx hb dX3_in_1 rfl (lv_at hl 1 rfl) ?_
  refine lv_icmp_lt (tgt := 14) hx hb dX3_in_2 (by decide) (fun c_2 => ?_) (fun c_2 => ?_)
  · refine lv_iconst (v := nI 0) hx hb dX3_in_14 (by decide) ?_
    refine W.eq (g2 := F0 m 15 ls [.int (bI false)]) (by rfl) ?_
    exact m_zret hx hb hr hlk hS (Nat.le_of_ble_eq_true rfl) (Nat.le_of_ble_eq_true rfl) dX3_in_15 (⟨by rw [inB, decide_eq_false (fun z => absurd (Int32.not_le.mpr c_2) (fun y => y z.1))], rfl⟩)
  · refine lv_iload_n hx hb dX3_in_5 rfl (lv_at hl 0 rfl) ?_
    refine lv_iload_n hx hb dX3_in_6 rfl (lv_at hl 2 rfl) ?_
    refine lv_icmp_gt (tgt := 14) hx hb dX3_in_7 (by decide) (fun c_7 => ?_) (fun c_7 => ?_)
    · refine lv_iconst (v := nI 0) hx hb dX3_in_14 (by decide) ?_
      refine W.eq (g2 := F0 m 15 ls [.int (bI false)]) (by rfl) ?_
      exact m_zret hx hb hr hlk hS (Nat.le_of_ble_eq_true rfl) (Nat.le_of_ble_eq_true rfl) dX3_in_15 (⟨by rw [inB, decide_eq_false (fun z => absurd (Int32.not_le.mpr c_7) (fun y => y z.2))], rfl⟩)
    · refine lv_iconst (v := nI 1) hx hb dX3_in_10 (by decide) ?_
      refine lv_goto (tgt := 15) hx hb dX3_in_11 (by decide) ?_
      refine W.eq (g2 := F0 m 15 ls [.int (bI true)]) (by rfl) ?_
      exact m_zret hx hb hr hlk hS (Nat.le_of_ble_eq_true rfl) (Nat.le_of_ble_eq_true rfl) dX3_in_15 (⟨by rw [inB, decide_eq_true (show _ ∧ _ from ⟨Int32.not_lt.mp c_2, Int32.not_lt.mp c_7⟩)], rfl⟩)

set_option maxHeartbeats 4000000 in
set_option maxRecDepth 100000 in
theorem kX3_isKey (l : Launch) (K : m_K) (A : Nat → Prop) (H0 : Heap) (x : Int32) : Met l yX3_isKey wsX3_isKey ({ frames := 1, cells := 0, slots := 0, locals := 22 } : Room) (m_Pc K A H0 [.int x]) (va_Qi (fun r H1 => r = bI (okB x 10) ∧ H0 = H1) m_B A) 0 0 A := by
  refine m_ofW (by decide) rfl (Nat.le_of_ble_eq_true rfl) ?_
  intro p e s m args below meth c ls hx hb hr hml hown hts hlk hnm hE hsz hS hl
  have hl : lv_has ls 1 [(0, .int x)] := hl
  refine lv_iload_n hx hb dX3_isKey_0 rfl (lv_at hl 0 rfl) ?_
  refine lv_iconst (v := nI 0) hx hb dX3_isKey_1 (by decide) ?_
  refine lv_bipush (v := nI 9) hx hb dX3_isKey_2 (by decide) ?_
  refine m_cSi (rest := []) ⟨hx, hb, hml, hown, hts⟩ hE hS (fun _ h => h) (kX3_in l K A H0 x (nI 0) (nI 9)) (va_cwS 3 hts gX3_isKey_X3_in rfl rfl rfl (by decide +kernel) ⟨Nat.le_of_ble_eq_true rfl, Nat.le_of_ble_eq_true rfl⟩) rfl rfl hl.1 rfl (Nat.le_of_ble_eq_true rfl) dX3_isKey_4 ⟨Nat.le_of_ble_eq_true rfl, Nat.le_of_ble_eq_true rfl⟩ (fun r H1 locs hp hS hk => ?_)
  obtain ⟨rfl, rfl⟩ := hp
  exact m_zret hx hb hr hlk hS (Nat.le_of_ble_eq_true rfl) (Nat.le_of_ble_eq_true rfl) dX3_isKey_7 (⟨by rw [inB_ok (by decide)], rfl⟩)

set_option maxHeartbeats 4000000 in
set_option maxRecDepth 100000 in
theorem kX3_isLanguage (l : Launch) (K : m_K) (A : Nat → Prop) (H0 : Heap) (x : Int32) : Met l yX3_isLanguage wsX3_isLanguage ({ frames := 1, cells := 0, slots := 0, locals := 22 } : Room) (m_Pc K A H0 [.int x]) (va_Qi (fun r H1 => r = bI (okB x 6) ∧ H0 = H1) m_B A) 0 0 A := by
  refine m_ofW (by decide) rfl (Nat.le_of_ble_eq_true rfl) ?_
  intro p e s m args below meth c ls hx hb hr hml hown hts hlk hnm hE hsz hS hl
  have hl : lv_has ls 1 [(0, .int x)] := hl
  refine lv_iload_n hx hb dX3_isLanguage_0 rfl (lv_at hl 0 rfl) ?_
  refine lv_iconst (v := nI 0) hx hb dX3_isLanguage_1 (by decide) ?_
  refine lv_iconst (v := nI 5) hx hb dX3_isLanguage_2 (by decide) ?_
  refine m_cSi (rest := []) ⟨hx, hb, hml, hown, hts⟩ hE hS (fun _ h => h) (kX3_in l K A H0 x (nI 0) (nI 5)) (va_cwS 3 hts gX3_isLanguage_X3_in rfl rfl rfl (by decide +kernel) ⟨Nat.le_of_ble_eq_true rfl, Nat.le_of_ble_eq_true rfl⟩) rfl rfl hl.1 rfl (Nat.le_of_ble_eq_true rfl) dX3_isLanguage_3 ⟨Nat.le_of_ble_eq_true rfl, Nat.le_of_ble_eq_true rfl⟩ (fun r H1 locs hp hS hk => ?_)
  obtain ⟨rfl, rfl⟩ := hp
  exact m_zret hx hb hr hlk hS (Nat.le_of_ble_eq_true rfl) (Nat.le_of_ble_eq_true rfl) dX3_isLanguage_6 (⟨by rw [inB_ok (by decide)], rfl⟩)

set_option maxHeartbeats 4000000 in
set_option maxRecDepth 100000 in
theorem kX3_isThird (l : Launch) (K : m_K) (A : Nat → Prop) (H0 : Heap) (x : Int32) : Met l yX3_isThird wsX3_isThird ({ frames := 1, cells := 0, slots := 0, locals := 22 } : Room) (m_Pc K A H0 [.int x]) (va_Qi (fun r H1 => r = bI (okB x 3) ∧ H0 = H1) m_B A) 0 0 A := by
  refine m_ofW (by decide) rfl (Nat.le_of_ble_eq_true rfl) ?_
  intro p e s m args below meth c ls hx hb hr hml hown hts hlk hnm hE hsz hS hl
  have hl : lv_has ls 1 [(0, .int x)] := hl
  refine lv_iload_n hx hb dX3_isThird_0 rfl (lv_at hl 0 rfl) ?_
  refine lv_iconst (v := nI 0) hx hb dX3_isThird_1 (by decide) ?_
  refine lv_iconst (v := nI 2) hx hb dX3_isThird_2 (by decide) ?_
  refine m_cSi (rest := []) ⟨hx, hb, hml, hown, hts⟩ hE hS (fun _ h => h) (kX3_in l K A H0 x (nI 0) (nI 2)) (va_cwS 3 hts gX3_isThird_X3_in rfl rfl rfl (by decide +kernel) ⟨Nat.le_of_ble_eq_true rfl, Nat.le_of_ble_eq_true rfl⟩) rfl rfl hl.1 rfl (Nat.le_of_ble_eq_true rfl) dX3_isThird_3 ⟨Nat.le_of_ble_eq_true rfl, Nat.le_of_ble_eq_true rfl⟩ (fun r H1 locs hp hS hk => ?_)
  obtain ⟨rfl, rfl⟩ := hp
  exact m_zret hx hb hr hlk hS (Nat.le_of_ble_eq_true rfl) (Nat.le_of_ble_eq_true rfl) dX3_isThird_6 (⟨by rw [inB_ok (by decide)], rfl⟩)

set_option maxHeartbeats 4000000 in
set_option maxRecDepth 100000 in
theorem kX3_isForm (l : Launch) (K : m_K) (A : Nat → Prop) (H0 : Heap) (x y z w : Int32) : Met l yX3_isForm wsX3_isForm ({ frames := 2, cells := 0, slots := 0, locals := 42 } : Room) (m_Pc K A H0 [.int x, .int y, .int z, .int w]) (va_Qi (fun r H1 => r = bI (okFB x y z w) ∧ H0 = H1) m_B A) 0 0 A := by
  refine m_ofW (by decide) rfl (Nat.le_of_ble_eq_true rfl) ?_
  intro p e s m args below meth c ls hx hb hr hml hown hts hlk hnm hE hsz hS hl
  have hl : lv_has ls 4 [(0, .int x), (1, .int y), (2, .int z), (3, .int w)] := hl
  refine lv_iload_n hx hb dX3_isForm_0 rfl (lv_at hl 0 rfl) ?_
  refine m_cSi (rest := []) ⟨hx, hb, hml, hown, hts⟩ hE hS (fun _ h => h) (kX3_isKey l K A H0 x) (va_cwS 1 hts gX3_isForm_X3_isKey rfl rfl rfl (by decide +kernel) ⟨Nat.le_of_ble_eq_true rfl, Nat.le_of_ble_eq_true rfl⟩) rfl rfl hl.1 rfl (Nat.le_of_ble_eq_true rfl) dX3_isForm_1 ⟨Nat.le_of_ble_eq_true rfl, Nat.le_of_ble_eq_true rfl⟩ (fun r H1 locs hp hS hk => ?_)
  obtain ⟨rfl, rfl⟩ := hp
  refine m_if_eq_b (tgt := 32) hx hb dX3_isForm_4 (by decide) (fun c_4 => ?_) (fun c_4 => ?_)
  · refine lv_iconst (v := nI 0) hx hb dX3_isForm_32 (by decide) ?_
    refine W.eq (g2 := F0 m 33 ls [.int (bI false)]) (by rfl) ?_
    exact m_zret hx hb hr hlk hS (Nat.le_of_ble_eq_true rfl) (Nat.le_of_ble_eq_true rfl) dX3_isForm_33 (⟨by rw [okFB, c_4]; rfl, rfl⟩)
  · refine lv_iload_n hx hb dX3_isForm_7 rfl (lv_at hl 1 rfl) ?_
    refine m_cSi (rest := []) ⟨hx, hb, hml, hown, hts⟩ hE hS (fun _ h => h) (kX3_isLanguage l K A H0 y) (va_cwS 1 hts gX3_isForm_X3_isLanguage rfl rfl rfl (by decide +kernel) ⟨Nat.le_of_ble_eq_true rfl, Nat.le_of_ble_eq_true rfl⟩) rfl rfl hl.1 rfl (Nat.le_of_ble_eq_true rfl) dX3_isForm_8 ⟨Nat.le_of_ble_eq_true rfl, Nat.le_of_ble_eq_true rfl⟩ (fun r H1 locs hp hS hk => ?_)
    obtain ⟨rfl, rfl⟩ := hp
    refine m_if_eq_b (tgt := 32) hx hb dX3_isForm_11 (by decide) (fun c_11 => ?_) (fun c_11 => ?_)
    · refine lv_iconst (v := nI 0) hx hb dX3_isForm_32 (by decide) ?_
      refine W.eq (g2 := F0 m 33 ls [.int (bI false)]) (by rfl) ?_
      exact m_zret hx hb hr hlk hS (Nat.le_of_ble_eq_true rfl) (Nat.le_of_ble_eq_true rfl) dX3_isForm_33 (⟨by rw [okFB, c_4, c_11]; rfl, rfl⟩)
    · refine lv_iload_n hx hb dX3_isForm_14 rfl (lv_at hl 2 rfl) ?_
      refine m_cSi (rest := []) ⟨hx, hb, hml, hown, hts⟩ hE hS (fun _ h => h) (kX3_isThird l K A H0 z) (va_cwS 1 hts gX3_isForm_X3_isThird rfl rfl rfl (by decide +kernel) ⟨Nat.le_of_ble_eq_true rfl, Nat.le_of_ble_eq_true rfl⟩) rfl rfl hl.1 rfl (Nat.le_of_ble_eq_true rfl) dX3_isForm_15 ⟨Nat.le_of_ble_eq_true rfl, Nat.le_of_ble_eq_true rfl⟩ (fun r H1 locs hp hS hk => ?_)
      obtain ⟨rfl, rfl⟩ := hp
      refine m_if_eq_b (tgt := 32) hx hb dX3_isForm_18 (by decide) (fun c_18 => ?_) (fun c_18 => ?_)
      · refine lv_iconst (v := nI 0) hx hb dX3_isForm_32 (by decide) ?_
        refine W.eq (g2 := F0 m 33 ls [.int (bI false)]) (by rfl) ?_
        exact m_zret hx hb hr hlk hS (Nat.le_of_ble_eq_true rfl) (Nat.le_of_ble_eq_true rfl) dX3_isForm_33 (⟨by rw [okFB, c_4, c_11, c_18]; rfl, rfl⟩)
      · refine lv_iload_n hx hb dX3_isForm_21 rfl (lv_at hl 3 rfl) ?_
        refine m_cSi (rest := []) ⟨hx, hb, hml, hown, hts⟩ hE hS (fun _ h => h) (kX3_isThird l K A H0 w) (va_cwS 1 hts gX3_isForm_X3_isThird rfl rfl rfl (by decide +kernel) ⟨Nat.le_of_ble_eq_true rfl, Nat.le_of_ble_eq_true rfl⟩) rfl rfl hl.1 rfl (Nat.le_of_ble_eq_true rfl) dX3_isForm_22 ⟨Nat.le_of_ble_eq_true rfl, Nat.le_of_ble_eq_true rfl⟩ (fun r H1 locs hp hS hk => ?_)
        obtain ⟨rfl, rfl⟩ := hp
        refine m_if_eq_b (tgt := 32) hx hb dX3_isForm_25 (by decide) (fun c_25 => ?_) (fun c_25 => ?_)
        · refine lv_iconst (v := nI 0) hx hb dX3_isForm_32 (by decide) ?_
          refine W.eq (g2 := F0 m 33 ls [.int (bI false)]) (by rfl) ?_
          exact m_zret hx hb hr hlk hS (Nat.le_of_ble_eq_true rfl) (Nat.le_of_ble_eq_true rfl) dX3_isForm_33 (⟨by rw [okFB, c_4, c_11, c_18, c_25]; rfl, rfl⟩)
        · refine lv_iconst (v := nI 1) hx hb dX3_isForm_28 (by decide) ?_
          refine lv_goto (tgt := 33) hx hb dX3_isForm_29 (by decide) ?_
          refine W.eq (g2 := F0 m 33 ls [.int (bI true)]) (by rfl) ?_
          exact m_zret hx hb hr hlk hS (Nat.le_of_ble_eq_true rfl) (Nat.le_of_ble_eq_true rfl) dX3_isForm_33 (⟨by rw [okFB, c_4, c_11, c_18, c_25]; rfl, rfl⟩)

set_option maxHeartbeats 4000000 in
set_option maxRecDepth 100000 in
theorem kX3_at (l : Launch) (K : m_K) (A : Nat → Prop) (H0 : Heap) (k g i u : Nat) : Met l yX3_at wsX3_at ({ frames := 0, cells := 0, slots := 0, locals := 0 } : Room) (m_Pc K A H0 [.int (nI k), .int (nI g), .int (nI i), .int (nI u)]) (va_Qi (fun r H1 => r = nI (54 * k + 9 * g + 3 * i + u) ∧ H0 = H1) m_B A) 0 0 A := by
  refine m_ofW (by decide) rfl (Nat.le_of_ble_eq_true rfl) ?_
  intro p e s m args below meth c ls hx hb hr hml hown hts hlk hnm hE hsz hS hl
  have hl : lv_has ls 4 [(0, .int (nI k)), (1, .int (nI g)), (2, .int (nI i)), (3, .int (nI u))] := hl
  refine lv_bipush (v := nI 9) hx hb dX3_at_0 (by decide) ?_
  refine lv_bipush (v := nI 6) hx hb dX3_at_2 (by decide) ?_
  refine lv_iload_n hx hb dX3_at_4 rfl (lv_at hl 0 rfl) ?_
  refine m_imul hx hb dX3_at_5 ?_
  refine lv_iload_n hx hb dX3_at_6 rfl (lv_at hl 1 rfl) ?_
  refine m_iadd hx hb dX3_at_7 ?_
  refine m_imul hx hb dX3_at_8 ?_
  refine lv_iconst (v := nI 3) hx hb dX3_at_9 (by decide) ?_
  refine lv_iload_n hx hb dX3_at_10 rfl (lv_at hl 2 rfl) ?_
  refine m_imul hx hb dX3_at_11 ?_
  refine m_iadd hx hb dX3_at_12 ?_
  refine lv_iload_n hx hb dX3_at_13 rfl (lv_at hl 3 rfl) ?_
  refine m_iadd hx hb dX3_at_14 ?_
  exact m_iret hx hb hr hlk hS (Nat.le_of_ble_eq_true rfl) (Nat.le_of_ble_eq_true rfl) dX3_at_15 (⟨by rw [show 9 * (6 * k + g) + 3 * i + u = 54 * k + 9 * g + 3 * i + u by omega], rfl⟩)

set_option maxHeartbeats 4000000 in
set_option maxRecDepth 100000 in
theorem kX3_thrown (l : Launch) (K : m_K) (A : Nat → Prop) (H0 : Heap) (o : Nat) (ad : Nat → Nat) (f : Nat → Nat → Int32) (d pr ta ti la : Int32) (hP : va_P K.1 vwCl (mW K o ad f d pr ta ti la) H0) : Met l yX3_thrown wsX3_thrown ({ frames := 0, cells := 0, slots := 0, locals := 0 } : Room) (m_Pc K A H0 [.ref o]) (va_Qi (fun r H1 => r = la ∧ H0 = H1) m_B A) 0 0 A := by
  refine m_ofW (by decide) rfl (Nat.le_of_ble_eq_true rfl) ?_
  intro p e s m args below meth c ls hx hb hr hml hown hts hlk hnm hE hsz hS hl
  have hl : lv_has ls 1 [(0, .ref o)] := hl
  have iX3 : ∀ w ∈ wsX30, w ∈ wsX3_thrown := by decide +kernel
  have f59 := hts (.fieldLink RX3 59 "PhraseCatalogueModel" "last" "I") (by decide +kernel)
  refine lv_aload_n hx hb dX3_thrown_0 rfl (lv_at hl 0 rfl) ?_
  refine va_get (D := K.1) (ci := 4) (v := .int la) (C := RX3) (T := TX3) (N := 21) hx hb hts iX3 hown hE.k hP 0 rfl rfl 20 (by decide) f59 (fun _ h9 => h9) rfl dX3_thrown_1 ?_
  exact m_iret hx hb hr hlk hS (Nat.le_of_ble_eq_true rfl) (Nat.le_of_ble_eq_true rfl) dX3_thrown_4 (⟨rfl, rfl⟩)

set_option maxHeartbeats 4000000 in
set_option maxRecDepth 100000 in
theorem kX3_goes (l : Launch) (K : m_K) (A : Nat → Prop) (H0 : Heap) (o : Nat) (ad : Nat → Nat) (f : Nat → Nat → Int32) (d pr ta ti la : Int32) (hP : va_P K.1 vwCl (mW K o ad f d pr ta ti la) H0) (hD : va_D A (mW K o ad f d pr ta ti la)) (a1 a2 a3 : Bool) : Met l yX3_goes wsX3_goes ({ frames := 0, cells := 0, slots := 0, locals := 0 } : Room) (m_Pc K A H0 [.ref o, .int (bI a1), .int (bI a2), .int (bI a3)]) (va_Qi (fun r H1 => r = bI (goB a1 a2 a3) ∧ va_P K.1 vwCl (mW K o ad f d pr ta ti (nI (goL a1 a2 a3))) H1 ∧ va_D A (mW K o ad f d pr ta ti (nI (goL a1 a2 a3)))) m_B A) 0 0 A := by
  refine m_ofW (by decide) rfl (Nat.le_of_ble_eq_true rfl) ?_
  intro p e s m args below meth c ls hx hb hr hml hown hts hlk hnm hE hsz hS hl
  have hl : lv_has ls 4 [(0, .ref o), (1, .int (bI a1)), (2, .int (bI a2)), (3, .int (bI a3))] := hl
  have iX3 : ∀ w ∈ wsX30, w ∈ wsX3_goes := by decide +kernel
  have f59 := hts (.fieldLink RX3 59 "PhraseCatalogueModel" "last" "I") (by decide +kernel)
  refine lv_aload_n hx hb dX3_goes_0 rfl (lv_at hl 0 rfl) ?_
  refine lv_iload_n hx hb dX3_goes_1 rfl (lv_at hl 1 rfl) ?_
  refine m_if_ne_b (tgt := 9) hx hb dX3_goes_2 (by decide) (fun c_2 => ?_) (fun c_2 => ?_)
  · refine lv_iload_n hx hb dX3_goes_9 rfl (lv_at hl 2 rfl) ?_
    refine m_if_ne_b (tgt := 17) hx hb dX3_goes_10 (by decide) (fun c_10 => ?_) (fun c_10 => ?_)
    · refine lv_iload_n hx hb dX3_goes_17 rfl (lv_at hl 3 rfl) ?_
      refine m_if_eq_b (tgt := 25) hx hb dX3_goes_18 (by decide) (fun c_18 => ?_) (fun c_18 => ?_)
      · refine lv_iconst (v := nI 3) hx hb dX3_goes_25 (by decide) ?_
        refine va_put (D := K.1) (ci := 4) (v := .int (nI 3)) (ty := .int) (C := RX3) (T := TX3) (N := 21) hx hb hts iX3 tyX3 tyX3_ok nmX3 hown hE.k hP hD hS 0 rfl rfl 20 (by decide) f59 (fun _ h9 => h9) rfl (by decide +kernel) rfl rfl (Nat.le_of_ble_eq_true rfl) dX3_goes_26 (fun H locs hP hD hS => ?_)
        have hP : va_P K.1 vwCl (mW K o ad f d pr ta ti (nI 3)) H := hP
        have hD : va_D A (mW K o ad f d pr ta ti (nI 3)) := hD
        refine lv_aload_n hx hb dX3_goes_29 rfl (lv_at hl 0 rfl) ?_
        refine va_get (D := K.1) (ci := 4) (v := .int (nI 3)) (C := RX3) (T := TX3) (N := 21) hx hb hts iX3 hown hE.k hP 0 rfl rfl 20 (by decide) f59 (fun _ h9 => h9) rfl dX3_goes_30 ?_
        refine m_if_ne (tgt := 40) hx hb (by omega) dX3_goes_33 (by decide) (fun c_33 => ?_) (fun c_33 => ?_)
        · refine lv_iconst (v := nI 0) hx hb dX3_goes_40 (by decide) ?_
          refine W.eq (g2 := F0 m 41 ls [.int (bI false)]) (by rfl) ?_
          exact m_zret hx hb hr hlk hS (Nat.le_of_ble_eq_true rfl) (Nat.le_of_ble_eq_true rfl) dX3_goes_41 (⟨by rw [c_2, c_10, c_18]; rfl, by rw [c_2, c_10, c_18]; exact hP, by rw [c_2, c_10, c_18]; exact hD⟩)
        · exact absurd c_33 (by decide)
      · refine lv_iconst (v := nI 0) hx hb dX3_goes_21 (by decide) ?_
        refine lv_goto (tgt := 26) hx hb dX3_goes_22 (by decide) ?_
        refine va_put (D := K.1) (ci := 4) (v := .int (nI 0)) (ty := .int) (C := RX3) (T := TX3) (N := 21) hx hb hts iX3 tyX3 tyX3_ok nmX3 hown hE.k hP hD hS 0 rfl rfl 20 (by decide) f59 (fun _ h9 => h9) rfl (by decide +kernel) rfl rfl (Nat.le_of_ble_eq_true rfl) dX3_goes_26 (fun H locs hP hD hS => ?_)
        have hP : va_P K.1 vwCl (mW K o ad f d pr ta ti (nI 0)) H := hP
        have hD : va_D A (mW K o ad f d pr ta ti (nI 0)) := hD
        refine lv_aload_n hx hb dX3_goes_29 rfl (lv_at hl 0 rfl) ?_
        refine va_get (D := K.1) (ci := 4) (v := .int (nI 0)) (C := RX3) (T := TX3) (N := 21) hx hb hts iX3 hown hE.k hP 0 rfl rfl 20 (by decide) f59 (fun _ h9 => h9) rfl dX3_goes_30 ?_
        refine m_if_ne (tgt := 40) hx hb (by omega) dX3_goes_33 (by decide) (fun c_33 => ?_) (fun c_33 => ?_)
        · exact absurd c_33 (by decide)
        · refine lv_iconst (v := nI 1) hx hb dX3_goes_36 (by decide) ?_
          refine lv_goto (tgt := 41) hx hb dX3_goes_37 (by decide) ?_
          refine W.eq (g2 := F0 m 41 ls [.int (bI true)]) (by rfl) ?_
          exact m_zret hx hb hr hlk hS (Nat.le_of_ble_eq_true rfl) (Nat.le_of_ble_eq_true rfl) dX3_goes_41 (⟨by rw [c_2, c_10, c_18]; rfl, by rw [c_2, c_10, c_18]; exact hP, by rw [c_2, c_10, c_18]; exact hD⟩)
    · refine lv_iconst (v := nI 2) hx hb dX3_goes_13 (by decide) ?_
      refine lv_goto (tgt := 26) hx hb dX3_goes_14 (by decide) ?_
      refine va_put (D := K.1) (ci := 4) (v := .int (nI 2)) (ty := .int) (C := RX3) (T := TX3) (N := 21) hx hb hts iX3 tyX3 tyX3_ok nmX3 hown hE.k hP hD hS 0 rfl rfl 20 (by decide) f59 (fun _ h9 => h9) rfl (by decide +kernel) rfl rfl (Nat.le_of_ble_eq_true rfl) dX3_goes_26 (fun H locs hP hD hS => ?_)
      have hP : va_P K.1 vwCl (mW K o ad f d pr ta ti (nI 2)) H := hP
      have hD : va_D A (mW K o ad f d pr ta ti (nI 2)) := hD
      refine lv_aload_n hx hb dX3_goes_29 rfl (lv_at hl 0 rfl) ?_
      refine va_get (D := K.1) (ci := 4) (v := .int (nI 2)) (C := RX3) (T := TX3) (N := 21) hx hb hts iX3 hown hE.k hP 0 rfl rfl 20 (by decide) f59 (fun _ h9 => h9) rfl dX3_goes_30 ?_
      refine m_if_ne (tgt := 40) hx hb (by omega) dX3_goes_33 (by decide) (fun c_33 => ?_) (fun c_33 => ?_)
      · refine lv_iconst (v := nI 0) hx hb dX3_goes_40 (by decide) ?_
        refine W.eq (g2 := F0 m 41 ls [.int (bI false)]) (by rfl) ?_
        exact m_zret hx hb hr hlk hS (Nat.le_of_ble_eq_true rfl) (Nat.le_of_ble_eq_true rfl) dX3_goes_41 (⟨by rw [c_2, c_10]; rfl, by rw [c_2, c_10]; exact hP, by rw [c_2, c_10]; exact hD⟩)
      · exact absurd c_33 (by decide)
  · refine lv_iconst (v := nI 1) hx hb dX3_goes_5 (by decide) ?_
    refine lv_goto (tgt := 26) hx hb dX3_goes_6 (by decide) ?_
    refine va_put (D := K.1) (ci := 4) (v := .int (nI 1)) (ty := .int) (C := RX3) (T := TX3) (N := 21) hx hb hts iX3 tyX3 tyX3_ok nmX3 hown hE.k hP hD hS 0 rfl rfl 20 (by decide) f59 (fun _ h9 => h9) rfl (by decide +kernel) rfl rfl (Nat.le_of_ble_eq_true rfl) dX3_goes_26 (fun H locs hP hD hS => ?_)
    have hP : va_P K.1 vwCl (mW K o ad f d pr ta ti (nI 1)) H := hP
    have hD : va_D A (mW K o ad f d pr ta ti (nI 1)) := hD
    refine lv_aload_n hx hb dX3_goes_29 rfl (lv_at hl 0 rfl) ?_
    refine va_get (D := K.1) (ci := 4) (v := .int (nI 1)) (C := RX3) (T := TX3) (N := 21) hx hb hts iX3 hown hE.k hP 0 rfl rfl 20 (by decide) f59 (fun _ h9 => h9) rfl dX3_goes_30 ?_
    refine m_if_ne (tgt := 40) hx hb (by omega) dX3_goes_33 (by decide) (fun c_33 => ?_) (fun c_33 => ?_)
    · refine lv_iconst (v := nI 0) hx hb dX3_goes_40 (by decide) ?_
      refine W.eq (g2 := F0 m 41 ls [.int (bI false)]) (by rfl) ?_
      exact m_zret hx hb hr hlk hS (Nat.le_of_ble_eq_true rfl) (Nat.le_of_ble_eq_true rfl) dX3_goes_41 (⟨by rw [c_2]; rfl, by rw [c_2]; exact hP, by rw [c_2]; exact hD⟩)
    · exact absurd c_33 (by decide)

set_option maxHeartbeats 4000000 in
set_option maxRecDepth 100000 in
theorem kX3_isInChain (l : Launch) (K : m_K) (A : Nat → Prop) (H0 : Heap) (o : Nat) (ad : Nat → Nat) (f : Nat → Nat → Int32) (d pr ta ti la : Int32) (hP : va_P K.1 vwCl (mW K o ad f d pr ta ti la) H0) (fb : Nat → Nat) (hfb : ∀ l, l < 6 → f 0 l = nI (fb l) ∧ fb l < 6) (rk : Nat → Nat) (hRK : RK fb rk) (hr5 : ∀ l, l < 6 → rk l < 6) (b9 a : Nat) (hb9 : b9 < 6) (ha : a < 6) : Met l yX3_isInChain wsX3_isInChain ({ frames := 0, cells := 0, slots := 0, locals := 0 } : Room) (m_Pc K A H0 [.ref o, .int (nI b9), .int (nI a)]) (va_Qi (fun r H1 => r = bI (chP fb b9 6 a 0).isSome ∧ H0 = H1) m_B A) 0 0 A := by
  refine m_ofW (by decide) rfl (Nat.le_of_ble_eq_true rfl) ?_
  intro p e s m args below meth c ls hx hb hr hml hown hts hlk hnm hE hsz hS hl
  have hl : lv_has ls 4 [(0, .ref o), (1, .int (nI b9)), (2, .int (nI a))] := hl
  have iX3 : ∀ w ∈ wsX30, w ∈ wsX3_isInChain := by decide +kernel
  have f7 := hts (.fieldLink RX3 7 "PhraseCatalogueModel" "fallbacks" "[I") (by decide +kernel)
  refine lv_iload_n hx hb dX3_isInChain_0 rfl (lv_at hl 2 rfl) ?_
  refine lv_istore_n (lv' := [(3, .int (nI a)), (0, .ref o), (1, .int (nI b9)), (2, .int (nI a))]) hx hb dX3_isInChain_1 rfl hl (by decide) rfl (fun ls hl => ?_)
  refine (?_ : ∀ (n9 : Nat) (i : Nat) (at9 : Nat) (locs : List Loc) (ls : Array Slot), i ≤ 6 → 6 < i + n9 → at9 < 6 → rk at9 + i ≤ rk a → chP fb b9 (6 - i) at9 i = chP fb b9 6 a 0 → va_S A s.heap H0 locs → lv_has ls 4 [(3, .int (nI at9)), (0, .ref o), (1, .int (nI b9)), (2, .int (nI a))] → W p l e _ s m args below meth c H0 locs 0 0 _ (F0 m 2 ls [])) (6 + 1) 0 a _ ls (by omega) (by omega) ha (by omega) rfl hS (lv_sub hl [0, 1, 2, 3] rfl)
  clear hS hl
  intro n9
  induction n9 with
  | zero => intro i at9 locs ls hi9 hn9; exact absurd hn9 (by omega)
  | succ n9 ih =>
    intro i at9 locs ls hi9 hn9 hat hrk hinv hS hl
    refine lv_iload_n hx hb dX3_isInChain_2 rfl (lv_at hl 0 rfl) ?_
    refine lv_iload_n hx hb dX3_isInChain_3 rfl (lv_at hl 2 rfl) ?_
    refine m_icmp_eq (tgt := 21) hx hb (by omega) (by omega) dX3_isInChain_4 (by decide) (fun c_4 => ?_) (fun c_4 => ?_)
    · have hi5 := hr5 a ha
      refine lv_iload_n hx hb dX3_isInChain_21 rfl (lv_at hl 0 rfl) ?_
      refine lv_iload_n hx hb dX3_isInChain_22 rfl (lv_at hl 2 rfl) ?_
      refine m_icmp_ne (tgt := 30) hx hb (by omega) (by omega) dX3_isInChain_23 (by decide) (fun c_23 => ?_) (fun c_23 => ?_)
      · exact absurd c_4 c_23
      · refine lv_iconst (v := nI 1) hx hb dX3_isInChain_26 (by decide) ?_
        refine lv_goto (tgt := 31) hx hb dX3_isInChain_27 (by decide) ?_
        refine W.eq (g2 := F0 m 31 ls [.int (bI true)]) (by rfl) ?_
        exact m_zret hx hb hr hlk hS (Nat.le_of_ble_eq_true rfl) (Nat.le_of_ble_eq_true rfl) dX3_isInChain_31 (⟨by rw [← hinv, show 6 - i = (6 - (i + 1)) + 1 by omega, chP, if_pos (c_23)]; rfl, rfl⟩)
    · refine lv_iload_n hx hb dX3_isInChain_7 rfl (lv_at hl 0 rfl) ?_
      refine m_if_eq (tgt := 21) hx hb (by omega) dX3_isInChain_8 (by decide) (fun c_8 => ?_) (fun c_8 => ?_)
      · have hi5 := hr5 a ha
        refine lv_iload_n hx hb dX3_isInChain_21 rfl (lv_at hl 0 rfl) ?_
        refine lv_iload_n hx hb dX3_isInChain_22 rfl (lv_at hl 2 rfl) ?_
        refine m_icmp_ne (tgt := 30) hx hb (by omega) (by omega) dX3_isInChain_23 (by decide) (fun c_23 => ?_) (fun c_23 => ?_)
        · refine lv_iconst (v := nI 0) hx hb dX3_isInChain_30 (by decide) ?_
          refine W.eq (g2 := F0 m 31 ls [.int (bI false)]) (by rfl) ?_
          exact m_zret hx hb hr hlk hS (Nat.le_of_ble_eq_true rfl) (Nat.le_of_ble_eq_true rfl) dX3_isInChain_31 (⟨by rw [← hinv, show 6 - i = (6 - (i + 1)) + 1 by omega, chP, if_neg c_23, if_pos c_8]; rfl, rfl⟩)
        · refine lv_iconst (v := nI 1) hx hb dX3_isInChain_26 (by decide) ?_
          refine lv_goto (tgt := 31) hx hb dX3_isInChain_27 (by decide) ?_
          refine W.eq (g2 := F0 m 31 ls [.int (bI true)]) (by rfl) ?_
          exact m_zret hx hb hr hlk hS (Nat.le_of_ble_eq_true rfl) (Nat.le_of_ble_eq_true rfl) dX3_isInChain_31 (⟨by rw [← hinv, show 6 - i = (6 - (i + 1)) + 1 by omega, chP, if_pos (c_23)]; rfl, rfl⟩)
      · have hi5 := hr5 a ha
        refine lv_aload_n hx hb dX3_isInChain_11 rfl (lv_at hl 1 rfl) ?_
        refine va_get (D := K.1) (ci := 4) (v := .ref (ad 0)) (C := RX3) (T := TX3) (N := 21) hx hb hts iX3 hown hE.k hP 0 rfl rfl 0 (by decide) f7 (fun _ h9 => h9) rfl dX3_isInChain_12 ?_
        refine lv_iload_n hx hb dX3_isInChain_15 rfl (lv_at hl 0 rfl) ?_
        refine m_iald hx hb hE.k hP 1 rfl (by omega) (by omega) ((hfb _ (by omega)).1) dX3_isInChain_16 ?_
        refine lv_istore_n (lv' := [(3, .int (nI (fb at9))), (0, .ref o), (1, .int (nI b9)), (2, .int (nI a))]) hx hb dX3_isInChain_17 rfl hl (by decide) rfl (fun ls hl => ?_)
        refine lv_goto (tgt := 2) hx hb dX3_isInChain_18 (by decide) ?_
        exact ih (i + 1) (fb at9) _ ls (by omega) (by omega) ((hfb _ hat).2) (by have := hRK at9 hat c_8; omega) (by rw [← hinv, show 6 - i = (6 - (i + 1)) + 1 by omega, chP, if_neg c_4, if_neg c_8]) hS (lv_sub hl [0, 1, 2, 3] rfl)

set_option maxHeartbeats 4000000 in
set_option maxRecDepth 100000 in
theorem kX3_kind (l : Launch) (K : m_K) (A : Nat → Prop) (H0 : Heap) (o : Nat) (ad : Nat → Nat) (f : Nat → Nat → Int32) (d pr ta ti la : Int32) (hP : va_P K.1 vwCl (mW K o ad f d pr ta ti la) H0) (on fw : Nat → Int32) (hon : ∀ g, g < 6 → f 1 g = on g) (hfw : ∀ g, g < 6 → f 2 g = fw g) (g : Nat) (hg : g < 6) (x : Int32) : Met l yX3_kind wsX3_kind ({ frames := 0, cells := 0, slots := 0, locals := 0 } : Room) (m_Pc K A H0 [.ref o, .int (nI g), .int x]) (va_Qi (fun r H1 => r = nI (kindF on fw g x) ∧ H0 = H1) m_B A) 0 0 A := by
  refine m_ofW (by decide) rfl (Nat.le_of_ble_eq_true rfl) ?_
  intro p e s m args below meth c ls hx hb hr hml hown hts hlk hnm hE hsz hS hl
  have hl : lv_has ls 3 [(0, .ref o), (1, .int (nI g)), (2, .int x)] := hl
  have iX3 : ∀ w ∈ wsX30, w ∈ wsX3_kind := by decide +kernel
  have f13 := hts (.fieldLink RX3 13 "PhraseCatalogueModel" "ones" "[I") (by decide +kernel)
  have f16 := hts (.fieldLink RX3 16 "PhraseCatalogueModel" "fews" "[I") (by decide +kernel)
  refine lv_iload_n hx hb dX3_kind_0 rfl (lv_at hl 2 rfl) ?_
  refine lv_if_ne (tgt := 8) hx hb dX3_kind_1 (by decide) (fun c_1 => ?_) (fun c_1 => ?_)
  · refine lv_iload_n hx hb dX3_kind_8 rfl (lv_at hl 2 rfl) ?_
    refine lv_aload_n hx hb dX3_kind_9 rfl (lv_at hl 0 rfl) ?_
    refine va_get (D := K.1) (ci := 4) (v := .ref (ad 1)) (C := RX3) (T := TX3) (N := 21) hx hb hts iX3 hown hE.k hP 0 rfl rfl 1 (by decide) f13 (fun _ h9 => h9) rfl dX3_kind_10 ?_
    refine lv_iload_n hx hb dX3_kind_13 rfl (lv_at hl 1 rfl) ?_
    refine m_iald hx hb hE.k hP 2 rfl (by omega) (by omega) (hon _ (by omega)) dX3_kind_14 ?_
    refine lv_icmp_gt (tgt := 22) hx hb dX3_kind_15 (by decide) (fun c_15 => ?_) (fun c_15 => ?_)
    · refine lv_iload_n hx hb dX3_kind_22 rfl (lv_at hl 2 rfl) ?_
      refine lv_aload_n hx hb dX3_kind_23 rfl (lv_at hl 0 rfl) ?_
      refine va_get (D := K.1) (ci := 4) (v := .ref (ad 2)) (C := RX3) (T := TX3) (N := 21) hx hb hts iX3 hown hE.k hP 0 rfl rfl 2 (by decide) f16 (fun _ h9 => h9) rfl dX3_kind_24 ?_
      refine lv_iload_n hx hb dX3_kind_27 rfl (lv_at hl 1 rfl) ?_
      refine m_iald hx hb hE.k hP 3 rfl (by omega) (by omega) (hfw _ (by omega)) dX3_kind_28 ?_
      refine lv_icmp_gt (tgt := 36) hx hb dX3_kind_29 (by decide) (fun c_29 => ?_) (fun c_29 => ?_)
      · refine lv_iconst (v := nI 2) hx hb dX3_kind_36 (by decide) ?_
        exact m_iret hx hb hr hlk hS (Nat.le_of_ble_eq_true rfl) (Nat.le_of_ble_eq_true rfl) dX3_kind_37 (⟨by rw [kindF, if_neg c_1, if_neg (fun q => absurd c_15 (Int32.not_lt.mpr q)), if_neg (fun q => absurd c_29 (Int32.not_lt.mpr q))], rfl⟩)
      · refine lv_iconst (v := nI 1) hx hb dX3_kind_32 (by decide) ?_
        refine lv_goto (tgt := 37) hx hb dX3_kind_33 (by decide) ?_
        exact m_iret hx hb hr hlk hS (Nat.le_of_ble_eq_true rfl) (Nat.le_of_ble_eq_true rfl) dX3_kind_37 (⟨by rw [kindF, if_neg c_1, if_neg (fun q => absurd c_15 (Int32.not_lt.mpr q)), if_pos (Int32.not_lt.mp c_29)], rfl⟩)
    · refine lv_iconst (v := nI 0) hx hb dX3_kind_18 (by decide) ?_
      refine lv_goto (tgt := 37) hx hb dX3_kind_19 (by decide) ?_
      exact m_iret hx hb hr hlk hS (Nat.le_of_ble_eq_true rfl) (Nat.le_of_ble_eq_true rfl) dX3_kind_37 (⟨by rw [kindF, if_neg c_1, if_pos (Int32.not_lt.mp c_15)], rfl⟩)
  · refine lv_iconst (v := nI 2) hx hb dX3_kind_4 (by decide) ?_
    refine lv_goto (tgt := 37) hx hb dX3_kind_5 (by decide) ?_
    exact m_iret hx hb hr hlk hS (Nat.le_of_ble_eq_true rfl) (Nat.le_of_ble_eq_true rfl) dX3_kind_37 (⟨by rw [kindF, if_pos c_1], rfl⟩)

theorem len_pos {g5 g6 g7 : Nat → Int32} {k : Nat} {fo : Option Frm} (h : mF g5 g6 g7 k fo) : 0 < lenF fo ↔ fo.isSome = true := by
  cases fo with
  | none => exact ⟨fun z => absurd z (Nat.lt_irrefl 0), fun z => by cases z⟩
  | some F => exact ⟨fun _ => rfl, fun _ => (h.2.2 F rfl).1⟩
theorem len_n {g5 g6 g7 : Nat → Int32} {k : Nat} {fo : Option Frm} (h : mF g5 g6 g7 k fo) (z : lenF fo ≤ 0) : fo.isSome = false := by
  cases e : fo.isSome with
  | false => rfl
  | true => have := (len_pos h).mpr e; omega

set_option maxHeartbeats 4000000 in
set_option maxRecDepth 100000 in
theorem kX3_count (l : Launch) (K : m_K) (A : Nat → Prop) (H0 : Heap) (o : Nat) (ad : Nat → Nat) (f : Nat → Nat → Int32) (d pr ta ti la : Int32) (hP : va_P K.1 vwCl (mW K o ad f d pr ta ti la) H0) (fm : Nat → Option Frm) (hfm : ∀ k, k < 540 → mF (f 5) (f 6) (f 7) k (fm k)) (k g : Nat) (hk9 : k < 10) (hg9 : g < 6) : Met l yX3_count wsX3_count ({ frames := 0, cells := 0, slots := 0, locals := 0 } : Room) (m_Pc K A H0 [.ref o, .int (nI k), .int (nI g)]) (va_Qi (fun r H1 => r = nI (cntF fm (54 * k + 9 * g)) ∧ H0 = H1) m_B A) 0 0 A := by
  refine m_ofW (by decide) rfl (Nat.le_of_ble_eq_true rfl) ?_
  intro p e s m args below meth c ls hx hb hr hml hown hts hlk hnm hE hsz hS hl
  have hl : lv_has ls 5 [(0, .ref o), (1, .int (nI k)), (2, .int (nI g))] := hl
  have iX3 : ∀ w ∈ wsX30, w ∈ wsX3_count := by decide +kernel
  have f22 := hts (.fieldLink RX3 22 "PhraseCatalogueModel" "lengths" "[I") (by decide +kernel)
  refine lv_iconst (v := nI 0) hx hb dX3_count_0 (by decide) ?_
  refine lv_istore_n (lv' := [(3, .int (nI 0)), (0, .ref o), (1, .int (nI k)), (2, .int (nI g))]) hx hb dX3_count_1 rfl hl (by decide) rfl (fun ls hl => ?_)
  refine lv_iconst (v := nI 0) hx hb dX3_count_2 (by decide) ?_
  refine lv_istore (lv' := [(4, .int (nI 0)), (3, .int (nI 0)), (0, .ref o), (1, .int (nI k)), (2, .int (nI g))]) hx hb dX3_count_3 hl (by decide) rfl (fun ls hl => ?_)
  refine (?_ : ∀ (n9 : Nat) (i : Nat) (n : Nat) (locs : List Loc) (ls : Array Slot), i ≤ 9 → 9 < i + n9 → n = cntN (fun j => (fm (54 * k + 9 * g + j)).isSome) i → va_S A s.heap H0 locs → lv_has ls 5 [(4, .int (nI i)), (3, .int (nI n)), (0, .ref o), (1, .int (nI k)), (2, .int (nI g))] → W p l e _ s m args below meth c H0 locs 0 0 _ (F0 m 5 ls [])) (9 + 1) 0 0 _ ls (by omega) (by omega) rfl hS (lv_sub hl [0, 1, 2, 3, 4] rfl)
  clear hS hl
  intro n9
  induction n9 with
  | zero => intro i n locs ls hi9 hn9; exact absurd hn9 (by omega)
  | succ n9 ih =>
    intro i n locs ls hi9 hn9 hinv hS hl
    refine lv_iload hx hb dX3_count_5 (lv_at hl 0 rfl) ?_
    refine lv_bipush (v := nI 9) hx hb dX3_count_7 (by decide) ?_
    refine m_icmp_ge (tgt := 46) hx hb (by omega) (by omega) dX3_count_9 (by decide) (fun c_9 => ?_) (fun c_9 => ?_)
    · refine lv_iload_n hx hb dX3_count_46 rfl (lv_at hl 1 rfl) ?_
      exact m_iret hx hb hr hlk hS (Nat.le_of_ble_eq_true rfl) (Nat.le_of_ble_eq_true rfl) dX3_count_47 (⟨by rw [hinv, show i = 9 by omega]; rfl, rfl⟩)
    · refine lv_iload_n hx hb dX3_count_12 rfl (lv_at hl 1 rfl) ?_
      refine lv_aload_n hx hb dX3_count_13 rfl (lv_at hl 2 rfl) ?_
      refine va_get (D := K.1) (ci := 4) (v := .ref (ad 5)) (C := RX3) (T := TX3) (N := 21) hx hb hts iX3 hown hE.k hP 0 rfl rfl 5 (by decide) f22 (fun _ h9 => h9) rfl dX3_count_14 ?_
      refine lv_bipush (v := nI 9) hx hb dX3_count_17 (by decide) ?_
      refine lv_bipush (v := nI 6) hx hb dX3_count_19 (by decide) ?_
      refine lv_iload_n hx hb dX3_count_21 rfl (lv_at hl 3 rfl) ?_
      refine m_imul hx hb dX3_count_22 ?_
      refine lv_iload_n hx hb dX3_count_23 rfl (lv_at hl 4 rfl) ?_
      refine m_iadd hx hb dX3_count_24 ?_
      refine m_imul hx hb dX3_count_25 ?_
      refine lv_iload hx hb dX3_count_26 (lv_at hl 0 rfl) ?_
      refine m_iadd hx hb dX3_count_28 ?_
      have hq9 := hfm ((9 * ((6 * k) + g)) + i) (by omega)
      have hl9 := hq9.2.1
      refine m_iald hx hb hE.k hP 5 rfl (by omega) (by omega) hq9.1 dX3_count_29 ?_
      refine m_if_le (tgt := 37) hx hb (by omega) dX3_count_30 (by decide) (fun c_30 => ?_) (fun c_30 => ?_)
      · rw [show 9 * (6 * k + g) + i = 54 * k + 9 * g + i by omega] at c_30 hq9
        have hz := len_n hq9 (by omega)
        have hnl := cntN_le (fun j => (fm (54 * k + 9 * g + j)).isSome) i
        refine lv_iconst (v := nI 0) hx hb dX3_count_37 (by decide) ?_
        refine m_iadd hx hb dX3_count_38 ?_
        refine lv_istore_n (lv' := [(3, .int (nI (n + 0))), (4, .int (nI i)), (0, .ref o), (1, .int (nI k)), (2, .int (nI g))]) hx hb dX3_count_39 rfl hl (by decide) rfl (fun ls hl => ?_)
        refine lv_iinc (v := nI (i + 1)) (lv' := [(4, .int (nI (i + 1))), (3, .int (nI (n + 0))), (0, .ref o), (1, .int (nI k)), (2, .int (nI g))]) hx hb dX3_count_40 hl (k := 1) rfl (m_inc _) (by decide) rfl (fun ls hl => ?_)
        refine lv_goto (tgt := 5) hx hb dX3_count_43 (by decide) ?_
        exact ih (i + 1) (n + 0) _ ls (by omega) (by omega) (by rw [cntN, ← hinv]; exact cnt_n hz) hS (lv_sub hl [0, 1, 2, 3, 4] rfl)
      · rw [show 9 * (6 * k + g) + i = 54 * k + 9 * g + i by omega] at c_30 hq9
        have hz := (len_pos hq9).mp (by omega)
        have hnl := cntN_le (fun j => (fm (54 * k + 9 * g + j)).isSome) i
        refine lv_iconst (v := nI 1) hx hb dX3_count_33 (by decide) ?_
        refine lv_goto (tgt := 38) hx hb dX3_count_34 (by decide) ?_
        refine m_iadd hx hb dX3_count_38 ?_
        refine lv_istore_n (lv' := [(3, .int (nI (n + 1))), (4, .int (nI i)), (0, .ref o), (1, .int (nI k)), (2, .int (nI g))]) hx hb dX3_count_39 rfl hl (by decide) rfl (fun ls hl => ?_)
        refine lv_iinc (v := nI (i + 1)) (lv' := [(4, .int (nI (i + 1))), (3, .int (nI (n + 1))), (0, .ref o), (1, .int (nI k)), (2, .int (nI g))]) hx hb dX3_count_40 hl (k := 1) rfl (m_inc _) (by decide) rfl (fun ls hl => ?_)
        refine lv_goto (tgt := 5) hx hb dX3_count_43 (by decide) ?_
        exact ih (i + 1) (n + 1) _ ls (by omega) (by omega) (by rw [cntN, ← hinv]; exact cnt_y hz) hS (lv_sub hl [0, 1, 2, 3, 4] rfl)
