/-! THE CLASS'S STATE AS A WHOLE: fallbacks fb, numbers on fw, draft dr, forms fm, versions vs, changes ch, the past ps -/
def tN (x : Int32) : Nat := x.toNatClampNeg
theorem tN_nI {k : Nat} (h : k < 2147483648) : tN (nI k) = k := nI_clamp h
theorem tN_lt {x : Int32} {n : Nat} (h : okN x n) (hn : n < 2147483648) : tN x < n := by
  obtain ⟨k, hk, rfl⟩ := okN_of h hn
  rw [tN_nI (by omega)]
  exact hk
theorem tN_eq {x : Int32} {n : Nat} (h : okN x n) (hn : n < 2147483648) : x = nI (tN x) := by
  obtain ⟨k, hk, rfl⟩ := okN_of h hn
  rw [tN_nI (by omega)]
theorem okN_big {x : Int32} (h : okN x 2147483648) : x = nI (tN x) ∧ tN x < 2147483648 := by
  have h0 : ¬ x < 0 := fun q => okN_lo q h
  obtain ⟨j, hj, rfl⟩ := nI_of h0
  rw [tN_nI hj]
  exact ⟨rfl, hj⟩
def vsC (vs : Nat → Int32) (k g : Nat) : Nat → Int32 := if g = 0 then va_up vs k (vs k + nI 1) else vs
def chC (ch vs : Nat → Int32) (k g : Nat) : Nat → Int32 := va_up ch (6 * k + g) (vsC vs k g k)
def psC (fm : Nat → Option Frm) (ps : List Pr) (k g j : Nat) : List Pr := if g = 0 then keepP fm k j ps else ps
def cRep (K : m_K) (f : Nat → Nat → Int32) (d : Int32) (ft : Nat → Option Nat) (li : List Value) (T : va_W) (fb : Nat → Nat) (on fw : Nat → Int32) (dr : List Int32) (fm : Nat → Option Frm) (vs ch : Nat → Int32) (ps : List Pr) : Prop :=
  (∀ i, i < 6 → f 0 i = nI (fb i) ∧ fb i < 6) ∧ (∀ g, g < 6 → f 1 g = on g) ∧ (∀ g, g < 6 → f 2 g = fw g) ∧
  (d = nI dr.length ∧ dr.length ≤ 8 ∧ ∀ j, j < dr.length → f 3 j = dr.getD j 0) ∧ (∀ k, k < 540 → FOpt K T (ft k) (fm k)) ∧
  (∀ k, k < 10 → f 6 k = vs k) ∧ (∀ k g, k < 10 → g < 6 → ¬ g = 0 → f 7 (k * 6 + g) = ch (6 * k + g)) ∧ LST K T li ps
def cOK (K : m_K) (A : Nat → Prop) (H : Heap) (o : Nat) (ad : Nat → Nat) (fb : Nat → Nat) (on fw : Nat → Int32) (dr : List Int32) (fm : Nat → Option Frm) (vs ch : Nat → Int32) (ps : List Pr) : Prop :=
  ∃ (f : Nat → Nat → Int32) (d : Int32) (ft : Nat → Option Nat) (li : List Value) (T : va_W), va_P K.1 vwCl (cW K o ad f d ft li T) H ∧ va_D A (cW K o ad f d ft li T) ∧ cRep K f d ft li T fb on fw dr fm vs ch ps
theorem LST.push {K : m_K} {T : va_W} {li : List Value} {ps : List Pr} {x : Nat × va_E} (h : LST K T li ps) : LST K (T ++ [x]) li ps := by
  obtain ⟨md, ed, r9, h1, h2, h3, h4⟩ := h
  exact ⟨md, ed, r9, h1, h2.push, h3, h4.ext Ext.push⟩
theorem Ext.pushset {T : va_W} {q n : Nat} {v w : List Value} : Ext T ((T ++ ([(q, .inr (n, v))] : va_W) : va_W).set T.length (q, .inr (n, w))) := by
  rw [m_setr]
  exact Ext.push
theorem LST.pushset {K : m_K} {T : va_W} {li : List Value} {ps : List Pr} {q n : Nat} {v w : List Value} (h : LST K T li ps) : LST K ((T ++ ([(q, .inr (n, v))] : va_W) : va_W).set T.length (q, .inr (n, w))) li ps := by
  rw [m_setr]
  exact h.push
