/-! WHAT A STATE IS: forms, pairs, and small facts about whole numbers -/
def okN (x : Int32) (n : Nat) : Prop := 0 ≤ x.toInt ∧ x.toInt < n
theorem okN_nI {k n : Nat} (h : k < n) (hn : n < 2147483648) : okN (nI k) n := by
  unfold okN
  rw [nI_toInt (by omega)]
  omega
theorem okN_of {x : Int32} {n : Nat} (h : okN x n) (hn : n < 2147483648) : ∃ k, k < n ∧ x = nI k := by
  obtain ⟨h1, h2⟩ := h
  have h3 : ¬ x < 0 := fun q => by
    have := Int32.lt_iff_toInt_lt.mp q
    simp at this
    omega
  obtain ⟨j, hj, e⟩ := nI_of h3
  subst e
  rw [nI_toInt hj] at h2
  exact ⟨j, by omega, rfl⟩
theorem okN_in {x : Int32} {n : Nat} (hn : n < 2147483648) (h1 : ¬ x < 0) (h2 : ¬ nI n ≤ x) : okN x n := by
  obtain ⟨j, hj, e⟩ := nI_of h1
  subst e
  exact okN_nI (Nat.lt_of_not_le fun q => h2 ((nI_leI hn hj).mpr q)) hn
theorem okN_lo {x : Int32} {n : Nat} (h : x < 0) : ¬ okN x n := fun q => by
  have := Int32.lt_iff_toInt_lt.mp h
  have h2 := q.1
  simp at this
  omega
theorem okN_hi {x : Int32} {n : Nat} (hn : n < 2147483648) (h : nI n ≤ x) : ¬ okN x n := fun q => by
  have := Int32.le_iff_toInt_le.mp h
  rw [nI_toInt hn] at this
  have h2 := q.2
  omega
theorem okN_nI_iff {k n : Nat} (hk : k < 2147483648) : okN (nI k) n ↔ k < n := by
  unfold okN
  rw [nI_toInt hk]
  omega
