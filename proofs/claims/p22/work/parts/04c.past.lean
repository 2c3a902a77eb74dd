/-! THE PAST, as a list of pairs -/
def pushP (ps : List Pr) (p : Pr) : List Pr := (if 20 ≤ ps.length then ps.tail else ps) ++ [p]
def keepL (fm : Nat → Option Frm) (k j : Nat) (F : Frm) : Nat → List Pr → List Pr
  | 0, ps => ps
  | n + 1, ps => match fm (54 * k + 9 * (n + 1) + j) with
    | none => keepL fm k j F n ps
    | some G => pushP (keepL fm k j F n ps) (n + 1, F, G)
def keepP (fm : Nat → Option Frm) (k j : Nat) (ps : List Pr) : List Pr := match fm (54 * k + j) with
  | none => ps
  | some F => keepL fm k j F 5 ps
/-- the list's rows, when a pair is kept -/
def pushR (n : Nat) (r : Nat → Option Nat) (x : Option Nat) : Nat → Option Nat := if 20 ≤ n then va_up (fun i => r (i + 1)) 19 x else va_up r n x
def pushN (n : Nat) : Nat := if 20 ≤ n then 20 else n + 1
theorem pushP_len {ps : List Pr} {p : Pr} (h : ps.length ≤ 20) : (pushP ps p).length = pushN ps.length := by
  unfold pushP pushN
  split <;> simp <;> omega
theorem pushP_le {ps : List Pr} {p : Pr} (h : ps.length ≤ 20) : (pushP ps p).length ≤ 20 := by
  rw [pushP_len h]
  unfold pushN
  split <;> omega
theorem keepL_le {fm : Nat → Option Frm} {k j : Nat} {F : Frm} : ∀ {n : Nat} {ps : List Pr}, ps.length ≤ 20 → (keepL fm k j F n ps).length ≤ 20
  | 0, _, h => h
  | n + 1, ps, h => by
    unfold keepL
    split
    · exact keepL_le h
    · exact pushP_le (keepL_le h)
theorem keepP_le {fm : Nat → Option Frm} {k j : Nat} {ps : List Pr} (h : ps.length ≤ 20) : (keepP fm k j ps).length ≤ 20 := by
  unfold keepP
  split
  · exact h
  · exact keepL_le h
def PList (K : m_K) (T : va_W) (ps : List Pr) (r9 : Nat → Option Nat) : Prop := ∀ (i : Nat) (P : Pr), ps[i]? = some P → ∃ pa, r9 i = some pa ∧ PairAt K T pa P
theorem PList.ext {K : m_K} {T T' : va_W} {ps : List Pr} {r9 : Nat → Option Nat} (h : PList K T ps r9) (e : Ext T T') : PList K T' ps r9 := fun i P hP => by
  obtain ⟨pa, h1, h2⟩ := h i P hP
  exact ⟨pa, h1, h2.ext e⟩
theorem PList.el {K : m_K} {T : va_W} {ps : List Pr} {r9 : Nat → Option Nat} (h : PList K T ps r9) : ∀ i, i < ps.length → ∃ (y j : Nat) (vs : List Value), r9 i = some y ∧ T[j]? = some (y, .inr (2, vs)) := fun i hi => by
  obtain ⟨pa, h1, j, fa, ga, h2, -⟩ := h i _ (List.getElem?_eq_getElem hi)
  exact ⟨pa, j, _, h1, h2⟩
theorem PList.push {K : m_K} {T : va_W} {ps : List Pr} {r9 : Nat → Option Nat} {pa : Nat} {P : Pr} (h : PList K T ps r9) (hP : PairAt K T pa P) (hl : ps.length ≤ 20) : PList K T (pushP ps P) (pushR ps.length r9 (some pa)) := fun i Q hQ => by
  unfold pushP at hQ
  unfold pushR
  by_cases h20 : 20 ≤ ps.length
  · rw [if_pos h20] at hQ ⊢
    have ht : ps.tail.length = 19 := by rw [List.length_tail]; omega
    by_cases hi : i < 19
    · rw [List.getElem?_append_left (by omega), List.getElem?_tail] at hQ
      obtain ⟨pb, k1, k2⟩ := h (i + 1) Q hQ
      exact ⟨pb, by rw [va_up_ne _ _ (by omega)]; exact k1, k2⟩
    · have hz : i < (ps.tail ++ [P]).length := (List.getElem?_eq_some_iff.mp hQ).1
      rw [List.length_append, ht] at hz
      have e : i = 19 := by simp at hz; omega
      subst e
      rw [List.getElem?_append_right (by omega), ht] at hQ
      cases hQ
      exact ⟨pa, va_up_self _ _ _, hP⟩
  · rw [if_neg h20] at hQ ⊢
    by_cases hi : i < ps.length
    · rw [List.getElem?_append_left hi] at hQ
      obtain ⟨pb, k1, k2⟩ := h i Q hQ
      exact ⟨pb, by rw [va_up_ne _ _ (by omega)]; exact k1, k2⟩
    · have hz : i < (ps ++ [P]).length := (List.getElem?_eq_some_iff.mp hQ).1
      rw [List.length_append] at hz
      have e : i = ps.length := by simp at hz; omega
      subst e
      rw [List.getElem?_append_right (by omega), Nat.sub_self] at hQ
      cases hQ
      exact ⟨pa, va_up_self _ _ _, hP⟩
/-- the class's list holds these pairs -/
def LST (K : m_K) (T : va_W) (li : List Value) (ps : List Pr) : Prop := ∃ (md : Int32) (ed : Value) (r9 : Nat → Option Nat), li = [.int md, ed, .int (nI ps.length)] ∧ LRow K T ed ps.length r9 ∧ ps.length ≤ 20 ∧ PList K T ps r9
theorem LRow.push {K : m_K} {T : va_W} {ed : Value} {n : Nat} {r : Nat → Option Nat} {x : Nat × va_E} (h : LRow K T ed n r) : LRow K (T ++ [x]) ed n r := by
  rcases h with h | ⟨ie, aE, cap, fE, h1, h2, h3⟩
  · exact Or.inl h
  · exact Or.inr ⟨ie, aE, cap, fE, h1, m_apl h2, h3⟩
theorem LRow.seto {K : m_K} {T : va_W} {ed : Value} {n : Nat} {r : Nat → Option Nat} {i a : Nat} {v : Nat × List Value} {y : Nat × va_E} (h : LRow K T ed n r) (hi : T[i]? = some (a, .inr v)) : LRow K (T.set i y) ed n r := by
  rcases h with h | ⟨ie, aE, cap, fE, h1, h2, h3⟩
  · exact Or.inl h
  · exact Or.inr ⟨ie, aE, cap, fE, h1, m_setn hi h2 (fun z => by cases z), h3⟩
theorem PairAt.of {K : m_K} {T : va_W} {i q fa ga g : Nat} {F G : Frm} (h : T[i]? = some (q, .inr (2, [.int (nI g), .ref fa, .ref ga]))) (hF : FormAt K T fa F) (hG : FormAt K T ga G) (hg : g < 6) : PairAt K T q (g, F, G) := ⟨i, fa, ga, h, hF, hG, hg⟩
