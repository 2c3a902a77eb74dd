/-! WHAT IS NEAR, FROM THE LATEST PAIR ON; the pairs that are kept -/
def vlP (g : Nat) (L : List Int32) (P : Pr) : Prop := P.1 = g ∧ dst P.2.1.1 L ≤ L.length / 2
def lnI (ps : List Pr) (g : Nat) (L : List Int32) (c : Nat) (nr : Option Nat) : Prop :=
  (nr = none ∧ ∀ i P, c ≤ i → ps[i]? = some P → ¬ vlP g L P) ∨ ∃ k P, nr = some k ∧ c ≤ k ∧ ps[k]? = some P ∧ vlP g L P ∧ ∀ i Q, c ≤ i → ps[i]? = some Q → vlP g L Q → dst P.2.1.1 L ≤ dst Q.2.1.1 L ∧ (k < i → dst P.2.1.1 L < dst Q.2.1.1 L)
theorem lnI_0 {ps : List Pr} {g : Nat} {L : List Int32} : lnI ps g L ps.length none := Or.inl ⟨rfl, fun i P hi h => absurd (List.getElem?_eq_some_iff.mp h).1 (by omega)⟩
theorem lnI_no {ps : List Pr} {g c : Nat} {L : List Int32} {nr : Option Nat} {P : Pr} (h : lnI ps g L (c + 1) nr) (hP : ps[c]? = some P) (hv : ¬ vlP g L P) : lnI ps g L c nr := by
  rcases h with ⟨h1, h2⟩ | ⟨k, Q, h1, h2, h3, h4, h5⟩
  · refine Or.inl ⟨h1, fun i R hi hR => ?_⟩
    by_cases e : i = c
    · subst e
      cases hP.symm.trans hR
      exact hv
    · exact h2 i R (by omega) hR
  · refine Or.inr ⟨k, Q, h1, by omega, h3, h4, fun i R hi hR hvR => ?_⟩
    by_cases e : i = c
    · subst e
      cases hP.symm.trans hR
      exact absurd hvR hv
    · exact h5 i R (by omega) hR hvR
theorem lnI_new {ps : List Pr} {g c : Nat} {L : List Int32} {P : Pr} (h : lnI ps g L (c + 1) none) (hP : ps[c]? = some P) (hv : vlP g L P) : lnI ps g L c (some c) := by
  rcases h with ⟨-, h2⟩ | ⟨k, Q, h1, -⟩
  · refine Or.inr ⟨c, P, rfl, Nat.le_refl _, hP, hv, fun i R hi hR hvR => ?_⟩
    by_cases e : i = c
    · subst e
      cases hP.symm.trans hR
      exact ⟨Nat.le_refl _, fun z => absurd z (Nat.lt_irrefl _)⟩
    · exact absurd hvR (h2 i R (by omega) hR)
  · cases h1
theorem lnI_pr {ps : List Pr} {g c k : Nat} {L : List Int32} (h : lnI ps g L c (some k)) : c ≤ k ∧ ∃ Q, ps[k]? = some Q ∧ vlP g L Q := by
  rcases h with ⟨h1, -⟩ | ⟨k9, Q, h1, h2, h3, h4, -⟩
  · cases h1
  · cases h1
    exact ⟨h2, Q, h3, h4⟩
theorem lnI_less {ps : List Pr} {g c k : Nat} {L : List Int32} {P Q : Pr} (h : lnI ps g L (c + 1) (some k)) (hP : ps[c]? = some P) (hv : vlP g L P) (hQ : ps[k]? = some Q) (hd : dst P.2.1.1 L < dst Q.2.1.1 L) : lnI ps g L c (some c) := by
  rcases h with ⟨h1, -⟩ | ⟨k9, Q9, h1, h2, h3, h4, h5⟩
  · cases h1
  · cases h1
    cases h3.symm.trans hQ
    refine Or.inr ⟨c, P, rfl, Nat.le_refl _, hP, hv, fun i R hi hR hvR => ?_⟩
    by_cases e : i = c
    · subst e
      cases hP.symm.trans hR
      exact ⟨Nat.le_refl _, fun z => absurd z (Nat.lt_irrefl _)⟩
    · have := (h5 i R (by omega) hR hvR).1
      exact ⟨by omega, fun _ => by omega⟩
theorem lnI_more {ps : List Pr} {g c k : Nat} {L : List Int32} {P Q : Pr} (h : lnI ps g L (c + 1) (some k)) (hP : ps[c]? = some P) (hQ : ps[k]? = some Q) (hd : ¬ dst P.2.1.1 L < dst Q.2.1.1 L) : lnI ps g L c (some k) := by
  rcases h with ⟨h1, -⟩ | ⟨k9, Q9, h1, h2, h3, h4, h5⟩
  · cases h1
  · cases h1
    cases h3.symm.trans hQ
    refine Or.inr ⟨k, Q, rfl, by omega, hQ, h4, fun i R hi hR hvR => ?_⟩
    by_cases e : i = c
    · subst e
      cases hP.symm.trans hR
      exact ⟨by omega, fun z => by omega⟩
    · exact h5 i R (by omega) hR hvR
theorem nearN_char (ps : List Pr) (g : Nat) (L : List Int32) : ∀ n, n ≤ ps.length → (nearN ps g L n = (none, L.length / 2) ∧ ∀ i P, i < n → ps[i]? = some P → ¬ vlP g L P) ∨ ∃ k P, k < n ∧ ps[k]? = some P ∧ nearN ps g L n = (some P, dst P.2.1.1 L) ∧ vlP g L P ∧ ∀ i Q, i < n → ps[i]? = some Q → vlP g L Q → dst P.2.1.1 L ≤ dst Q.2.1.1 L ∧ (k < i → dst P.2.1.1 L < dst Q.2.1.1 L)
  | 0, _ => Or.inl ⟨rfl, fun i P hi => absurd hi (Nat.not_lt_zero i)⟩
  | n + 1, hn => by
    have ih := nearN_char ps g L n (by omega)
    have hP := List.getElem?_eq_getElem (show n < ps.length by omega)
    generalize ps[n] = P at hP
    rw [nearN, hP]
    show (_ ∧ _) ∨ _
    by_cases c : P.1 = g ∧ dst P.2.1.1 L ≤ (nearN ps g L n).2
    · simp only [if_pos c]
      rcases ih with ⟨h1, h2⟩ | ⟨k, Q, h1, h2, h3, h4, h5⟩
      · rw [h1] at c
        refine Or.inr ⟨n, P, by omega, hP, rfl, c, fun i R hi hR hvR => ?_⟩
        by_cases e : i = n
        · subst e
          cases hP.symm.trans hR
          exact ⟨Nat.le_refl _, fun z => absurd z (Nat.lt_irrefl _)⟩
        · exact absurd hvR (h2 i R (by omega) hR)
      · rw [h3] at c
        have hc2 : dst P.2.1.1 L ≤ dst Q.2.1.1 L := c.2
        refine Or.inr ⟨n, P, by omega, hP, rfl, ⟨c.1, Nat.le_trans hc2 h4.2⟩, fun i R hi hR hvR => ?_⟩
        by_cases e : i = n
        · subst e
          cases hP.symm.trans hR
          exact ⟨Nat.le_refl _, fun z => absurd z (Nat.lt_irrefl _)⟩
        · have := (h5 i R (by omega) hR hvR).1
          exact ⟨by omega, fun z => by omega⟩
    · simp only [if_neg c]
      rcases ih with ⟨h1, h2⟩ | ⟨k, Q, h1, h2, h3, h4, h5⟩
      · refine Or.inl ⟨h1, fun i R hi hR hvR => ?_⟩
        by_cases e : i = n
        · subst e
          cases hP.symm.trans hR
          rw [h1] at c
          exact c hvR
        · exact h2 i R (by omega) hR hvR
      · refine Or.inr ⟨k, Q, by omega, h2, h3, h4, fun i R hi hR hvR => ?_⟩
        by_cases e : i = n
        · subst e
          cases hP.symm.trans hR
          rw [h3] at c
          have : ¬ dst P.2.1.1 L ≤ dst Q.2.1.1 L := fun z => c ⟨hvR.1, z⟩
          exact ⟨by omega, fun z => by omega⟩
        · exact h5 i R (by omega) hR hvR
/-- which pair is near, by its place -/
theorem lnI_near {ps : List Pr} {g : Nat} {L : List Int32} {nr : Option Nat} (h : lnI ps g L 0 nr) : (nearN ps g L ps.length).1 = nr.bind (fun k => ps[k]?) := by
  rcases nearN_char ps g L ps.length (Nat.le_refl _) with ⟨h1, h2⟩ | ⟨k, P, h1, h2, h3, h4, h5⟩
  · rw [h1]
    rcases h with ⟨e, -⟩ | ⟨k, P, e, k1, k2, k3, -⟩
    · rw [e]; rfl
    · exact absurd k3 (h2 k P (List.getElem?_eq_some_iff.mp k2).1 k2)
  · rw [h3]
    rcases h with ⟨e, q⟩ | ⟨k9, Q, e, k1, k2, k3, k4⟩
    · exact absurd h4 (q k P (Nat.zero_le _) h2)
    · have a1 := h5 k9 Q (List.getElem?_eq_some_iff.mp k2).1 k2 k3
      have a2 := k4 k P (Nat.zero_le _) h2 h4
      have ek : k = k9 := by
        rcases Nat.lt_trichotomy k k9 with z | z | z
        · have := a1.2 z; omega
        · exact z
        · have := a2.2 z; omega
      subst ek
      rw [e]
      exact h2.symm
/-! THE LAW'S ARRAYS AND THE STATE -/
def fRep (w : Nat → Int32) (fm : Nat → Option Frm) : Prop := ∀ k g j, k < 2 → g < 3 → j < 9 → w (27 * k + 9 * g + j) = nI (enR (foR (fm (54 * k + 9 * g + j))))
def xRep (w : Nat → Int32) (fm : Nat → Option Frm) : Prop := ∀ k g j F, k < 2 → g < 3 → j < 9 → fm (54 * k + 9 * g + j) = some F → bitX (w (3 * k + g)) j = F.2
def aRep (w : Nat → Int32) (vs ch : Nat → Int32) : Prop := ∀ k, k < 2 → w k = vs k ∧ ∀ g, g < 3 → w (2 + 3 * k + g) = if g = 0 then vs k else ch (6 * k + g)
def qRep (w : Nat → Int32) (ps : List Pr) : Prop := ∀ i P, ps[i]? = some P → w (3 * i) = nI P.1 ∧ w (3 * i + 1) = nI (enR (drR P.2.1.1)) ∧ w (3 * i + 2) = nI (enR (drR P.2.2.1))
def nRep (w : Nat → Int32) (fb : Nat → Nat) (on fw : Nat → Int32) : Prop := ∀ l, l < 3 → w l = nI (fb l) ∧ w (3 + l) = on l ∧ w (6 + l) = fw l
def mRep (w : Nat → Int32) (ps : List Pr) (dr : List Int32) : Prop := w 0 = nI ps.length ∧ w 1 = nI dr.length ∧ w 2 = nI (enR (drR dr))
def fmOK (fm : Nat → Option Frm) : Prop := (∀ n, gFo (fm n)) ∧ ∀ k g j, k < 10 → g < 6 → j < 9 → 2 ≤ k ∨ 3 ≤ g → fm (54 * k + 9 * g + j) = none
def psOK (ps : List Pr) : Prop := ps.length ≤ 20 ∧ ∀ P, P ∈ ps → P.1 < 3 ∧ gF P.2.1 ∧ gF P.2.2
theorem fRep.r0 {w : Nat → Int32} {fm : Nat → Option Frm} (h : fRep w fm) {k j : Nat} (hk : k < 2) (hj : j < 9) : w (27 * k + j) = nI (enR (foR (fm (54 * k + j)))) := by
  have := h k 0 j hk (by omega) hj
  rw [show 27 * k + 9 * 0 + j = 27 * k + j by omega, show 54 * k + 9 * 0 + j = 54 * k + j by omega] at this
  exact this
theorem psOK.at {ps : List Pr} (h : psOK ps) {i : Nat} {P : Pr} (hi : ps[i]? = some P) : P.1 < 3 ∧ gF P.2.1 ∧ gF P.2.2 := h.2 P (List.mem_of_getElem? hi)
theorem psOK.push {ps : List Pr} (h : psOK ps) {P : Pr} (hP : P.1 < 3 ∧ gF P.2.1 ∧ gF P.2.2) : psOK (pushP ps P) := ⟨pushP_le h.1, fun Q hQ => by
  unfold pushP at hQ
  rcases List.mem_append.mp hQ with z | z
  · split at z
    · exact h.2 Q (List.mem_of_mem_tail z)
    · exact h.2 Q z
  · rw [List.mem_singleton.mp z]; exact hP⟩
theorem psOK_keepL {fm : Nat → Option Frm} (hfm : fmOK fm) {k j : Nat} {F : Frm} (hF : gF F) : ∀ {n : Nat} {ps : List Pr}, n ≤ 2 → psOK ps → psOK (keepL fm k j F n ps)
  | 0, _, _, h => h
  | n + 1, ps, hn, h => by
    unfold keepL
    split
    · exact psOK_keepL hfm hF (by omega) h
    · rename_i G e
      exact (psOK_keepL hfm hF (by omega) h).push ⟨by show n + 1 < 3; omega, hF, hfm.1 _ G e⟩
theorem keepL_2 {fm : Nat → Option Frm} (hfm : fmOK fm) {k j : Nat} {F : Frm} {ps : List Pr} (hk : k < 10) (hj : j < 9) : keepL fm k j F 5 ps = keepL fm k j F 2 ps := by
  have e : ∀ n, 3 ≤ n + 1 → n + 1 < 6 → keepL fm k j F (n + 1) ps = keepL fm k j F n ps := fun n h1 h2 => by
    rw [keepL, show 54 * k + 9 * (n + 1) + j = 54 * k + 9 * (n + 1) + j from rfl, hfm.2 k (n + 1) j hk (by omega) hj (Or.inr h1)]
  rw [e 4 (by omega) (by omega), e 3 (by omega) (by omega), e 2 (by omega) (by omega)]
theorem qRep.add {w : Nat → Int32} {ps : List Pr} (h : qRep w ps) {n : Nat} (hn : n = ps.length) (P : Pr) : qRep (upd (upd (upd w (3 * n) (nI P.1)) (3 * n + 1) (nI (enR (drR P.2.1.1)))) (3 * n + 2) (nI (enR (drR P.2.2.1)))) (ps ++ [P]) := fun i Q hQ => by
  by_cases hi : i < ps.length
  · rw [List.getElem?_append_left hi] at hQ
    obtain ⟨h1, h2, h3⟩ := h i Q hQ
    refine ⟨?_, ?_, ?_⟩
    · rw [pk_un (by omega), pk_un (by omega), pk_un (by omega)]; exact h1
    · rw [pk_un (by omega), pk_un (by omega), pk_un (by omega)]; exact h2
    · rw [pk_un (by omega), pk_un (by omega), pk_un (by omega)]; exact h3
  · have hz : i < (ps ++ [P]).length := (List.getElem?_eq_some_iff.mp hQ).1
    rw [List.length_append] at hz
    have e : i = n := by simp at hz; omega
    rw [List.getElem?_append_right (by omega), show i - ps.length = 0 by omega] at hQ
    cases hQ
    subst e
    refine ⟨?_, ?_, ?_⟩
    · rw [pk_un (by omega), pk_un (by omega)]; unfold upd; rw [if_pos rfl]
    · rw [pk_un (by omega)]; unfold upd; rw [if_pos rfl]
    · unfold upd; rw [if_pos rfl]
theorem qRep.tail {w w1 : Nat → Int32} {ps : List Pr} (h : qRep w ps) (hl : ps.length = 20) (hw : ∀ t, t < 57 → w1 t = w (t + 3)) : qRep w1 ps.tail := fun i Q hQ => by
  have hz : i < ps.tail.length := (List.getElem?_eq_some_iff.mp hQ).1
  rw [List.length_tail] at hz
  rw [List.getElem?_tail] at hQ
  obtain ⟨h1, h2, h3⟩ := h (i + 1) Q hQ
  refine ⟨?_, ?_, ?_⟩
  · rw [hw _ (by omega), show 3 * i + 3 = 3 * (i + 1) by omega]; exact h1
  · rw [hw _ (by omega), show 3 * i + 1 + 3 = 3 * (i + 1) + 1 by omega]; exact h2
  · rw [hw _ (by omega), show 3 * i + 2 + 3 = 3 * (i + 1) + 2 by omega]; exact h3
theorem pushP_s {ps : List Pr} {P : Pr} (h : ¬ ps.length = 20) (hl : ps.length ≤ 20) : pushP ps P = ps ++ [P] := by
  unfold pushP
  rw [if_neg (by omega)]
theorem pushP_f {ps : List Pr} {P : Pr} (h : ps.length = 20) : pushP ps P = ps.tail ++ [P] := by
  unfold pushP
  rw [if_pos (by omega)]
