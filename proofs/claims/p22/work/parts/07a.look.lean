/-! LOOKING AND GOING ALONG THE CHAIN FIND THE SAME -/
theorem try_inv {i u a b t : Nat} (h : tryF i u a b = some t) : (i = a ∨ i = 2) ∧ (u = b ∨ u = 0) ∧ t = (if i = a then 0 else 2) + (if u = b then 0 else 1) := by
  unfold tryF at h
  split at h
  · rename_i c
    cases h
    exact ⟨c.1, c.2, rfl⟩
  · cases h
theorem try_of {i u a b : Nat} (h1 : i = a ∨ i = 2) (h2 : u = b ∨ u = 0) : tryF i u a b = some ((if i = a then 0 else 2) + (if u = b then 0 else 1)) := if_pos ⟨h1, h2⟩
theorem inCls_none {fm : Nat → Option Frm} {k g i u : Nat} (h : inCls fm k g i u = none) : fitF fm k (fm (54 * k + 9 * g + 3 * i + u)) = false ∧ fitF fm k (fm (54 * k + 9 * g + 3 * i + 0)) = false := by
  unfold inCls at h
  split at h
  · cases h
  · rename_i c
    split at h
    · cases h
    · rename_i c2
      exact ⟨Bool.eq_false_iff.mpr c, Bool.eq_false_iff.mpr c2⟩
theorem inCls_some {fm : Nat → Option Frm} {k g i u s : Nat} (h : inCls fm k g i u = some s) : (s = 54 * k + 9 * g + 3 * i + u ∧ fitF fm k (fm (54 * k + 9 * g + 3 * i + u)) = true) ∨ (s = 54 * k + 9 * g + 3 * i + 0 ∧ fitF fm k (fm (54 * k + 9 * g + 3 * i + 0)) = true ∧ fitF fm k (fm (54 * k + 9 * g + 3 * i + u)) = false) := by
  unfold inCls at h
  split at h
  · rename_i c
    cases h
    exact Or.inl ⟨rfl, c⟩
  · rename_i c
    split at h
    · rename_i c2
      cases h
      exact Or.inr ⟨rfl, c2, Bool.eq_false_iff.mpr c⟩
    · cases h
theorem no_ff {b : Bool} (h : b = true) (k : b = false) : False := by rw [h] at k; cases k
theorem inLang_none {fm : Nat → Option Frm} {k g a u : Nat} (h : inLang fm k g a u = none) {i v t : Nat} (ht : tryF i v a u = some t) (hf : fitF fm k (fm (54 * k + 9 * g + 3 * i + v)) = true) : False := by
  unfold inLang at h
  split at h
  · cases h
  · rename_i e
    obtain ⟨n1, n2⟩ := inCls_none e
    obtain ⟨n3, n4⟩ := inCls_none h
    obtain ⟨h1, h2, -⟩ := try_inv ht
    rcases h1 with rfl | rfl <;> rcases h2 with rfl | rfl
    · exact no_ff hf n1
    · exact no_ff hf n2
    · exact no_ff hf n3
    · exact no_ff hf n4
theorem inLang_some {fm : Nat → Option Frm} {k g a u s : Nat} (h : inLang fm k g a u = some s) : ∃ i v t, (i = a ∨ i = 2) ∧ (v = u ∨ v = 0) ∧ s = 54 * k + 9 * g + 3 * i + v ∧ fitF fm k (fm s) = true ∧ tryF i v a u = some t ∧ ∀ i2 v2 t2, tryF i2 v2 a u = some t2 → fitF fm k (fm (54 * k + 9 * g + 3 * i2 + v2)) = true → t ≤ t2 := by
  unfold inLang at h
  split at h
  · rename_i s9 e
    cases h
    rcases inCls_some e with ⟨rfl, c⟩ | ⟨rfl, c, n1⟩
    · refine ⟨a, u, _, Or.inl rfl, Or.inl rfl, rfl, c, try_of (Or.inl rfl) (Or.inl rfl), fun i2 v2 t2 _ _ => ?_⟩
      rw [if_pos rfl, if_pos rfl]
      exact Nat.zero_le _
    · refine ⟨a, 0, _, Or.inl rfl, Or.inr rfl, rfl, c, try_of (Or.inl rfl) (Or.inr rfl), fun i2 v2 t2 ht hf => ?_⟩
      obtain ⟨h1, h2, h3⟩ := try_inv ht
      rw [h3, if_pos rfl]
      by_cases e1 : i2 = a
      · subst e1
        by_cases e2 : v2 = u
        · subst e2
          exact (no_ff hf n1).elim
        · rw [if_neg e2]
          split <;> omega
      · rw [if_neg e1]
        split <;> omega
  · rename_i e
    obtain ⟨n1, n2⟩ := inCls_none e
    rcases inCls_some h with ⟨rfl, c⟩ | ⟨rfl, c, n3⟩
    · refine ⟨2, u, _, Or.inr rfl, Or.inl rfl, rfl, c, try_of (Or.inr rfl) (Or.inl rfl), fun i2 v2 t2 ht hf => ?_⟩
      obtain ⟨h1, h2, h3⟩ := try_inv ht
      rw [h3, if_pos rfl]
      by_cases e1 : i2 = a
      · subst e1
        rcases h2 with rfl | rfl
        · exact (no_ff hf n1).elim
        · exact (no_ff hf n2).elim
      · rw [if_neg e1]
        split <;> omega
    · refine ⟨2, 0, _, Or.inr rfl, Or.inr rfl, rfl, c, try_of (Or.inr rfl) (Or.inr rfl), fun i2 v2 t2 ht hf => ?_⟩
      obtain ⟨h1, h2, h3⟩ := try_inv ht
      rw [h3]
      by_cases e1 : i2 = a
      · subst e1
        rcases h2 with rfl | rfl
        · exact (no_ff hf n1).elim
        · exact (no_ff hf n2).elim
      · rw [if_neg e1]
        rcases h1 with z | rfl
        · exact absurd z e1
        · by_cases e2 : v2 = u
          · subst e2
            exact (no_ff hf n3).elim
          · rw [if_neg e2]
            split <;> split <;> omega
theorem chP_ge {fb : Nat → Nat} {b : Nat} : ∀ {n l st c : Nat}, chP fb b n l st = some c → st ≤ c
  | 0, _, _, _, h => by cases h
  | n + 1, l, st, c, h => by
    unfold chP at h
    split at h
    · cases h
      exact Nat.le_refl _
    · split at h
      · cases h
      · have := chP_ge h
        omega
theorem chP_inj {fb : Nat → Nat} {b b' : Nat} : ∀ {n l st c : Nat}, chP fb b n l st = some c → chP fb b' n l st = some c → b = b'
  | 0, _, _, _, h, _ => by cases h
  | n + 1, l, st, c, h, k => by
    unfold chP at h k
    split at h
    · rename_i e
      cases h
      split at k
      · rename_i e2
        exact e.symm.trans e2
      · split at k
        · cases k
        · have := chP_ge k
          omega
    · split at h
      · cases h
      · rename_i h0
        split at k
        · cases k
          have := chP_ge h
          omega
        · exact chP_inj h k
theorem chP_b {fb : Nat → Nat} {b : Nat} (hfb : ∀ l, l < 6 → fb l < 6) : ∀ {n l st c : Nat}, l < 6 → chP fb b n l st = some c → b < 6
  | 0, _, _, _, _, h => by cases h
  | n + 1, l, st, c, hl, h => by
    unfold chP at h
    split at h
    · rename_i e
      omega
    · split at h
      · cases h
      · exact chP_b hfb (hfb l hl) h
theorem tell_some {fb : Nat → Nat} {at9 : Nat → Option Nat} {s : Nat} : ∀ {n l st : Nat}, tellN fb at9 n l = some s → ∃ g c, chP fb g n l st = some c ∧ at9 g = some s ∧ ∀ b c', chP fb b n l st = some c' → c' < c → at9 b = none
  | 0, _, _, h => by cases h
  | n + 1, l, st, h => by
    unfold tellN at h
    split at h
    · rename_i s9 e
      cases h
      exact ⟨l, st, by rw [chP, if_pos rfl], e, fun b c' h1 h2 => absurd (chP_ge h1) (by omega)⟩
    · rename_i e
      split at h
      · cases h
      · rename_i h0
        obtain ⟨g, c, h1, h2, h3⟩ := tell_some (st := st + 1) h
        refine ⟨g, c, ?_, h2, fun b c' k1 k2 => ?_⟩
        · rw [chP, if_neg (fun z => by rw [z, h2] at e; cases e), if_neg h0]
          exact h1
        · unfold chP at k1
          split at k1
          · rename_i z
            rw [← z]
            exact e
          · exact h3 b c' k1 k2
theorem tell_none {fb : Nat → Nat} {at9 : Nat → Option Nat} : ∀ {n l st : Nat}, tellN fb at9 n l = none → ∀ {b c : Nat}, chP fb b n l st = some c → at9 b = none
  | 0, _, _, _, _, _, h => by cases h
  | n + 1, l, st, h, b, c, k => by
    unfold tellN at h
    split at h
    · cases h
    · rename_i e
      unfold chP at k
      split at k
      · rename_i z
        rw [← z]
        exact e
      · split at k
        · cases k
        · rename_i h0
          rw [if_neg h0] at h
          exact tell_none h k
theorem look_char {fm : Nat → Option Frm} {k : Nat} {tn : Nat → Option Nat} (ht : ∀ n t, tn n = some t → t < 24) : ∀ i : Nat, (lookN fm k tn i = (none, 24) ∧ ∀ j t, j < i → tn (54 * k + j) = some t → fitF fm k (fm (54 * k + j)) = true → False) ∨ ∃ j t, j < i ∧ lookN fm k tn i = (some (54 * k + j), t) ∧ tn (54 * k + j) = some t ∧ fitF fm k (fm (54 * k + j)) = true ∧ ∀ j' t', j' < i → tn (54 * k + j') = some t' → fitF fm k (fm (54 * k + j')) = true → t ≤ t'
  | 0 => Or.inl ⟨rfl, fun j _ hj => absurd hj (Nat.not_lt_zero j)⟩
  | i + 1 => by
    have ih := look_char ht (fm := fm) (k := k) i
    cases e : tn (54 * k + i) with
    | none =>
      rw [lookN, e]
      rcases ih with ⟨h1, h2⟩ | ⟨j, t, h1, h2, h3, h4, h5⟩
      · refine Or.inl ⟨h1, fun j t hj hn hf => ?_⟩
        by_cases ej : j = i
        · subst ej
          rw [e] at hn
          cases hn
        · exact h2 j t (by omega) hn hf
      · refine Or.inr ⟨j, t, by omega, h2, h3, h4, fun j' t' hj hn hf => ?_⟩
        by_cases ej : j' = i
        · subst ej
          rw [e] at hn
          cases hn
        · exact h5 j' t' (by omega) hn hf
    | some t0 =>
      rw [lookN, e]
      show (_ ∧ _) ∨ _
      by_cases c : t0 < (lookN fm k tn i).2 ∧ fitF fm k (fm (54 * k + i)) = true
      · simp only [if_pos c]
        refine Or.inr ⟨i, t0, by omega, rfl, e, c.2, fun j' t' hj hn hf => ?_⟩
        by_cases ej : j' = i
        · subst ej
          rw [e] at hn
          cases hn
          exact Nat.le_refl _
        · rcases ih with ⟨h1, h2⟩ | ⟨j, t, h1, h2, h3, h4, h5⟩
          · exact (h2 j' t' (by omega) hn hf).elim
          · have h6 := h5 j' t' (by omega) hn hf
            have h7 := c.1
            rw [h2] at h7
            have h7 : t0 < t := h7
            omega
      · simp only [if_neg c]
        rcases ih with ⟨h1, h2⟩ | ⟨j, t, h1, h2, h3, h4, h5⟩
        · refine Or.inl ⟨h1, fun j t hj hn hf => ?_⟩
          by_cases ej : j = i
          · subst ej
            rw [e] at hn
            cases hn
            exact c ⟨by rw [h1]; exact ht _ _ e, hf⟩
          · exact h2 j t (by omega) hn hf
        · refine Or.inr ⟨j, t, by omega, h2, h3, h4, fun j' t' hj hn hf => ?_⟩
          by_cases ej : j' = i
          · subst ej
            rw [e] at hn
            cases hn
            refine Nat.le_of_not_lt fun z => c ⟨by rw [h2]; exact z, hf⟩
          · exact h5 j' t' (by omega) hn hf
theorem turn_inv {fb : Nat → Nat} {on fw : Nat → Int32} {x : Int32} {u a n T : Nat} (h : turnF fb on fw x u a n = some T) : ∃ c t, chP fb (n / 9 % 6) 6 a 0 = some c ∧ tryF (n % 9 / 3) (n % 9 % 3) (kindF on fw (n / 9 % 6) x) u = some t ∧ T = c * 4 + t := by
  unfold turnF at h
  split at h
  · cases h
  · rename_i c hc
    split at h
    · cases h
    · rename_i t ht
      cases h
      exact ⟨c, t, hc, ht, rfl⟩
theorem turn_of {fb : Nat → Nat} {on fw : Nat → Int32} {x : Int32} {u a n c t : Nat} (h1 : chP fb (n / 9 % 6) 6 a 0 = some c) (h2 : tryF (n % 9 / 3) (n % 9 % 3) (kindF on fw (n / 9 % 6) x) u = some t) : turnF fb on fw x u a n = some (c * 4 + t) := by
  unfold turnF
  rw [h1]
  simp only [h2]
theorem look_tell {fb : Nat → Nat} {on fw : Nat → Int32} {fm : Nat → Option Frm} {k a u : Nat} {x : Int32} (hfb : ∀ l, l < 6 → fb l < 6) (hk : k < 10) (ha : a < 6) (hu : u < 3) : lookS fb on fw fm k a x u = tellS fb on fw fm k a x u := by
  have hchar := look_char (fm := fm) (k := k) (tn := turnF fb on fw x u a) (fun n t h => turnF_lt h) 54
  unfold lookS
  cases e : tellS fb on fw fm k a x u with
  | none =>
    rcases hchar with ⟨h1, -⟩ | ⟨j, T, hj, h2, h3, h4, -⟩
    · rw [h1]
    · obtain ⟨c, t, k1, k2, -⟩ := turn_inv h3
      have hn : inLang fm k ((54 * k + j) / 9 % 6) (kindF on fw ((54 * k + j) / 9 % 6) x) u = none := tell_none e k1
      refine (inLang_none hn k2 ?_).elim
      rw [show 54 * k + 9 * ((54 * k + j) / 9 % 6) + 3 * ((54 * k + j) % 9 / 3) + (54 * k + j) % 9 % 3 = 54 * k + j by omega]
      exact h4
  | some s =>
    obtain ⟨g, c, g1, g2, g3⟩ := tell_some (st := 0) e
    have hg := chP_b hfb ha g1
    obtain ⟨i, v, t, i1, i2, i3, i4, i5, i6⟩ := inLang_some (show inLang fm k g (kindF on fw g x) u = some s from g2)
    have hkd := kindF_lt on fw g x
    have hi : i < 3 := by omega
    have hv : v < 3 := by omega
    have hs : s = 54 * k + (9 * g + 3 * i + v) := by omega
    have q1 : s / 9 % 6 = g := by omega
    have q2 : s % 9 / 3 = i := by omega
    have q3 : s % 9 % 3 = v := by omega
    have hT : turnF fb on fw x u a s = some (c * 4 + t) := turn_of (by rw [q1]; exact g1) (by rw [q1, q2, q3]; exact i5)
    rcases hchar with ⟨-, h2⟩ | ⟨j, T, hj, h2, h3, h4, h5⟩
    · exact (h2 (9 * g + 3 * i + v) (c * 4 + t) (by omega) (by rw [← hs]; exact hT) (by rw [← hs]; exact i4)).elim
    · rw [h2]
      have hle := h5 (9 * g + 3 * i + v) (c * 4 + t) (by omega) (by rw [← hs]; exact hT) (by rw [← hs]; exact i4)
      obtain ⟨c2, t2, k1, k2, k3⟩ := turn_inv h3
      have hz : 54 * k + 9 * ((54 * k + j) / 9 % 6) + 3 * ((54 * k + j) % 9 / 3) + (54 * k + j) % 9 % 3 = 54 * k + j := by omega
      have ht4 := tryF_lt k2
      have hs4 := tryF_lt i5
      have hcc : ¬ c2 < c := fun z => inLang_none (show inLang fm k ((54 * k + j) / 9 % 6) (kindF on fw ((54 * k + j) / 9 % 6) x) u = none from g3 _ _ k1 z) k2 (by rw [hz]; exact h4)
      have hc : c2 = c := by omega
      subst hc
      have hgg : (54 * k + j) / 9 % 6 = g := chP_inj k1 g1
      rw [hgg] at k2 hz
      have h6 := i6 _ _ _ k2 (by rw [hz]; exact h4)
      have htt : t2 = t := by omega
      subst htt
      obtain ⟨a1, a2, a3⟩ := try_inv k2
      obtain ⟨b1, b2, b3⟩ := try_inv i5
      have ei : (54 * k + j) % 9 / 3 = i := by
        rw [a3] at b3
        split at b3 <;> split at b3 <;> split at b3 <;> split at b3 <;> omega
      have ev : (54 * k + j) % 9 % 3 = v := by
        rw [a3] at b3
        split at b3 <;> split at b3 <;> split at b3 <;> split at b3 <;> omega
      have : 54 * k + j = s := by omega
      rw [this]
