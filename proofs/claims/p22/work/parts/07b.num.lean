/-! THE LAW'S NUMBERS: a form as a number, the last sign least -/
def enR : List Nat → Nat
  | [] => 0
  | s :: r => s + 128 * enR r
def gR (R : List Nat) : Prop := (∀ n, n ∈ R → 1 ≤ n ∧ n < 128) ∧ R.length ≤ 4
theorem enR_lt : ∀ (R : List Nat), (∀ n, n ∈ R → 1 ≤ n ∧ n < 128) → enR R < 128 ^ R.length
  | [], _ => by decide
  | s :: r, h => by
    have h1 := enR_lt r (fun n hn => h n (List.mem_cons_of_mem _ hn))
    have h2 := h s List.mem_cons_self
    rw [enR, List.length_cons, Nat.pow_succ]
    omega
theorem gR.drop {R : List Nat} (h : gR R) (c : Nat) : gR (R.drop c) := ⟨fun n hn => h.1 n (List.mem_of_mem_drop hn), by rw [List.length_drop]; have := h.2; omega⟩
theorem gR.lt {R : List Nat} (h : gR R) (c : Nat) : enR (R.drop c) < 268435456 := by
  have h1 := enR_lt _ (h.drop c).1
  have h2 : 128 ^ (R.drop c).length ≤ 128 ^ 4 := Nat.pow_le_pow_right (by decide) (h.drop c).2
  have h3 : (128 : Nat) ^ 4 = 268435456 := rfl
  omega
theorem gR.lt0 {R : List Nat} (h : gR R) : enR R < 268435456 := h.lt 0
theorem getD_lt {α : Type} {R : List α} {c : Nat} {d : α} (hc : c < R.length) : R.getD c d = R[c] := by simp [List.getD, hc]
theorem enR_st {R : List Nat} {c : Nat} (hc : c < R.length) : enR (R.drop c) = R.getD c 0 + 128 * enR (R.drop (c + 1)) := by
  rw [List.drop_eq_getElem_cons hc, enR, getD_lt hc]
theorem gR.d {R : List Nat} (h : gR R) {c : Nat} (hc : c < R.length) : 1 ≤ R.getD c 0 ∧ R.getD c 0 < 128 := by
  rw [getD_lt hc]
  exact h.1 _ (List.getElem_mem hc)
theorem enR_div {R : List Nat} {c : Nat} (h : gR R) (hc : c < R.length) : enR (R.drop c) / 128 = enR (R.drop (c + 1)) := by
  have := h.d hc
  rw [enR_st hc]
  omega
theorem enR_mod {R : List Nat} {c : Nat} (h : gR R) (hc : c < R.length) : enR (R.drop c) % 128 = R.getD c 0 := by
  have := h.d hc
  rw [enR_st hc]
  omega
theorem enR_p {R : List Nat} {c : Nat} (h : 0 < enR (R.drop c)) : c < R.length := by
  refine Nat.lt_of_not_le fun q => ?_
  rw [List.drop_eq_nil_of_le q] at h
  exact absurd h (by decide)
theorem enR_z {R : List Nat} {c : Nat} (h : gR R) (hc : c ≤ R.length) (k : enR (R.drop c) ≤ 0) : c = R.length := by
  by_cases e : c < R.length
  · have := h.d e
    rw [enR_st e] at k
    omega
  · omega
/-- the sign at a place, the first one is 0 -/
def sgR (R : List Nat) (p : Nat) : Nat := R.getD (R.length - 1 - p) 0
theorem gR.s {R : List Nat} (h : gR R) {p : Nat} (hp : p < R.length) : 1 ≤ sgR R p ∧ sgR R p < 128 := h.d (by omega)
def anyC (R : List Nat) (s : Nat) : Nat → Bool
  | 0 => false
  | c + 1 => anyC R s c || R.getD c 0 == s
def hasR (R : List Nat) (s : Nat) : Bool := anyC R s R.length
theorem anyC_iff {R : List Nat} {s : Nat} : ∀ n, anyC R s n = true ↔ ∃ i, i < n ∧ R.getD i 0 = s
  | 0 => ⟨fun h => (by cases h), fun ⟨i, hi, _⟩ => absurd hi (Nat.not_lt_zero i)⟩
  | n + 1 => by
    rw [anyC, Bool.or_eq_true, anyC_iff n, beq_iff_eq]
    constructor
    · rintro (⟨i, hi, e⟩ | e)
      · exact ⟨i, by omega, e⟩
      · exact ⟨n, by omega, e⟩
    · rintro ⟨i, hi, e⟩
      by_cases h : i = n
      · subst h
        exact Or.inr e
      · exact Or.inl ⟨i, by omega, e⟩
theorem hasR_iff {R : List Nat} {s : Nat} : hasR R s = true ↔ s ∈ R := by
  rw [hasR, anyC_iff, List.mem_iff_getElem]
  constructor
  · rintro ⟨i, hi, e⟩
    exact ⟨i, hi, by rw [← e, getD_lt hi]⟩
  · rintro ⟨i, hi, e⟩
    exact ⟨i, hi, by rw [getD_lt hi, e]⟩
/-- distances of two such forms -/
def dsR (R Q : List Nat) : Nat := lvD (fun i => nI (sgR R i)) (fun j => nI (sgR Q j)) R.length Q.length
theorem lvR_congr {p p' : Nat → Nat} {i : Nat} {c c' : Nat → Nat} : ∀ {j : Nat}, (∀ t, t ≤ j → p t = p' t) → (∀ t, t < j → c t = c' t) → lvR p i c j = lvR p' i c' j
  | 0, _, _ => rfl
  | j + 1, h, k => by
    rw [lvR, lvR, h j (by omega), h (j + 1) (by omega), k j (by omega), lvR_congr (fun t ht => h t (by omega)) (fun t ht => k t (by omega))]
theorem lvD_congr {x x' y y' : Nat → Int32} : ∀ {i j : Nat}, (∀ t, t < i → x t = x' t) → (∀ t, t < j → y t = y' t) → lvD x y i j = lvD x' y' i j
  | 0, _, _, _ => rfl
  | i + 1, j, h, k => by
    rw [lvD, lvD]
    refine lvR_congr (fun t ht => lvD_congr (fun u hu => h u (by omega)) (fun u hu => k u (by omega))) (fun t ht => ?_)
    rw [h i (by omega), k t ht]
/-- a row of distances, filled place by place -/
theorem dw_up {w : Nat → Int32} {k : Nat} {P : Nat → Prop} {f : Nat → Nat} {x : Int32} (h : ∀ t, t < k → P t → w t = nI (f t)) (hk : P k → x = nI (f k)) : ∀ t, t < k + 1 → P t → upd w k x t = nI (f t) := fun t ht hp => by
  unfold upd
  split
  · rename_i e
    rw [e] at hp ⊢
    exact hk hp
  · exact h t (by omega) hp
theorem lvD_i0 (x y : Nat → Int32) (j : Nat) : lvD x y 0 j = j := by unfold lvD; rfl
/-! FORMS AND THEIR NUMBERS -/
def gdS (x : Int32) : Prop := 1 ≤ tN x ∧ tN x < 128 ∧ x = nI (tN x)
def drR (L : List Int32) : List Nat := (L.map tN).reverse
def drOK (L : List Int32) : Prop := (∀ x, x ∈ L → gdS x) ∧ L.length ≤ 4
def gF (F : Frm) : Prop := drOK F.1 ∧ 1 ≤ F.1.length
def gFo (fo : Option Frm) : Prop := ∀ F, fo = some F → gF F
def foR (fo : Option Frm) : List Nat := match fo with
  | none => []
  | some F => drR F.1
theorem drR_len (L : List Int32) : (drR L).length = L.length := by simp [drR]
theorem drOK.g {L : List Int32} (h : drOK L) : gR (drR L) := ⟨fun n hn => by
  obtain ⟨x, hx, rfl⟩ := List.mem_map.mp (List.mem_reverse.mp hn)
  exact ⟨(h.1 x hx).1, (h.1 x hx).2.1⟩, by rw [drR_len]; exact h.2⟩
theorem gFo.g {fo : Option Frm} (h : gFo fo) : gR (foR fo) := by
  cases fo with
  | none => exact ⟨fun n hn => (by cases hn), Nat.zero_le _⟩
  | some F => exact (h F rfl).1.g
theorem foR_len (fo : Option Frm) : (foR fo).length = lenF fo := by
  cases fo with
  | none => rfl
  | some F => exact drR_len F.1
theorem gFo.pos {fo : Option Frm} (h : gFo fo) : 0 < enR (foR fo) ↔ fo.isSome = true := by
  cases fo with
  | none => exact ⟨fun q => absurd q (by decide), fun q => (by cases q)⟩
  | some F =>
    refine ⟨fun _ => rfl, fun _ => ?_⟩
    have h1 := (h F rfl).2
    have hl : 0 < (foR (some F)).length := by rw [foR_len]; exact h1
    have h2 := h.g.d hl
    have h3 := enR_st hl
    rw [List.drop_zero] at h3
    omega
theorem gFo.zero {fo : Option Frm} (h : gFo fo) (k : enR (foR fo) ≤ 0) : fo = none := by
  cases e : fo with
  | none => rfl
  | some F =>
    have h1 := h.pos.mpr (by rw [e]; rfl)
    omega
theorem hasF_eq {fo : Option Frm} (h : gFo fo) {i : Nat} (hi : i < 4) : hasR (foR fo) (101 + i) = hasF fo i := by
  cases fo with
  | none => rfl
  | some F =>
    rw [Bool.eq_iff_iff, hasR_iff]
    show _ ↔ (F.1.any (fun x => x == nI (101 + i))) = true
    rw [List.any_eq_true]
    show 101 + i ∈ (F.1.map tN).reverse ↔ _
    rw [List.mem_reverse, List.mem_map]
    constructor
    · rintro ⟨x, hx, e⟩
      have := ((h F rfl).1.1 x hx).2.2
      rw [e] at this
      exact ⟨x, hx, by rw [beq_iff_eq]; exact this⟩
    · rintro ⟨x, hx, e⟩
      rw [beq_iff_eq] at e
      exact ⟨x, hx, by rw [e, tN_nI (by omega)]⟩
theorem drR_sg {L : List Int32} (h : drOK L) {p : Nat} (hp : p < L.length) : nI (sgR (drR L) p) = L.getD p 0 := by
  have hl := drR_len L
  have h1 : sgR (drR L) p = tN (L.getD p 0) := by
    unfold sgR
    rw [getD_lt (by omega), getD_lt hp]
    unfold drR
    rw [List.getElem_reverse, List.getElem_map]
    congr 2
    simp
    omega
  rw [h1, getD_lt hp]
  exact (h.1 _ (List.getElem_mem hp)).2.2.symm
theorem dsR_eq {L M : List Int32} (h : drOK L) (k : drOK M) : dsR (drR L) (drR M) = dst L M := by
  unfold dsR dst
  rw [drR_len, drR_len]
  exact lvD_congr (fun t ht => drR_sg h ht) (fun t ht => drR_sg k ht)
theorem drR_push (L : List Int32) (x : Int32) : enR (drR (L ++ [x])) = tN x + 128 * enR (drR L) := by
  unfold drR
  rw [List.map_append, List.reverse_append]
  rfl
theorem drOK.push {L : List Int32} {x : Int32} (h : drOK L) (hx : gdS x) (hl : L.length < 4) : drOK (L ++ [x]) := ⟨fun y hy => by
  rcases List.mem_append.mp hy with z | z
  · exact h.1 y z
  · rw [List.mem_singleton.mp z]; exact hx, by simp; omega⟩
theorem m_decr {a : Nat} (h : 1 ≤ a) : nI a + Int32.ofInt (-1) = nI (a - 1) := by
  have e : nI a = nI (a - 1) + nI 1 := by rw [nI_add]; congr 1; omega
  rw [e, Int32.add_assoc, show nI 1 + Int32.ofInt (-1) = 0 by decide, Int32.add_zero]
