/-! WHAT IS TOLD, BY THE RANK IN WHICH IT WOULD BE TRIED -/
def byF (kd u j : Nat) : Nat := if j / 3 = kd ∧ j % 3 = u then 0 else if j / 3 = kd ∧ j % 3 = 0 then 1 else if j / 3 = 2 ∧ j % 3 = u then 2 else if j = 6 then 3 else 1000
theorem byF_4 {kd u j : Nat} (h : byF kd u j < 1000) : byF kd u j < 4 := by
  revert h
  unfold byF
  split
  · omega
  · split
    · omega
    · split
      · omega
      · split <;> omega
def stF (ft : Nat → Bool) (kd u : Nat) : Nat → Option (Nat × Nat)
  | 0 => none
  | j + 1 => if byF kd u j < 1000 ∧ (match stF ft kd u j with
    | none => true
    | some p => decide (byF kd u j < p.1)) = true ∧ ft j = true then some (byF kd u j, j) else stF ft kd u j
theorem st_cg {ft ft' : Nat → Bool} {kd u : Nat} : ∀ {n : Nat}, (∀ t, t < n → ft t = ft' t) → stF ft kd u n = stF ft' kd u n
  | 0, _ => rfl
  | n + 1, h => by
    rw [stF, stF, st_cg (fun t ht => h t (by omega)), h n (by omega)]
theorem ite_or {α : Type} {P : Prop} {i : Decidable P} {x y z : α} (h : (@ite α P i x y) = z) : (P ∧ x = z) ∨ (¬ P ∧ y = z) := by
  by_cases c : P
  · rw [if_pos c] at h
    exact Or.inl ⟨c, h⟩
  · rw [if_neg c] at h
    exact Or.inr ⟨c, h⟩
theorem st_lt {ft : Nat → Bool} {kd u : Nat} : ∀ {n : Nat} {p : Nat × Nat}, stF ft kd u n = some p → p.1 < 4
  | 0, _, h => by cases h
  | n + 1, p, h => by
    rw [stF] at h
    rcases ite_or h with ⟨c, e⟩ | ⟨_, e⟩
    · cases e
      exact byF_4 c.1
    · exact st_lt e
def inl (ft : Nat → Bool) (kd u : Nat) : Option Nat := if ft (3 * kd + u) = true then some (3 * kd + u) else if ft (3 * kd + 0) = true then some (3 * kd + 0) else if ft (3 * 2 + u) = true then some (3 * 2 + u) else if ft (3 * 2 + 0) = true then some (3 * 2 + 0) else none
def selB (b0 b1 b2 b3 b4 b5 b6 b7 b8 : Bool) (n : Nat) : Bool := if n = 0 then b0 else if n = 1 then b1 else if n = 2 then b2 else if n = 3 then b3 else if n = 4 then b4 else if n = 5 then b5 else if n = 6 then b6 else if n = 7 then b7 else b8
set_option maxRecDepth 20000 in
theorem st_all : ∀ (kd u : Fin 3) (b0 b1 b2 b3 b4 b5 b6 b7 b8 : Bool), (stF (selB b0 b1 b2 b3 b4 b5 b6 b7 b8) kd.val u.val 9).map (fun p => p.2) = inl (selB b0 b1 b2 b3 b4 b5 b6 b7 b8) kd.val u.val := by decide +kernel
theorem sel_eq (ft : Nat → Bool) : ∀ t, t < 9 → ft t = selB (ft 0) (ft 1) (ft 2) (ft 3) (ft 4) (ft 5) (ft 6) (ft 7) (ft 8) t := by
  intro t ht
  rcases (show t = 0 ∨ t = 1 ∨ t = 2 ∨ t = 3 ∨ t = 4 ∨ t = 5 ∨ t = 6 ∨ t = 7 ∨ t = 8 by omega) with rfl | rfl | rfl | rfl | rfl | rfl | rfl | rfl | rfl <;> rfl
theorem inl_cg {ft ft' : Nat → Bool} {kd u : Nat} (hk : kd < 3) (hu : u < 3) (h : ∀ t, t < 9 → ft t = ft' t) : inl ft kd u = inl ft' kd u := by
  unfold inl
  rw [h (3 * kd + u) (by omega), h (3 * kd + 0) (by omega), h (3 * 2 + u) (by omega), h (3 * 2 + 0) (by omega)]
theorem st_inl {ft : Nat → Bool} {kd u : Nat} (hk : kd < 3) (hu : u < 3) : (stF ft kd u 9).map (fun p => p.2) = inl ft kd u := by
  rw [st_cg (sel_eq ft), inl_cg hk hu (sel_eq ft)]
  exact st_all ⟨kd, hk⟩ ⟨u, hu⟩ _ _ _ _ _ _ _ _ _
theorem inl_lang {fm : Nat → Option Frm} {k g kd u : Nat} : inLang fm k g kd u = (inl (fun j => fitF fm k (fm (54 * k + 9 * g + j))) kd u).map (fun j => 54 * k + 9 * g + j) := by
  unfold inLang inCls inl
  simp only [← Nat.add_assoc]
  by_cases h1 : fitF fm k (fm (54 * k + 9 * g + 3 * kd + u)) = true
  · rw [if_pos h1, if_pos h1]
    show some (54 * k + 9 * g + 3 * kd + u) = some (54 * k + 9 * g + (3 * kd + u))
    rw [Nat.add_assoc]
  · by_cases h2 : fitF fm k (fm (54 * k + 9 * g + 3 * kd + 0)) = true
    · rw [if_neg h1, if_pos h2, if_neg h1, if_pos h2]; rfl
    · rw [if_neg h1, if_neg h2, if_neg h1, if_neg h2]
      by_cases h3 : fitF fm k (fm (54 * k + 9 * g + 3 * 2 + u)) = true
      · rw [if_pos h3, if_pos h3]
        show some (54 * k + 9 * g + 3 * 2 + u) = some (54 * k + 9 * g + (3 * 2 + u))
        rw [Nat.add_assoc]
      · rw [if_neg h3, if_neg h3]
        by_cases h4 : fitF fm k (fm (54 * k + 9 * g + 3 * 2 + 0)) = true
        · rw [if_pos h4, if_pos h4]; rfl
        · rw [if_neg h4, if_neg h4]; rfl
/-- the law's inner loop, over the forms of a language -/
def fdF (ft : Nat → Bool) (kd u pl its : Nat) (s : Nat × Option Nat) : Nat → Nat × Option Nat
  | 0 => s
  | j + 1 => if byF kd u j < 1000 ∧ 4 * pl + byF kd u j < (fdF ft kd u pl its s j).1 ∧ ft j = true then (4 * pl + byF kd u j, some (9 * its + j)) else fdF ft kd u pl its s j
theorem fd_no {ft : Nat → Bool} {kd u pl its r : Nat} {b : Option Nat} (h : r ≤ 4 * pl) : ∀ n, fdF ft kd u pl its (r, b) n = (r, b)
  | 0 => rfl
  | n + 1 => by
    rw [fdF, fd_no h n, if_neg (fun z => by have h2 := z.2.1; dsimp only at h2; omega)]
theorem fd_st {ft : Nat → Bool} {kd u pl its r : Nat} {b : Option Nat} (h : 4 * pl + 4 ≤ r) : ∀ n, fdF ft kd u pl its (r, b) n = match stF ft kd u n with
    | none => (r, b)
    | some p => (4 * pl + p.1, some (9 * its + p.2))
  | 0 => rfl
  | n + 1 => by
    rw [fdF, stF, fd_st h n]
    by_cases hb : byF kd u n < 1000
    · have h4 := byF_4 hb
      cases e : stF ft kd u n with
      | none =>
        by_cases hf : ft n = true
        · rw [if_pos ⟨hb, by show _ < r; omega, hf⟩, if_pos ⟨hb, rfl, hf⟩]
        · rw [if_neg (fun z => hf z.2.2), if_neg (fun z => hf z.2.2)]
      | some p =>
        by_cases hf : ft n = true ∧ byF kd u n < p.1
        · rw [if_pos ⟨hb, by show _ < 4 * pl + p.1; omega, hf.1⟩, if_pos ⟨hb, decide_eq_true hf.2, hf.1⟩]
        · rw [if_neg (fun z => hf ⟨z.2.2, by have h2 := z.2.1; dsimp only at h2; omega⟩), if_neg (fun z => hf ⟨z.2.2, of_decide_eq_true z.2.1⟩)]
    · rw [if_neg (fun z => hb z.1), if_neg (fun z => hb z.1)]
/-- the outer one, over the languages of the chain -/
def ouF (fb : Nat → Nat) (ft : Nat → Nat → Bool) (kd : Nat → Nat) (u : Nat) : Nat → Nat → Nat → Nat × Option Nat → Nat × Option Nat
  | 0, _, _, s => s
  | n + 1, pl, l, s => if l = 0 then fdF (ft l) (kd l) u pl l s 9 else ouF fb ft kd u n (pl + 1) (fb l) (fdF (ft l) (kd l) u pl l s 9)
theorem ou_no {fb : Nat → Nat} {ft : Nat → Nat → Bool} {kd : Nat → Nat} {u : Nat} : ∀ {n pl l r : Nat} {b : Option Nat}, r ≤ 4 * pl → ouF fb ft kd u n pl l (r, b) = (r, b)
  | 0, _, _, _, _, _ => rfl
  | n + 1, pl, l, r, b, h => by
    rw [ouF, fd_no h 9, ou_no (by omega)]
    split <;> rfl
def rch (fb : Nat → Nat) : Nat → Nat → Prop
  | 0, _ => False
  | n + 1, l => l = 0 ∨ rch fb n (fb l)
theorem ou_tell {fb : Nat → Nat} {ft : Nat → Nat → Bool} {kd : Nat → Nat} {u k : Nat} {at9 : Nat → Option Nat} (hk : ∀ g, kd g < 3) (hu : u < 3) (ha : ∀ g, at9 g = (inl (ft g) (kd g) u).map (fun j => 54 * k + 9 * g + j)) : ∀ {n pl l r m : Nat}, 4 * (pl + n) ≤ r → rch fb n l → n ≤ m → (ouF fb ft kd u n pl l (r, none)).2 = (tellN fb at9 m l).map (fun s => s - 54 * k)
  | 0, _, _, _, _, _, h, _ => h.elim
  | n + 1, pl, l, r, 0, _, _, hm => absurd hm (Nat.not_succ_le_zero n)
  | n + 1, pl, l, r, m + 1, hr, hc, hm => by
    have hs := st_inl (ft := ft l) (hk l) hu
    rw [ouF, tellN, ha l, fd_st (by omega) 9]
    cases e : stF (ft l) (kd l) u 9 with
    | none =>
      rw [e] at hs
      rw [← hs]
      show (if l = 0 then (r, none) else ouF fb ft kd u n (pl + 1) (fb l) (r, none)).2 = Option.map _ (if l = 0 then none else tellN fb at9 m (fb l))
      by_cases h0 : l = 0
      · rw [if_pos h0, if_pos h0]; rfl
      · rw [if_neg h0, if_neg h0]
        exact ou_tell hk hu ha (by omega) (hc.resolve_left h0) (by omega)
    | some p =>
      have hp := st_lt e
      rw [e] at hs
      rw [← hs]
      show (if l = 0 then (4 * pl + p.1, some (9 * l + p.2)) else ouF fb ft kd u n (pl + 1) (fb l) (4 * pl + p.1, some (9 * l + p.2))).2 = some (54 * k + 9 * l + p.2 - 54 * k)
      rw [ou_no (by omega)]
      rw [show 54 * k + 9 * l + p.2 - 54 * k = 9 * l + p.2 by omega]
      split <;> rfl
def fbOK (fb : Nat → Nat) : Prop := fb 0 = 0 ∧ fb 1 < 3 ∧ fb 2 < 3 ∧ ¬ fb 1 = 1 ∧ ¬ fb 2 = 2 ∧ ¬ (fb 1 = 2 ∧ fb 2 = 1)
theorem fbOK.lt {fb : Nat → Nat} (h : fbOK fb) {l : Nat} (hl : l < 3) : fb l < 3 := by
  obtain ⟨h0, h1, h2, -⟩ := h
  rcases (show l = 0 ∨ l = 1 ∨ l = 2 by omega) with rfl | rfl | rfl <;> omega
theorem fbOK_rch {fb : Nat → Nat} (h : fbOK fb) {l : Nat} (hl : l < 3) : rch fb 3 l := by
  obtain ⟨h0, h1, h2, h3, h4, h5⟩ := h
  show l = 0 ∨ fb l = 0 ∨ fb (fb l) = 0 ∨ False
  rcases (show l = 0 ∨ l = 1 ∨ l = 2 by omega) with rfl | rfl | rfl
  · exact Or.inl rfl
  · rcases (show fb 1 = 0 ∨ fb 1 = 2 by omega) with e | e
    · exact Or.inr (Or.inl e)
    · rw [e]
      exact Or.inr (Or.inr (Or.inl (by omega)))
  · rcases (show fb 2 = 0 ∨ fb 2 = 1 by omega) with e | e
    · exact Or.inr (Or.inl e)
    · rw [e]
      exact Or.inr (Or.inr (Or.inl (by omega)))
/-- what the law's told() finds: 9 times the language, and the form -/
def toldS (fb : Nat → Nat) (on fw : Nat → Int32) (fm : Nat → Option Frm) (k g : Nat) (x : Int32) (u : Nat) : Option Nat := (tellS fb on fw fm k g x u).map (fun s => s - 54 * k)
theorem ou_told {fb : Nat → Nat} {on fw : Nat → Int32} {fm : Nat → Option Frm} {k g u : Nat} {x : Int32} (hfb : fbOK fb) (hg : g < 3) (hu : u < 3) : (ouF fb (fun g j => fitF fm k (fm (54 * k + 9 * g + j))) (fun g => kindF on fw g x) u 3 0 g (1000, none)).2 = toldS fb on fw fm k g x u :=
  ou_tell (fun g => kindF_lt on fw g x) hu (fun g => inl_lang) (by omega) (fbOK_rch hfb hg) (by omega)
theorem tellN_in3 {fb : Nat → Nat} {at9 : Nat → Option Nat} (hfb : ∀ i, i < 3 → fb i < 3) : ∀ n i s, i < 3 → tellN fb at9 n i = some s → ∃ g, g < 3 ∧ at9 g = some s
  | 0, _, _, _, h => by cases h
  | n + 1, i, s, hi, h => by
    unfold tellN at h
    split at h
    · rename_i s9 e
      cases h
      exact ⟨i, hi, e⟩
    · split at h
      · cases h
      · exact tellN_in3 hfb n _ s (hfb i hi) h
theorem tellS_3 {fb : Nat → Nat} {on fw : Nat → Int32} {fm : Nat → Option Frm} {k g u s : Nat} {x : Int32} (hfb : fbOK fb) (hg : g < 3) (hu : u < 3) (h : tellS fb on fw fm k g x u = some s) : ∃ g9 j, g9 < 3 ∧ j < 9 ∧ s = 54 * k + 9 * g9 + j ∧ fitF fm k (fm s) = true := by
  obtain ⟨g9, h1, h2⟩ := tellN_in3 (fun i hi => hfb.lt hi) _ _ _ hg h
  obtain ⟨i, v, t, i1, i2, i3, i4, -⟩ := inLang_some h2
  have hk := kindF_lt on fw g9 x
  exact ⟨g9, 3 * i + v, h1, by omega, by omega, i4⟩
