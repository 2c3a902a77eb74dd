/-! WHAT A STATE IS: forms, pairs, the class's world -/
abbrev Frm : Type := List Int32 × Bool
abbrev Pr : Type := Nat × Frm × Frm
def hasP (L : List Int32) (i : Nat) : Bool := L.any (fun x => x == nI (101 + i))
def pbits (a b c d : Bool) : Int32 := nI ((if a then 1 else 0) + (if b then 2 else 0) + (if c then 4 else 0) + (if d then 8 else 0))
def pb (L : List Int32) : Int32 := pbits (hasP L 0) (hasP L 1) (hasP L 2) (hasP L 3)
def lenF (fo : Option Frm) : Nat := match fo with
  | none => 0
  | some F => F.1.length
def cntN (p : Nat → Bool) : Nat → Nat
  | 0 => 0
  | n + 1 => cntN p n + (if p n then 1 else 0)
theorem cntN_le (p : Nat → Bool) : ∀ n, cntN p n ≤ n
  | 0 => Nat.le_refl _
  | n + 1 => by
    have := cntN_le p n
    unfold cntN
    split <;> omega
def anyN (p : Nat → Bool) : Nat → Bool
  | 0 => false
  | n + 1 => anyN p n || p n
def cntF (fm : Nat → Option Frm) (b : Nat) : Nat := cntN (fun k => (fm (b + k)).isSome) 9
def hasF (fo : Option Frm) (i : Nat) : Bool := match fo with
  | none => false
  | some F => hasP F.1 i
def due (fm : Nat → Option Frm) (key i : Nat) : Bool := anyN (fun k => hasF (fm (54 * key + k)) i) 9
def fit1 (fm : Nat → Option Frm) (key : Nat) (F : Frm) (i : Nat) : Bool := if hasP F.1 i then due fm key i else (!due fm key i || F.2)
def fitF (fm : Nat → Option Frm) (key : Nat) (fo : Option Frm) : Bool := match fo with
  | none => false
  | some F => fit1 fm key F 0 && fit1 fm key F 1 && fit1 fm key F 2 && fit1 fm key F 3
def kindF (on fw : Nat → Int32) (g : Nat) (x : Int32) : Nat := if x = 0 then 2 else if x ≤ on g then 0 else if x ≤ fw g then 1 else 2
theorem kindF_lt (on fw : Nat → Int32) (g : Nat) (x : Int32) : kindF on fw g x < 3 := by
  unfold kindF
  split
  · decide
  · split
    · decide
    · split <;> decide
/-- how many steps up its chain a language meets b: from l, having gone st steps, n steps at most -/
def chP (fb : Nat → Nat) (b : Nat) : Nat → Nat → Nat → Option Nat
  | 0, _, _ => none
  | n + 1, l, st => if l = b then some st else if l = 0 then none else chP fb b n (fb l) (st + 1)
def inCls (fm : Nat → Option Frm) (k g i u : Nat) : Option Nat :=
  if fitF fm k (fm (54 * k + 9 * g + 3 * i + u)) then some (54 * k + 9 * g + 3 * i + u) else if fitF fm k (fm (54 * k + 9 * g + 3 * i + 0)) then some (54 * k + 9 * g + 3 * i + 0) else none
def inLang (fm : Nat → Option Frm) (k g i u : Nat) : Option Nat := match inCls fm k g i u with
  | some s => some s
  | none => inCls fm k g 2 u
def tellN (fb : Nat → Nat) (at9 : Nat → Option Nat) : Nat → Nat → Option Nat
  | 0, _ => none
  | n + 1, l => match at9 l with
    | some s => some s
    | none => if l = 0 then none else tellN fb at9 n (fb l)
def tryF (i u ai au : Nat) : Option Nat := if (i = ai ∨ i = 2) ∧ (u = au ∨ u = 0) then some ((if i = ai then 0 else 2) + (if u = au then 0 else 1)) else none
/-- the class's object and what hangs on it for ever; T: the list's row, forms, their signs, pairs -/
def cW (K : m_K) (o : Nat) (ad : Nat → Nat) (f : Nat → Nat → Int32) (d : Int32) (ft : Nat → Option Nat) (li : List Value) (T : va_W) : va_W :=
  (o, .inr (3, [.ref (ad 0), .ref (ad 1), .ref (ad 2), .ref (ad 3), .int d, .ref (ad 5), .ref (ad 6), .ref (ad 7), .ref (ad 8), .ref (ad 9)])) ::
  (ad 0, .inl (K.2.1 0, 6, .inl (f 0))) :: (ad 1, .inl (K.2.1 0, 6, .inl (f 1))) :: (ad 2, .inl (K.2.1 0, 6, .inl (f 2))) :: (ad 3, .inl (K.2.1 0, 8, .inl (f 3))) ::
  (ad 5, .inl (K.2.1 2, 540, .inr (.inr (.inr (.inr ft))))) :: (ad 6, .inl (K.2.1 0, 10, .inl (f 6))) :: (ad 7, .inl (K.2.1 0, 60, .inl (f 7))) :: (ad 9, .inl (K.2.1 0, 9, .inl (f 9))) ::
  (ad 8, .inr (0, li)) :: T
theorem cW_t {K : m_K} {o : Nat} {ad : Nat → Nat} {f : Nat → Nat → Int32} {d : Int32} {ft : Nat → Option Nat} {li : List Value} {T : va_W} {i : Nat} {x : Nat × va_E} (h : T[i]? = some x) : (cW K o ad f d ft li T)[i + 10]? = some x := h
/-- the form F lies at a -/
def FormAt (K : m_K) (T : va_W) (a : Nat) (F : Frm) : Prop := ∃ (i q j : Nat) (g : Nat → Int32), T[i]? = some (a, .inr (1, [.ref q, .int (bI F.2), .int (pb F.1)])) ∧ T[j]? = some (q, .inl (K.2.1 0, F.1.length, .inl g)) ∧ (∀ k, k < F.1.length → g k = F.1.getD k 0) ∧ 1 ≤ F.1.length ∧ F.1.length ≤ 8
def FOpt (K : m_K) (T : va_W) (r : Option Nat) (fo : Option Frm) : Prop := match fo with
  | none => r = none
  | some F => ∃ a, r = some a ∧ FormAt K T a F
def PairAt (K : m_K) (T : va_W) (a : Nat) (P : Pr) : Prop := ∃ (i fa ga : Nat), T[i]? = some (a, .inr (2, [.int (nI P.1), .ref fa, .ref ga])) ∧ FormAt K T fa P.2.1 ∧ FormAt K T ga P.2.2 ∧ P.1 < 6
theorem pb_or (a b c d a' b' c' d' : Bool) : pbits a b c d ||| pbits a' b' c' d' = pbits (a || a') (b || b') (c || c') (d || d') := by
  cases a <;> cases b <;> cases c <;> cases d <;> cases a' <;> cases b' <;> cases c' <;> cases d' <;> decide
theorem pb_not (a b c d a' b' c' d' : Bool) : (pbits a b c d &&& (pbits a' b' c' d' ^^^ (-1))) = 0 ↔ ((a && !a') || (b && !b') || (c && !c') || (d && !d')) = false := by
  cases a <;> cases b <;> cases c <;> cases d <;> cases a' <;> cases b' <;> cases c' <;> cases d' <;> decide
theorem m_sets {α : Type} {T : List α} {i : Nat} {x y : α} (h : T[i]? = some x) : (T.set i y)[i]? = some y := List.getElem?_set_self (List.getElem?_eq_some_iff.mp h).1
theorem m_setn {α : Type} {T : List α} {i j : Nat} {x y z : α} (h : T[i]? = some x) (k : T[j]? = some z) (hn : x = z → False) : (T.set i y)[j]? = some z := by
  rw [List.getElem?_set_ne (fun e => hn (by rw [e, k] at h; exact (Option.some.inj h).symm))]
  exact k
theorem m_apl {α : Type} {T : List α} {i : Nat} {x y : α} (h : T[i]? = some x) : (T ++ [y])[i]? = some x := by
  rw [List.getElem?_append_left (List.getElem?_eq_some_iff.mp h).1]
  exact h
theorem m_apr {α : Type} {T : List α} {y : α} : (T ++ [y])[T.length]? = some y := by simp
/-- what lies in T lies in T', but for rows of references -/
def Ext (T T' : va_W) : Prop := (∀ (i a : Nat) (v : Nat × List Value), T[i]? = some (a, (Sum.inr v : va_E)) → ∃ j : Nat, T'[j]? = some (a, (Sum.inr v : va_E))) ∧ ∀ (i a : Nat) (c : ClassId) (n : Nat) (g : Nat → Int32), T[i]? = some (a, (Sum.inl (c, n, .inl g) : va_E)) → ∃ j : Nat, T'[j]? = some (a, (Sum.inl (c, n, .inl g) : va_E))
theorem Ext.rf {T : va_W} : Ext T T := ⟨fun i _ _ h => ⟨i, h⟩, fun i _ _ _ _ h => ⟨i, h⟩⟩
theorem Ext.trans {T T' T'' : va_W} (h : Ext T T') (k : Ext T' T'') : Ext T T'' := ⟨fun i a v q => by obtain ⟨j, q⟩ := h.1 i a v q; exact k.1 j a v q, fun i a c n g q => by obtain ⟨j, q⟩ := h.2 i a c n g q; exact k.2 j a c n g q⟩
theorem Ext.push {T : va_W} {x : Nat × va_E} : Ext T (T ++ [x]) := ⟨fun i _ _ h => ⟨i, m_apl h⟩, fun i _ _ _ _ h => ⟨i, m_apl h⟩⟩
theorem Ext.set {T : va_W} {i a c n : Nat} {g : Nat → Option Nat} (h : T[i]? = some (a, .inl (c, n, .inr (.inr (.inr (.inr g)))))) {y : Nat × va_E} : Ext T (T.set i y) := ⟨fun j _ _ k => ⟨j, m_setn h k (fun z => by cases z)⟩, fun j _ _ _ _ k => ⟨j, m_setn h k (fun z => by cases z)⟩⟩
theorem FormAt.ext {K : m_K} {T T' : va_W} {a : Nat} {F : Frm} (h : FormAt K T a F) (e : Ext T T') : FormAt K T' a F := by
  obtain ⟨i, q, j, g, h1, h2, h3⟩ := h
  obtain ⟨i', k1⟩ := e.1 i _ _ h1
  obtain ⟨j', k2⟩ := e.2 j _ _ _ _ h2
  exact ⟨i', q, j', g, k1, k2, h3⟩
theorem FOpt.ext {K : m_K} {T T' : va_W} {r : Option Nat} {fo : Option Frm} (h : FOpt K T r fo) (e : Ext T T') : FOpt K T' r fo := by
  cases fo with
  | none => exact h
  | some F => obtain ⟨a, h1, h2⟩ := h; exact ⟨a, h1, h2.ext e⟩
theorem PairAt.ext {K : m_K} {T T' : va_W} {a : Nat} {P : Pr} (h : PairAt K T a P) (e : Ext T T') : PairAt K T' a P := by
  obtain ⟨i, fa, ga, h1, h2, h3, h4⟩ := h
  obtain ⟨i', k1⟩ := e.1 i _ _ h1
  exact ⟨i', fa, ga, k1, h2.ext e, h3.ext e, h4⟩
/-- the list's row: the JDK's empty one, or one of our own -/
def LRow (K : m_K) (T : va_W) (ed : Value) (n : Nat) (r : Nat → Option Nat) : Prop := (n = 0 ∧ ed = .ref (K.2.2 0)) ∨ ∃ (ie aE cap : Nat) (fE : Nat → Option Nat), ed = .ref aE ∧ T[ie]? = some (aE, .inl (K.2.1 3, cap, .inr (.inr (.inr (.inr fE))))) ∧ n ≤ cap ∧ (cap = 10 ∨ cap = 15 ∨ cap = 22) ∧ ∀ k, k < n → fE k = r k
theorem m_setr {α : Type} {T : List α} {x y : α} : (T ++ [x]).set T.length y = T ++ [y] := by simp
theorem m_sing {D : va_G} {cl : List vw_C} {ws : va_W} {H : Heap} {k : Nat} {x : Nat × va_E} (h : va_P D cl ws H) (hk : ws[k]? = some x) : va_P D cl [x] H := fun j q hq => by
  have hz : j < 1 := (List.getElem?_eq_some_iff.mp hq).1
  rw [show j = 0 by omega] at hq
  cases hq
  exact h k x hk
theorem m_one {a : Nat} {e : va_E} : va_D (fun x => x = a) [(a, e)] := ⟨fun i j p q hi hj _ => by
  have h1 := (List.getElem?_eq_some_iff.mp hi).1
  have h2 := (List.getElem?_eq_some_iff.mp hj).1
  simp at h1 h2
  omega, fun k q hk => by
  have h1 := (List.getElem?_eq_some_iff.mp hk).1
  rw [show k = 0 by simp at h1; omega] at hk
  cases hk
  rfl⟩
/-- one cell of a world has changed -/
theorem m_upd1 {D : va_G} {cl : List vw_C} {A : Nat → Prop} {ws : va_W} {H H1 : Heap} {i q : Nat} {e0 e : va_E} (hP : va_P D cl ws H) (hD : va_D A ws) (hi : ws[i]? = some (q, e0)) (hk : ∀ x : Nat, x < H.size → ¬ x = q → H1[x]? = H[x]?) (h1 : va_P D cl [(q, e)] H1) : va_P D cl (ws.set i (q, e)) H1 ∧ va_D A (ws.set i (q, e)) := by
  refine ⟨fun j x hj => ?_, hD.set hi⟩
  by_cases hji : j = i
  · subst hji
    rw [List.getElem?_set_self (List.getElem?_eq_some_iff.mp hi).1] at hj
    cases hj
    exact h1 0 _ rfl
  · rw [List.getElem?_set_ne (Ne.symm hji)] at hj
    exact (hP j x hj).kept (hk x.1 ((hP j x hj).lt) (fun z => hji (hD.1 j i x (q, e0) hj hi z)))
