/-! WHAT A STATE IS: forms, pairs, the class's world -/
abbrev Frm : Type := List Int32 × Bool
abbrev Pr : Type := Nat × Frm × Frm
def hasP (L : List Int32) (i : Nat) : Bool := L.any (fun x => x == nI (101 + i))
def pbits (a b c d : Bool) : Int32 := nI ((if a then 1 else 0) + (if b then 2 else 0) + (if c then 4 else 0) + (if d then 8 else 0))
def pb (L : List Int32) : Int32 := pbits (hasP L 0) (hasP L 1) (hasP L 2) (hasP L 3)
def lenF (fo : Option Frm) : Nat := match fo with
  | none => 0
  | some F => F.1.length
def cntN (p : Nat → Bool) : Nat → Nat
  | 0 => 0
  | n + 1 => cntN p n + (if p n then 1 else 0)
theorem cntN_le (p : Nat → Bool) : ∀ n, cntN p n ≤ n
  | 0 => Nat.le_refl _
  | n + 1 => by
    have := cntN_le p n
    unfold cntN
    split <;> omega
def anyN (p : Nat → Bool) : Nat → Bool
  | 0 => false
  | n + 1 => anyN p n || p n
def cntF (fm : Nat → Option Frm) (b : Nat) : Nat := cntN (fun k => (fm (b + k)).isSome) 9
def hasF (fo : Option Frm) (i : Nat) : Bool := match fo with
  | none => false
  | some F => hasP F.1 i
def due (fm : Nat → Option Frm) (key i : Nat) : Bool := anyN (fun k => hasF (fm (54 * key + k)) i) 9
def fit1 (fm : Nat → Option Frm) (key : Nat) (F : Frm) (i : Nat) : Bool := if hasP F.1 i then due fm key i else (!due fm key i || F.2)
def fitF (fm : Nat → Option Frm) (key : Nat) (fo : Option Frm) : Bool := match fo with
  | none => false
  | some F => fit1 fm key F 0 && fit1 fm key F 1 && fit1 fm key F 2 && fit1 fm key F 3
def kindF (on fw : Nat → Int32) (g : Nat) (x : Int32) : Nat := if x = 0 then 2 else if x ≤ on g then 0 else if x ≤ fw g then 1 else 2
theorem kindF_lt (on fw : Nat → Int32) (g : Nat) (x : Int32) : kindF on fw g x < 3 := by
  unfold kindF
  split
  · decide
  · split
    · decide
    · split <;> decide
/-- how many steps up its chain a language meets b: from l, having gone st steps, n steps at most -/
def chP (fb : Nat → Nat) (b : Nat) : Nat → Nat → Nat → Option Nat
  | 0, _, _ => none
  | n + 1, l, st => if l = b then some st else if l = 0 then none else chP fb b n (fb l) (st + 1)
def inCls (fm : Nat → Option Frm) (k g i u : Nat) : Option Nat :=
  if fitF fm k (fm (54 * k + 9 * g + 3 * i + u)) then some (54 * k + 9 * g + 3 * i + u) else if fitF fm k (fm (54 * k + 9 * g + 3 * i + 0)) then some (54 * k + 9 * g + 3 * i + 0) else none
def inLang (fm : Nat → Option Frm) (k g i u : Nat) : Option Nat := match inCls fm k g i u with
  | some s => some s
  | none => inCls fm k g 2 u
def tellN (fb : Nat → Nat) (at9 : Nat → Option Nat) : Nat → Nat → Option Nat
  | 0, _ => none
  | n + 1, l => match at9 l with
    | some s => some s
    | none => if l = 0 then none else tellN fb at9 n (fb l)
def tryF (i u ai au : Nat) : Option Nat := if (i = ai ∨ i = 2) ∧ (u = au ∨ u = 0) then some ((if i = ai then 0 else 2) + (if u = au then 0 else 1)) else none
/-- the class's object and what hangs on it for ever; T: the list's row, forms, their signs, pairs -/
def cW (K : m_K) (o : Nat) (ad : Nat → Nat) (f : Nat → Nat → Int32) (d : Int32) (ft : Nat → Option Nat) (li : List Value) (T : va_W) : va_W :=
  (o, .inr (3, [.ref (ad 0), .ref (ad 1), .ref (ad 2), .ref (ad 3), .int d, .ref (ad 5), .ref (ad 6), .ref (ad 7), .ref (ad 8), .ref (ad 9)])) ::
  (ad 0, .inl (K.2.1 0, 6, .inl (f 0))) :: (ad 1, .inl (K.2.1 0, 6, .inl (f 1))) :: (ad 2, .inl (K.2.1 0, 6, .inl (f 2))) :: (ad 3, .inl (K.2.1 0, 8, .inl (f 3))) ::
  (ad 5, .inl (K.2.1 2, 540, .inr (.inr (.inr (.inr ft))))) :: (ad 6, .inl (K.2.1 0, 10, .inl (f 6))) :: (ad 7, .inl (K.2.1 0, 60, .inl (f 7))) :: (ad 9, .inl (K.2.1 0, 9, .inl (f 9))) ::
  (ad 8, .inr (0, li)) :: T
theorem cW_t {K : m_K} {o : Nat} {ad : Nat → Nat} {f : Nat → Nat → Int32} {d : Int32} {ft : Nat → Option Nat} {li : List Value} {T : va_W} {i : Nat} {x : Nat × va_E} (h : T[i]? = some x) : (cW K o ad f d ft li T)[i + 10]? = some x := h
/-- the form F lies at a -/
def FormAt (K : m_K) (T : va_W) (a : Nat) (F : Frm) : Prop := ∃ (i q j : Nat) (g : Nat → Int32), T[i]? = some (a, .inr (1, [.ref q, .int (bI F.2), .int (pb F.1)])) ∧ T[j]? = some (q, .inl (K.2.1 0, F.1.length, .inl g)) ∧ (∀ k, k < F.1.length → g k = F.1.getD k 0) ∧ 1 ≤ F.1.length ∧ F.1.length ≤ 8
def FOpt (K : m_K) (T : va_W) (r : Option Nat) (fo : Option Frm) : Prop := match fo with
  | none => r = none
  | some F => ∃ a, r = some a ∧ FormAt K T a F
def PairAt (K : m_K) (T : va_W) (a : Nat) (P : Pr) : Prop := ∃ (i fa ga : Nat), T[i]? = some (a, .inr (2, [.int (nI P.1), .ref fa, .ref ga])) ∧ FormAt K T fa P.2.1 ∧ FormAt K T ga P.2.2 ∧ P.1 < 6
theorem pb_or (a b c d a' b' c' d' : Bool) : pbits a b c d ||| pbits a' b' c' d' = pbits (a || a') (b || b') (c || c') (d || d') := by
  cases a <;> cases b <;> cases c <;> cases d <;> cases a' <;> cases b' <;> cases c' <;> cases d' <;> decide
theorem pb_not (a b c d a' b' c' d' : Bool) : (pbits a b c d &&& (pbits a' b' c' d' ^^^ (-1))) = 0 ↔ ((a && !a') || (b && !b') || (c && !c') || (d && !d')) = false := by
  cases a <;> cases b <;> cases c <;> cases d <;> cases a' <;> cases b' <;> cases c' <;> cases d' <;> decide
