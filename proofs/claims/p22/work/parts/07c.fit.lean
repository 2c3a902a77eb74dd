/-! WHAT FITS, AS THE LAW COUNTS IT; bits of a number -/
theorem cnt_any {p : Nat → Bool} : ∀ n, anyN p n = decide (0 < cntN p n)
  | 0 => rfl
  | n + 1 => by
    rw [anyN, cntN, cnt_any n]
    cases h : p n
    · simp
    · simp
def fitC (fm : Nat → Option Frm) (k : Nat) (fo : Option Frm) : Nat → Bool
  | 0 => fo.isSome
  | i + 1 => fitC fm k fo i && (match fo with
    | none => false
    | some F => fit1 fm k F i)
theorem fitC_n {fm : Nat → Option Frm} {k : Nat} : ∀ i, fitC fm k none i = false
  | 0 => rfl
  | i + 1 => by rw [fitC, fitC_n i]; rfl
theorem fitC_4 {fm : Nat → Option Frm} {k : Nat} {fo : Option Frm} : fitC fm k fo 4 = fitF fm k fo := by
  cases fo with
  | none => exact fitC_n 4
  | some F => simp [fitC, fitF]
def laxF (fo : Option Frm) : Bool := match fo with
  | none => false
  | some F => F.2
theorem fitC_st {fm : Nat → Option Frm} {k i : Nat} {fo : Option Frm} {b d h l : Bool} (hb : b = fitC fm k fo i) (hd : due fm k i = d) (hh : hasF fo i = h) (hl : b = true → laxF fo = l) : fitC fm k fo (i + 1) = (b && (!(!d && h) && (!(d && !h) || l))) := by
  cases fo with
  | none => rw [fitC_n] at hb ⊢; rw [hb]; rfl
  | some F =>
    have hh : hasP F.1 i = h := hh
    rw [fitC, ← hb]
    show (b && fit1 fm k F i) = _
    cases b with
    | false => rfl
    | true =>
      have hl : F.2 = l := hl rfl
      unfold fit1
      rw [hh, hd, hl]
      cases d <;> cases h <;> cases l <;> rfl
def bitX (v : Int32) (j : Nat) : Bool := v.toBitVec.getLsbD j
theorem bitX_and (v w : Int32) (j : Nat) : bitX (v &&& w) j = (bitX v j && bitX w j) := by
  unfold bitX
  rw [Int32.toBitVec_and, BitVec.getLsbD_and]
theorem bitX_or (v w : Int32) (j : Nat) : bitX (v ||| w) j = (bitX v j || bitX w j) := by
  unfold bitX
  rw [Int32.toBitVec_or, BitVec.getLsbD_or]
theorem bit_m : ∀ j t : Fin 9, bitX (nI 1 <<< (nI j.val &&& 31)) t.val = decide (t.val = j.val) := by decide +kernel
theorem bit_n : ∀ j t : Fin 9, bitX ((nI 1 <<< (nI j.val &&& 31)) ^^^ -1) t.val = !decide (t.val = j.val) := by decide +kernel
theorem bit_0 : ∀ t : Fin 9, bitX (nI 0) t.val = false := by decide +kernel
theorem bit_set1 {v : Int32} {j t : Nat} (hj : j < 9) (ht : t < 9) : bitX ((v &&& ((nI 1 <<< (nI j &&& 31)) ^^^ -1)) ||| (nI 1 <<< (nI j &&& 31))) t = if t = j then true else bitX v t := by
  have h1 := bit_m ⟨j, hj⟩ ⟨t, ht⟩
  have h2 := bit_n ⟨j, hj⟩ ⟨t, ht⟩
  dsimp only at h1 h2
  rw [bitX_or, bitX_and, h1, h2]
  by_cases e : t = j <;> simp [e]
theorem bit_set0 {v : Int32} {j t : Nat} (hj : j < 9) (ht : t < 9) : bitX ((v &&& ((nI 1 <<< (nI j &&& 31)) ^^^ -1)) ||| nI 0) t = if t = j then false else bitX v t := by
  have h1 := bit_0 ⟨t, ht⟩
  have h2 := bit_n ⟨j, hj⟩ ⟨t, ht⟩
  dsimp only at h1 h2
  rw [bitX_or, bitX_and, h1, h2]
  by_cases e : t = j <;> simp [e]
theorem bv_and1 (x : BitVec 32) : x &&& 1#32 = 1#32 ↔ x.getLsbD 0 = true := by
  constructor
  · intro h
    have h2 := congrArg (fun y : BitVec 32 => y.getLsbD 0) h
    simpa using h2
  · intro h
    apply BitVec.eq_of_getLsbD_eq
    intro i hi
    rw [BitVec.getLsbD_and]
    by_cases e : i = 0
    · subst e
      rw [h]
      rfl
    · have : (1#32).getLsbD i = false := by
        rw [BitVec.getLsbD_one]
        simp [e]
      rw [this, Bool.and_false]
theorem ishr_bv {v : Int32} {j : Nat} (hj : j < 9) : (v >>> (nI j &&& 31)).toBitVec = v.toBitVec.sshiftRight j := by
  rw [Int32.toBitVec_shiftRight]
  show v.toBitVec.sshiftRight ((nI j &&& 31).toBitVec.smod 32).toNat = _
  have h : ∀ j : Fin 9, ((nI j.val &&& 31).toBitVec.smod 32).toNat = j.val := by decide +kernel
  have h2 := h ⟨j, hj⟩
  dsimp only at h2
  rw [h2]
theorem bit_rd {v : Int32} {j : Nat} (hj : j < 9) : (v >>> (nI j &&& 31)) &&& nI 1 = nI 1 ↔ bitX v j = true := by
  rw [← Int32.toBitVec_inj, Int32.toBitVec_and, show (nI 1).toBitVec = 1#32 by decide, bv_and1, ishr_bv hj, BitVec.getLsbD_sshiftRight]
  unfold bitX
  simp
  omega
