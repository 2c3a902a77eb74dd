/-! OUR BASE: what every method may lean on (ENV), contracts over a heap (m_Pc, m_B), rows over naturals (nI) -/
abbrev m_K : Type := va_G × (Nat → ClassId) × (Nat → Nat)
/-- the array classes: ints (twice), Forms, Objects -/
def m_ty (K : m_K) : List (ClassId × FieldType) := [(K.2.1 0, .int), (K.2.1 1, .int), (K.2.1 2, .object "PhraseCatalogue$Form"), (K.2.1 3, .object "java/lang/Object")]
def m_txt : List (Nat × String) := [(60, "the source falls back on no language"), (71, "the chain would go round"), (84, "there is no such sign"), (88, "the draft is full"), (95, "the draft is empty"), (116, "the form is not there"), (153, "nothing is told"), (155, "the form has no sign at this place"), (175, "there is no place below 0"), (180, "there is no such key"), (182, "there is no such language"), (184, "there is no such gender"), (186, "there is no such number class"), (191, "a number is not below 0"), (193, "ones and few are 0 to 100")]
def m_ini (X : String) : MethodName := ⟨X, "<init>", "(Ljava/lang/String;)V"⟩
def m_gc : MethodName := ⟨"java/lang/Object", "getClass", "()Ljava/lang/Class;"⟩
def m_IO : String := "java/lang/IndexOutOfBoundsException"
def m_IA : String := "java/lang/IllegalArgumentException"
def m_IS : String := "java/lang/IllegalStateException"
def m_RT : List String := ["java/lang/RuntimeException", "java/lang/Exception"]
def m_dec : List MethodName := [m_ini "java/lang/RuntimeException", m_ini "java/lang/Exception", m_ini "java/lang/Throwable", m_gc]
def m_cas : List (String × String) := [(m_IO, m_IO), (m_IA, m_IA), (m_IS, m_IS), ("[I", "java/lang/Cloneable"), ("PhraseCatalogue$Pair", "java/lang/Object")]
def m_nca : List (String × String) := [(m_IA, m_IO), (m_IS, m_IO), (m_IS, m_IA)]
/-- what a state gives to every method of ours, whatever cells of A have changed -/
def ENV (K : m_K) (A : Nat → Prop) (U : State) : Prop :=
  va_K K.1 vwCl (m_ty K) U ∧ vx_Zq Bundle.tN "UNASSIGNED_STACK" Bundle.steD A U U.heap ∧ vx_Zq Bundle.tN "SUPPRESSED_SENTINEL" Bundle.listD A U U.heap ∧
  (∀ q ∈ m_txt, ∃ sa, vk_R RX2 q.1 q.2 sa U) ∧ (∀ x ∈ m_dec, va_Nw (.declares x) U) ∧ (∀ q ∈ m_cas, va_Nw (.castable q.1 q.2) U) ∧ (∀ q ∈ m_nca, va_Nc q.1 q.2 U) ∧
  va_Z "java/util/ArrayList" "DEFAULTCAPACITY_EMPTY_ELEMENTDATA" "[Ljava/lang/Object;" (.ref (K.2.2 0)) A U U.heap ∧ va_T (.object "java/lang/Object") (K.2.2 0) 0 (fun _ => .null) A U U.heap ∧
  va_Mi "[Ljava/lang/Object;" (K.2.2 1) U ∧ va_AO "java/lang/Object" U ∧ va_AO "PhraseCatalogue$Form" U ∧ (∃ xs, va_X (K.2.2 2) (K.2.2 3) xs U U.heap) ∧ ¬ A (K.2.2 2)
theorem va_Xlt {b L : Nat} {xs : Nat → Int32} {U : State} {H : Heap} (h : va_X b L xs U H) : b < H.size := by
  obtain ⟨scr, h1, -⟩ := h
  exact (Array.getElem?_eq_some_iff.mp h1).1
theorem ENV.k {K : m_K} {A : Nat → Prop} {U : State} (h : ENV K A U) : va_K K.1 vwCl (m_ty K) U := h.1
theorem ENV.to {K : m_K} {A : Nat → Prop} {s U : State} (h : ENV K A s) (ha : s.vm.Alike U.vm) (hq : ∀ a : Nat, a < s.heap.size → ¬ A a → U.heap[a]? = s.heap[a]?)
    (h4 : ∀ q ∈ m_txt, ∃ sa, vk_R RX2 q.1 q.2 sa U) (h5 : ∀ x ∈ m_dec, va_Nw (.declares x) U) (h6 : ∀ q ∈ m_cas, va_Nw (.castable q.1 q.2) U) : ENV K A U := by
  obtain ⟨a1, a2, a3, a4, a5, a6, a7, a8, a9, b1, b2, b3, ⟨xs, b4⟩, b5⟩ := h
  exact ⟨a1.moved ha, vx_Zq.moved ha (a2.kept hq), vx_Zq.moved ha (a3.kept hq), h4, h5, h6, fun q h => va_Nc.moved ha (a7 q h), va_Z.moved ha (a8.kept hq), va_T.moved ha (a9.kept hq), va_Mi.moved ha b1, va_AO.moved ha b2, va_AO.moved ha b3, ⟨xs, va_X.moved ha (b4.kept (hq _ (va_Xlt b4) b5))⟩, b5⟩
theorem ENV.warm {K : m_K} {A : Nat → Prop} {s U : State} {H : Heap} {locs : List Loc} (h : ENV K A s) (hS : va_S A s.heap H locs) (hU : U.heap = H) (hW : s.WarmedH U.vm) : ENV K A U :=
  h.to hW.alike (fun a h1 h2 => by rw [hU]; exact hS.2.1 a h1 h2) (fun q hq => by obtain ⟨sa, k⟩ := h.2.2.2.1 q hq; exact ⟨sa, vk_R.warm hW k⟩) (fun x hx => va_Nw.warmD hW (h.2.2.2.2.1 x hx)) (fun q hq => va_Nw.warmC hW (h.2.2.2.2.2.1 q hq))
theorem ENV.calling {K : m_K} {A : Nat → Prop} {U : State} {g : JFrame} {mk : MethodId} {a : Array Value} (h : ENV K A U) : ENV K A (U.calling g mk a) :=
  h.to (Vm.Alike.refl U.vm) (fun _ _ _ => rfl) (fun q hq => by obtain ⟨sa, k⟩ := h.2.2.2.1 q hq; exact ⟨sa, vk_R.same rfl k⟩) (fun x hx => va_Nw.same rfl rfl (h.2.2.2.2.1 x hx)) (fun q hq => va_Nw.same rfl rfl (h.2.2.2.2.2.1 q hq))
theorem ENV.narrow {K : m_K} {A B : Nat → Prop} {U : State} (h : ENV K A U) (hAB : ∀ q, B q → A q) : ENV K B U := by
  obtain ⟨a1, a2, a3, a4, a5, a6, a7, a8, a9, b1, b2, b3, b4, b5⟩ := h
  exact ⟨a1, a2.narrow hAB, a3.narrow hAB, a4, a5, a6, a7, a8.narrow hAB, a9.narrow hAB, b1, b2, b3, b4, fun z => b5 (hAB _ z)⟩
/-- a contract's start: the arguments, the heap, the environment; its end: the new heap -/
def m_Pc (K : m_K) (A : Nat → Prop) (H0 : Heap) (av : List Value) : Array Value → State → Prop := va_Pc av (fun U => U.heap = H0 ∧ ENV K A U)
def m_B : Heap → State → Prop := fun H1 t => t.heap = H1
theorem m_blind {K : m_K} {A : Nat → Prop} {H0 : Heap} {av : List Value} : FrameBlind (m_Pc K A H0 av) := fun _ _ _ _ q => ⟨q.1, q.2.1, q.2.2.calling⟩
/-- a throw: nothing that was there has changed -/
def m_same (H0 H1 : Heap) : Prop := H0.size ≤ H1.size ∧ ∀ q : Nat, q < H0.size → H1[q]? = H0[q]?
theorem m_same.rf {H : Heap} : m_same H H := ⟨Nat.le_refl _, fun _ _ => rfl⟩
theorem m_same.trans {H0 H1 H2 : Heap} (h : m_same H0 H1) (k : m_same H1 H2) : m_same H0 H2 := ⟨Nat.le_trans h.1 k.1, fun q hq => (k.2 q (Nat.lt_of_lt_of_le hq h.1)).trans (h.2 q hq)⟩
theorem m_same.P {D : va_G} {cl : List vw_C} {ws : va_W} {H0 H1 : Heap} (h : m_same H0 H1) (hP : va_P D cl ws H0) : va_P D cl ws H1 := hP.kept (fun k q hk => h.2 _ ((hP k q hk).lt))
def m_X (pE : String → Prop) (H0 : Heap) (A : Nat → Prop) : String → State → State → Prop := vx_X (S := Heap) (fun H1 => m_same H0 H1) (fun E H1 t => t.heap = H1 ∧ pE E) A
def bI (b : Bool) : Int32 := if b then 1 else 0
def oI (r : Option Nat) : Int32 := match r with
  | none => -1
  | some k => nI k
theorem m_ofW {l : Launch} {y : MethodName} {ws ws' : List Cond} {rm : Room} {K : m_K} {A : Nat → Prop} {H0 : Heap} {av : List Value} {Qc : Array Value → State → Outcome → State → Prop} {mc ms : Nat} {cc : ByteArray} {maxL : Nat} {ret : Option FieldType} (hy : plainName y.cls = true) (hw : ws = Cond.code y cc maxL ret :: ws') (hlen : (lg_sl av).length ≤ maxL)
    (body : ∀ (p : Program) (e : Env) (s : State) (m : MethodId) (args : Array Value) (below : List Frame) (meth : Method) (c : Code) (ls : Array Slot), p.tables.exec = Jvm.exec → c.code = cc → meth.sig.returnType = ret → c.maxLocals = maxL → s.vm.findClass y.cls = some m.cls → (∀ w ∈ ws, w.before args s = true) → meth.locks = false → meth.name = y.name → ENV K A s → s.heap = H0 → va_S A s.heap H0 [] → lv_has ls maxL (lv_args 0 av) → W p l e rm s m args below meth c H0 [] 0 0 (MQ below Qc args s mc ms A) (F0 m 0 ls [])) : Met l y ws rm (m_Pc K A H0 av) Qc mc ms A := by
  refine Met.ofW hy hw ?_
  intro p e s m args below meth c s₁ B hml hv
  obtain ⟨hargs, hh, hE⟩ := hv
  have hl := lv_entry av hlen
  have he : entryFrame m args maxL = F0 m 0 ((lg_sl av ++ List.replicate (maxL - (lg_sl av).length) Slot.unset).toArray) [] := by rw [hargs, lg_entry_eq]
  rw [he]
  have hS : va_S A s.heap H0 [] := by rw [← hh]; exact va_S.rf
  have k := body p e s m args below meth c _ B.exec B.bytes B.returns hml (findClass_of_methodNamed B.named) (atoms_spec (ws := ws) B.pre) B.notSynchronized (name_of_methodNamed B.named B.method).1 hE hh hS hl
  rw [hh]
  exact k
theorem m_ofX {l : Launch} {y : MethodName} {ws ws' : List Cond} {rm : Room} {K : m_K} {A : Nat → Prop} {H0 : Heap} {av : List Value} {Qc : Array Value → State → Outcome → State → Prop} {XC : String → State → State → Prop} {mc ms : Nat} {cc : ByteArray} {maxL : Nat} {ret : Option FieldType} (hy : plainName y.cls = true) (hw : ws = Cond.code y cc maxL ret :: ws') (hlen : (lg_sl av).length ≤ maxL)
    (body : ∀ (p : Program) (e : Env) (s : State) (m : MethodId) (args : Array Value) (below : List Frame) (meth : Method) (c : Code) (ls : Array Slot), p.tables.exec = Jvm.exec → c.code = cc → meth.sig.returnType = ret → c.maxLocals = maxL → s.vm.findClass y.cls = some m.cls → (∀ w ∈ ws, w.before args s = true) → meth.locks = false → meth.name = y.name → (∀ x ∈ c.exceptionTable.toList, False) → ENV K A s → s.heap = H0 → va_S A s.heap H0 [] → lv_has ls maxL (lv_args 0 av) → W p l e rm s m args below meth c H0 [] 0 0 (vx_MQ below Qc XC args s mc ms A) (F0 m 0 ls [])) : vx_Met l y ws rm (m_Pc K A H0 av) Qc XC mc ms A := by
  refine vx_ofW hy hw ?_
  intro p e s m args below meth c s₁ B hml ht hv
  obtain ⟨hargs, hh, hE⟩ := hv
  have hl := lv_entry av hlen
  have he : entryFrame m args maxL = F0 m 0 ((lg_sl av ++ List.replicate (maxL - (lg_sl av).length) Slot.unset).toArray) [] := by rw [hargs, lg_entry_eq]
  rw [he]
  have hS : va_S A s.heap H0 [] := by rw [← hh]; exact va_S.rf
  have k := body p e s m args below meth c _ B.exec B.bytes B.returns hml (findClass_of_methodNamed B.named) (atoms_spec (ws := ws) B.pre) B.notSynchronized (name_of_methodNamed B.named B.method).1 ht hE hh hS hl
  rw [hh]
  exact k
/-- a body with handlers that throws nothing itself -/
theorem m_ofH {l : Launch} {y : MethodName} {ws ws' : List Cond} {rm : Room} {K : m_K} {A : Nat → Prop} {H0 : Heap} {av : List Value} {Qc : Array Value → State → Outcome → State → Prop} {mc ms : Nat} {cc : ByteArray} {maxL : Nat} {ret : Option FieldType} {hh : List (Nat × Nat × Nat × Nat)} (hy : plainName y.cls = true) (hw : ws = Cond.codeWith y cc maxL ret hh :: ws') (hlen : (lg_sl av).length ≤ maxL)
    (body : ∀ (p : Program) (e : Env) (s : State) (m : MethodId) (args : Array Value) (below : List Frame) (meth : Method) (c : Code) (ls : Array Slot), p.tables.exec = Jvm.exec → c.code = cc → meth.sig.returnType = ret → c.maxLocals = maxL → s.vm.findClass y.cls = some m.cls → (∀ w ∈ ws, w.before args s = true) → meth.locks = false → c.exceptionTable.toList = tableOf hh → ENV K A s → s.heap = H0 → va_S A s.heap H0 [] → lv_has ls maxL (lv_args 0 av) → W p l e rm s m args below meth c H0 [] 0 0 (MQ below Qc args s mc ms A) (F0 m 0 ls [])) : Met l y ws rm (m_Pc K A H0 av) Qc mc ms A := by
  refine va_MetW hy hw ?_
  intro p e s m args below meth c s₁ B hml hv
  obtain ⟨hargs, hhp, hE⟩ := hv
  have hl := lv_entry av hlen
  have he : entryFrame m args maxL = F0 m 0 ((lg_sl av ++ List.replicate (maxL - (lg_sl av).length) Slot.unset).toArray) [] := by rw [hargs, lg_entry_eq]
  rw [he]
  have hS : va_S A s.heap H0 [] := by rw [← hhp]; exact va_S.rf
  have ht := atoms_spec (ws := ws) B.pre
  have k := body p e s m args below meth c _ B.exec B.bytes B.returns hml (findClass_of_methodNamed B.named) ht B.notSynchronized (vx_table (x := y) B (ht _ (by rw [hw]; exact List.mem_cons_self))) hE hhp hS hl
  rw [hhp]
  exact k
theorem m_cat (r : Option Nat) : (va_rf r).category = 1 := by cases r <;> rfl
theorem m_narb (b : Bool) : narrow .boolean (.int (bI b)) = .int (bI b) := by cases b <;> rfl
theorem m_fitb (b : Bool) : fits .boolean (.int (bI b)) = true := by cases b <;> rfl
theorem m_inc (a : Nat) : nI a + Int32.ofInt 1 = nI (a + 1) := nI_1 a
theorem m_lt (n : Nat) : n < 2147483648 → n < 2 ^ 31 := id
section MB
variable {p : Program} {l : Launch} {e : Env} {R : Room} {s : State} {m : MethodId} {args : Array Value} {below : List Frame} {meth : Method} {c : Code} {H : Heap} {locs : List Loc} {cells slots : Nat} {Q : State → Prop}
variable {cc : ByteArray} {pc : Nat} {ls : Array Slot} {rest : List Value} {K : m_K} {A : Nat → Prop} {ws : va_W} {H0 : Heap}
theorem m_iadd (hx : p.tables.exec = Jvm.exec) (hb : c.code = cc) {a b : Nat} (d : decode cc pc = .ok (.iadd, 1)) (k : W p l e R s m args below meth c H locs cells slots Q (F0 m (pc + 1) ls (.int (nI (a + b)) :: rest))) : W p l e R s m args below meth c H locs cells slots Q (F0 m pc ls (.int (nI b) :: .int (nI a) :: rest)) := lv_iadd hx hb d (by rw [nI_add]; exact k)
theorem m_imul (hx : p.tables.exec = Jvm.exec) (hb : c.code = cc) {a b : Nat} (d : decode cc pc = .ok (.imul, 1)) (k : W p l e R s m args below meth c H locs cells slots Q (F0 m (pc + 1) ls (.int (nI (a * b)) :: rest))) : W p l e R s m args below meth c H locs cells slots Q (F0 m pc ls (.int (nI b) :: .int (nI a) :: rest)) := lv_imul hx hb d (by rw [pk_mul]; exact k)
theorem m_isub (hx : p.tables.exec = Jvm.exec) (hb : c.code = cc) {a b : Nat} (h : b ≤ a) (d : decode cc pc = .ok (.isub, 1)) (k : W p l e R s m args below meth c H locs cells slots Q (F0 m (pc + 1) ls (.int (nI (a - b)) :: rest))) : W p l e R s m args below meth c H locs cells slots Q (F0 m pc ls (.int (nI b) :: .int (nI a) :: rest)) := lv_isub hx hb d (by rw [pk_sub h]; exact k)
theorem m_idiv (hx : p.tables.exec = Jvm.exec) (hb : c.code = cc) {a b : Nat} (ha : a < 2147483648) (h0 : 0 < b) (h2 : b < 2147483648) (d : decode cc pc = .ok (.idiv, 1)) (k : W p l e R s m args below meth c H locs cells slots Q (F0 m (pc + 1) ls (.int (nI (a / b)) :: rest))) : W p l e R s m args below meth c H locs cells slots Q (F0 m pc ls (.int (nI b) :: .int (nI a) :: rest)) := lv_idiv hx hb d (nI_ne0 h0 h2) (by rw [pk_div ha h0 h2]; exact k)
theorem m_irem (hx : p.tables.exec = Jvm.exec) (hb : c.code = cc) {a b : Nat} (ha : a < 2147483648) (h0 : 0 < b) (h2 : b < 2147483648) (d : decode cc pc = .ok (.irem, 1)) (k : W p l e R s m args below meth c H locs cells slots Q (F0 m (pc + 1) ls (.int (nI (a % b)) :: rest))) : W p l e R s m args below meth c H locs cells slots Q (F0 m pc ls (.int (nI b) :: .int (nI a) :: rest)) := lv_irem hx hb d (nI_ne0 h0 h2) (by rw [pk_rem ha h0 h2]; exact k)
theorem m_ishr1 (hx : p.tables.exec = Jvm.exec) (hb : c.code = cc) {a : Nat} (ha : a < 2147483648) (d : decode cc pc = .ok (.ishr, 1)) (k : W p l e R s m args below meth c H locs cells slots Q (F0 m (pc + 1) ls (.int (nI (a / 2)) :: rest))) : W p l e R s m args below meth c H locs cells slots Q (F0 m pc ls (.int (nI 1) :: .int (nI a) :: rest)) := lv_ishr hx hb d (by have e := pk_shrN (n := a) ha ((nI 1) &&& 31) 1 (by decide); rw [Nat.pow_one] at e; rw [e]; exact k)
theorem m_icmp_lt (hx : p.tables.exec = Jvm.exec) (hb : c.code = cc) {a b : Nat} (ha : a < 2147483648) (h2 : b < 2147483648) {off : Int} {tgt : Nat} (d : decode cc pc = .ok (.if_icmp .lt off, 3)) (ht : (pc : Int) + off = (tgt : Int)) (kt : a < b → W p l e R s m args below meth c H locs cells slots Q (F0 m tgt ls (rest))) (kf : ¬ a < b → W p l e R s m args below meth c H locs cells slots Q (F0 m (pc + 3) ls (rest))) : W p l e R s m args below meth c H locs cells slots Q (F0 m pc ls (.int (nI b) :: .int (nI a) :: rest)) := lv_icmp_lt hx hb d ht (fun z => kt ((nI_ltI ha h2).mp z)) (fun z => kf (fun q => z ((nI_ltI ha h2).mpr q)))
theorem m_icmp_ge (hx : p.tables.exec = Jvm.exec) (hb : c.code = cc) {a b : Nat} (ha : a < 2147483648) (h2 : b < 2147483648) {off : Int} {tgt : Nat} (d : decode cc pc = .ok (.if_icmp .ge off, 3)) (ht : (pc : Int) + off = (tgt : Int)) (kt : b ≤ a → W p l e R s m args below meth c H locs cells slots Q (F0 m tgt ls (rest))) (kf : ¬ b ≤ a → W p l e R s m args below meth c H locs cells slots Q (F0 m (pc + 3) ls (rest))) : W p l e R s m args below meth c H locs cells slots Q (F0 m pc ls (.int (nI b) :: .int (nI a) :: rest)) := lv_icmp_ge hx hb d ht (fun z => kt ((nI_leI h2 ha).mp z)) (fun z => kf (fun q => z ((nI_leI h2 ha).mpr q)))
theorem m_icmp_gt (hx : p.tables.exec = Jvm.exec) (hb : c.code = cc) {a b : Nat} (ha : a < 2147483648) (h2 : b < 2147483648) {off : Int} {tgt : Nat} (d : decode cc pc = .ok (.if_icmp .gt off, 3)) (ht : (pc : Int) + off = (tgt : Int)) (kt : b < a → W p l e R s m args below meth c H locs cells slots Q (F0 m tgt ls (rest))) (kf : ¬ b < a → W p l e R s m args below meth c H locs cells slots Q (F0 m (pc + 3) ls (rest))) : W p l e R s m args below meth c H locs cells slots Q (F0 m pc ls (.int (nI b) :: .int (nI a) :: rest)) := lv_icmp_gt hx hb d ht (fun z => kt ((nI_ltI h2 ha).mp z)) (fun z => kf (fun q => z ((nI_ltI h2 ha).mpr q)))
theorem m_icmp_le (hx : p.tables.exec = Jvm.exec) (hb : c.code = cc) {a b : Nat} (ha : a < 2147483648) (h2 : b < 2147483648) {off : Int} {tgt : Nat} (d : decode cc pc = .ok (.if_icmp .le off, 3)) (ht : (pc : Int) + off = (tgt : Int)) (kt : a ≤ b → W p l e R s m args below meth c H locs cells slots Q (F0 m tgt ls (rest))) (kf : ¬ a ≤ b → W p l e R s m args below meth c H locs cells slots Q (F0 m (pc + 3) ls (rest))) : W p l e R s m args below meth c H locs cells slots Q (F0 m pc ls (.int (nI b) :: .int (nI a) :: rest)) := lv_icmp_le hx hb d ht (fun z => kt ((nI_leI ha h2).mp z)) (fun z => kf (fun q => z ((nI_leI ha h2).mpr q)))
theorem m_icmp_eq (hx : p.tables.exec = Jvm.exec) (hb : c.code = cc) {a b : Nat} (ha : a < 2147483648) (h2 : b < 2147483648) {off : Int} {tgt : Nat} (d : decode cc pc = .ok (.if_icmp .eq off, 3)) (ht : (pc : Int) + off = (tgt : Int)) (kt : a = b → W p l e R s m args below meth c H locs cells slots Q (F0 m tgt ls (rest))) (kf : ¬ a = b → W p l e R s m args below meth c H locs cells slots Q (F0 m (pc + 3) ls (rest))) : W p l e R s m args below meth c H locs cells slots Q (F0 m pc ls (.int (nI b) :: .int (nI a) :: rest)) := lv_icmp_eq hx hb d ht (fun z => kt ((nI_eq ha h2).mp z)) (fun z => kf (fun q => z ((nI_eq ha h2).mpr q)))
theorem m_icmp_ne (hx : p.tables.exec = Jvm.exec) (hb : c.code = cc) {a b : Nat} (ha : a < 2147483648) (h2 : b < 2147483648) {off : Int} {tgt : Nat} (d : decode cc pc = .ok (.if_icmp .ne off, 3)) (ht : (pc : Int) + off = (tgt : Int)) (kt : ¬ a = b → W p l e R s m args below meth c H locs cells slots Q (F0 m tgt ls (rest))) (kf : a = b → W p l e R s m args below meth c H locs cells slots Q (F0 m (pc + 3) ls (rest))) : W p l e R s m args below meth c H locs cells slots Q (F0 m pc ls (.int (nI b) :: .int (nI a) :: rest)) := lv_icmp_ne hx hb d ht (fun z => kt (fun q => z ((nI_eq ha h2).mpr q))) (fun z => kf ((nI_eq ha h2).mp z))
theorem m_z (a : Nat) : nI 0 = (0 : Int32) := nI_0
theorem m_if_eq (hx : p.tables.exec = Jvm.exec) (hb : c.code = cc) {a : Nat} (ha : a < 2147483648) {off : Int} {tgt : Nat} (d : decode cc pc = .ok (.ifCond .eq off, 3)) (ht : (pc : Int) + off = (tgt : Int)) (kt : a = 0 → W p l e R s m args below meth c H locs cells slots Q (F0 m tgt ls (rest))) (kf : ¬ a = 0 → W p l e R s m args below meth c H locs cells slots Q (F0 m (pc + 3) ls (rest))) : W p l e R s m args below meth c H locs cells slots Q (F0 m pc ls (.int (nI a) :: rest)) := by
  refine lv_if_eq hx hb d ht (fun z => kt ?_) (fun z => kf (fun q => z ?_))
  · rw [← nI_0] at z; exact (nI_eq ha (by decide)).mp z
  · rw [← nI_0]; exact (nI_eq ha (by decide)).mpr q
theorem m_if_gt (hx : p.tables.exec = Jvm.exec) (hb : c.code = cc) {a : Nat} (ha : a < 2147483648) {off : Int} {tgt : Nat} (d : decode cc pc = .ok (.ifCond .gt off, 3)) (ht : (pc : Int) + off = (tgt : Int)) (kt : 0 < a → W p l e R s m args below meth c H locs cells slots Q (F0 m tgt ls (rest))) (kf : ¬ 0 < a → W p l e R s m args below meth c H locs cells slots Q (F0 m (pc + 3) ls (rest))) : W p l e R s m args below meth c H locs cells slots Q (F0 m pc ls (.int (nI a) :: rest)) := by
  refine lv_if_gt hx hb d ht (fun z => kt ?_) (fun z => kf (fun q => z ?_))
  · rw [← nI_0] at z; exact (nI_ltI (by decide) ha).mp z
  · rw [← nI_0]; exact (nI_ltI (by decide) ha).mpr q
theorem m_if_le (hx : p.tables.exec = Jvm.exec) (hb : c.code = cc) {a : Nat} (ha : a < 2147483648) {off : Int} {tgt : Nat} (d : decode cc pc = .ok (.ifCond .le off, 3)) (ht : (pc : Int) + off = (tgt : Int)) (kt : a ≤ 0 → W p l e R s m args below meth c H locs cells slots Q (F0 m tgt ls (rest))) (kf : ¬ a ≤ 0 → W p l e R s m args below meth c H locs cells slots Q (F0 m (pc + 3) ls (rest))) : W p l e R s m args below meth c H locs cells slots Q (F0 m pc ls (.int (nI a) :: rest)) := by
  refine lv_if_le hx hb d ht (fun z => kt ?_) (fun z => kf (fun q => z ?_))
  · rw [← nI_0] at z; exact (nI_leI ha (by decide)).mp z
  · rw [← nI_0]; exact (nI_leI ha (by decide)).mpr q
theorem m_if_ne (hx : p.tables.exec = Jvm.exec) (hb : c.code = cc) {a : Nat} (ha : a < 2147483648) {off : Int} {tgt : Nat} (d : decode cc pc = .ok (.ifCond .ne off, 3)) (ht : (pc : Int) + off = (tgt : Int)) (kt : ¬ a = 0 → W p l e R s m args below meth c H locs cells slots Q (F0 m tgt ls (rest))) (kf : a = 0 → W p l e R s m args below meth c H locs cells slots Q (F0 m (pc + 3) ls (rest))) : W p l e R s m args below meth c H locs cells slots Q (F0 m pc ls (.int (nI a) :: rest)) := lv_if_ne hx hb d ht (fun z => kt (fun q => z (by rw [q]; exact nI_0))) (fun z => kf ((nI_eq ha (by decide)).mp (z.trans nI_0.symm)))
theorem m_if_lt (hx : p.tables.exec = Jvm.exec) (hb : c.code = cc) {a : Nat} (ha : a < 2147483648) {off : Int} {tgt : Nat} (d : decode cc pc = .ok (.ifCond .lt off, 3)) (ht : (pc : Int) + off = (tgt : Int)) (kf : W p l e R s m args below meth c H locs cells slots Q (F0 m (pc + 3) ls (rest))) : W p l e R s m args below meth c H locs cells slots Q (F0 m pc ls (.int (nI a) :: rest)) := lv_if_lt hx hb d ht (fun z => absurd z (nI_pos ha)) (fun _ => kf)
theorem m_if_ge (hx : p.tables.exec = Jvm.exec) (hb : c.code = cc) {a : Nat} (ha : a < 2147483648) {off : Int} {tgt : Nat} (d : decode cc pc = .ok (.ifCond .ge off, 3)) (ht : (pc : Int) + off = (tgt : Int)) (kt : W p l e R s m args below meth c H locs cells slots Q (F0 m tgt ls (rest))) : W p l e R s m args below meth c H locs cells slots Q (F0 m pc ls (.int (nI a) :: rest)) := lv_if_ge hx hb d ht (fun _ => kt) (fun z => absurd (nI_pos' ha) z)
theorem bI_0 {b : Bool} : bI b = 0 ↔ b = false := by cases b <;> decide
theorem m_if_eq_b (hx : p.tables.exec = Jvm.exec) (hb : c.code = cc) {b : Bool} {off : Int} {tgt : Nat} (d : decode cc pc = .ok (.ifCond .eq off, 3)) (ht : (pc : Int) + off = (tgt : Int)) (kt : b = false → W p l e R s m args below meth c H locs cells slots Q (F0 m tgt ls (rest))) (kf : b = true → W p l e R s m args below meth c H locs cells slots Q (F0 m (pc + 3) ls (rest))) : W p l e R s m args below meth c H locs cells slots Q (F0 m pc ls (.int (bI b) :: rest)) := lv_if_eq hx hb d ht (fun z => kt (bI_0.mp z)) (fun z => kf (by cases b with
    | true => rfl
    | false => exact absurd rfl z))
theorem m_if_ne_b (hx : p.tables.exec = Jvm.exec) (hb : c.code = cc) {b : Bool} {off : Int} {tgt : Nat} (d : decode cc pc = .ok (.ifCond .ne off, 3)) (ht : (pc : Int) + off = (tgt : Int)) (kt : b = true → W p l e R s m args below meth c H locs cells slots Q (F0 m tgt ls (rest))) (kf : b = false → W p l e R s m args below meth c H locs cells slots Q (F0 m (pc + 3) ls (rest))) : W p l e R s m args below meth c H locs cells slots Q (F0 m pc ls (.int (bI b) :: rest)) := lv_if_ne hx hb d ht (fun z => kt (by cases b with
    | true => rfl
    | false => exact absurd rfl z)) (fun z => kf (by cases b with
    | true => exact absurd z (by decide)
    | false => rfl))
theorem oI_m1 {r : Option Nat} (hr : ∀ k, r = some k → k < 2147483648) : oI r = -1 ↔ r = none := by
  cases r with
  | none => exact ⟨fun _ => rfl, fun _ => rfl⟩
  | some k =>
    refine ⟨fun q => ?_, fun q => by cases q⟩
    have h1 : (nI k).toInt = (-1 : Int32).toInt := congrArg Int32.toInt q
    rw [nI_toInt (hr k rfl)] at h1
    have h2 : (-1 : Int32).toInt = -1 := by decide
    omega
theorem m_icmp_eq_o (hx : p.tables.exec = Jvm.exec) (hb : c.code = cc) {r : Option Nat} (hr : ∀ k, r = some k → k < 2147483648) {off : Int} {tgt : Nat} (d : decode cc pc = .ok (.if_icmp .eq off, 3)) (ht : (pc : Int) + off = (tgt : Int)) (kt : r = none → W p l e R s m args below meth c H locs cells slots Q (F0 m tgt ls (rest))) (kf : ∀ k, r = some k → W p l e R s m args below meth c H locs cells slots Q (F0 m (pc + 3) ls (rest))) : W p l e R s m args below meth c H locs cells slots Q (F0 m pc ls (.int (-1) :: .int (oI r) :: rest)) := by
  refine lv_icmp_eq hx hb d ht (fun z => kt ((oI_m1 hr).mp z)) (fun z => ?_)
  cases e : r with
  | none => exact absurd ((oI_m1 hr).mpr e) z
  | some k => exact kf k e
theorem m_icmp_ne_o (hx : p.tables.exec = Jvm.exec) (hb : c.code = cc) {r : Option Nat} (hr : ∀ k, r = some k → k < 2147483648) {off : Int} {tgt : Nat} (d : decode cc pc = .ok (.if_icmp .ne off, 3)) (ht : (pc : Int) + off = (tgt : Int)) (kt : ∀ k, r = some k → W p l e R s m args below meth c H locs cells slots Q (F0 m tgt ls (rest))) (kf : r = none → W p l e R s m args below meth c H locs cells slots Q (F0 m (pc + 3) ls (rest))) : W p l e R s m args below meth c H locs cells slots Q (F0 m pc ls (.int (-1) :: .int (oI r) :: rest)) := by
  refine lv_icmp_ne hx hb d ht (fun z => ?_) (fun z => kf ((oI_m1 hr).mp z))
  cases e : r with
  | none => exact absurd ((oI_m1 hr).mpr e) z
  | some k => exact kt k e
theorem m_ifnull (hx : p.tables.exec = Jvm.exec) (hb : c.code = cc) {r : Option Nat} {off : Int} {tgt : Nat} (d : decode cc pc = .ok (.ifnull off, 3)) (ht : (pc : Int) + off = (tgt : Int)) (kt : r = none → W p l e R s m args below meth c H locs cells slots Q (F0 m tgt ls (rest))) (kf : ∀ a, r = some a → W p l e R s m args below meth c H locs cells slots Q (F0 m (pc + 3) ls (rest))) : W p l e R s m args below meth c H locs cells slots Q (F0 m pc ls (va_rf r :: rest)) := by
  cases r with
  | none => exact lv_ifnullN hx hb d ht (kt rfl)
  | some a => exact lv_ifnull hx hb d (kf a rfl)
theorem m_ifnonnull (hx : p.tables.exec = Jvm.exec) (hb : c.code = cc) {r : Option Nat} {off : Int} {tgt : Nat} (d : decode cc pc = .ok (.ifnonnull off, 3)) (ht : (pc : Int) + off = (tgt : Int)) (kt : ∀ a, r = some a → W p l e R s m args below meth c H locs cells slots Q (F0 m tgt ls (rest))) (kf : r = none → W p l e R s m args below meth c H locs cells slots Q (F0 m (pc + 3) ls (rest))) : W p l e R s m args below meth c H locs cells slots Q (F0 m pc ls (va_rf r :: rest)) := by
  cases r with
  | none => exact lv_ifnonnullN hx hb d (kf rfl)
  | some a => exact lv_ifnonnull hx hb d ht (kt a rfl)
theorem m_aload_nq (hx : p.tables.exec = Jvm.exec) (hb : c.code = cc) {k : Fin 4} {i : Nat} {r : Option Nat} (d : decode cc pc = .ok (.aload_n k, 1)) (hi : (k : Nat) = i) (hl : ls[i]? = some (.val (va_rf r))) (k9 : W p l e R s m args below meth c H locs cells slots Q (F0 m (pc + 1) ls (va_rf r :: rest))) : W p l e R s m args below meth c H locs cells slots Q (F0 m pc ls (rest)) := by
  cases r with
  | none => exact lv_aload_nN hx hb d hi hl k9
  | some a => exact lv_aload_n hx hb d hi hl k9
theorem m_aloadq (hx : p.tables.exec = Jvm.exec) (hb : c.code = cc)  {i : Nat} {r : Option Nat} (d : decode cc pc = .ok (.aload i, 2))  (hl : ls[i]? = some (.val (va_rf r))) (k9 : W p l e R s m args below meth c H locs cells slots Q (F0 m (pc + 2) ls (va_rf r :: rest))) : W p l e R s m args below meth c H locs cells slots Q (F0 m pc ls (rest)) := by
  cases r with
  | none => exact lv_aloadN hx hb d hl k9
  | some a => exact lv_aload hx hb d hl k9
theorem m_astore_nq (hx : p.tables.exec = Jvm.exec) (hb : c.code = cc) {k : Fin 4} {i nL : Nat} {r : Option Nat} {lv lv' : List (Nat × Value)} (d : decode cc pc = .ok (.astore_n k, 1)) (hi : (k : Nat) = i) (h : lv_has ls nL lv) (hn : i < nL) (hl : ∀ v : Value, v.category = 1 → (i, v) :: lv.filter (fun q => !(q.1 == i) && !(q.1 + 1 == i && q.2.category == 2)) = (i, v) :: lv') (kk : ∀ ls' : Array Slot, lv_has ls' nL ((i, va_rf r) :: lv') → W p l e R s m args below meth c H locs cells slots Q (F0 m (pc + 1) ls' (rest))) : W p l e R s m args below meth c H locs cells slots Q (F0 m pc ls (va_rf r :: rest)) := by
  cases r with
  | none => exact lv_astore_nN hx hb d hi h hn (hl .null rfl) kk
  | some a => exact lv_astore_n hx hb d hi h hn (hl (.ref a) rfl) kk
theorem m_astoreq (hx : p.tables.exec = Jvm.exec) (hb : c.code = cc)  {i nL : Nat} {r : Option Nat} {lv lv' : List (Nat × Value)} (d : decode cc pc = .ok (.astore i, 2))  (h : lv_has ls nL lv) (hn : i < nL) (hl : ∀ v : Value, v.category = 1 → (i, v) :: lv.filter (fun q => !(q.1 == i) && !(q.1 + 1 == i && q.2.category == 2)) = (i, v) :: lv') (kk : ∀ ls' : Array Slot, lv_has ls' nL ((i, va_rf r) :: lv') → W p l e R s m args below meth c H locs cells slots Q (F0 m (pc + 2) ls' (rest))) : W p l e R s m args below meth c H locs cells slots Q (F0 m pc ls (va_rf r :: rest)) := by
  cases r with
  | none => exact lv_astoreN hx hb d h hn (hl .null rfl) kk
  | some a => exact lv_astore hx hb d h hn (hl (.ref a) rfl) kk
theorem m_iald (hx : p.tables.exec = Jvm.exec) (hb : c.code = cc) (hK : va_K K.1 vwCl (m_ty K) s) (hP : va_P K.1 vwCl ws H) (q0 : Nat) {a n k : Nat} {f : Nat → Int32} (ha : ws[q0]? = some (a, .inl (K.2.1 0, n, .inl f))) (hk : k < n) (hn : n < 2147483648) {x : Int32} (hv : f k = x) (d : decode cc pc = .ok (.iaload, 1)) (kk : W p l e R s m args below meth c H locs cells slots Q (F0 m (pc + 1) ls (.int x :: rest))) : W p l e R s m args below meth c H locs cells slots Q (F0 m pc ls (.int (nI k) :: .ref a :: rest)) := va_iald hx hb hK hP q0 0 ha rfl (vp_in_nI hk hn) d (by rw [nI_clamp (Nat.lt_trans hk hn), hv]; exact kk)
theorem m_aald2 (hx : p.tables.exec = Jvm.exec) (hb : c.code = cc) (hK : va_K K.1 vwCl (m_ty K) s) (hP : va_P K.1 vwCl ws H) (q0 : Nat) {a n k : Nat} {f : Nat → Option Nat} (ha : ws[q0]? = some (a, .inl (K.2.1 2, n, .inr (.inr (.inr (.inr f)))))) (hk : k < n) (hn : n < 2147483648) {x : Option Nat} (hv : f k = x) (d : decode cc pc = .ok (.aaload, 1)) (kk : W p l e R s m args below meth c H locs cells slots Q (F0 m (pc + 1) ls (va_rf x :: rest))) : W p l e R s m args below meth c H locs cells slots Q (F0 m pc ls (.int (nI k) :: .ref a :: rest)) := va_aldq hx hb hK hP q0 2 ha rfl (vp_in_nI hk hn) d (by rw [nI_clamp (Nat.lt_trans hk hn), hv]; exact kk)
theorem m_aald3 (hx : p.tables.exec = Jvm.exec) (hb : c.code = cc) (hK : va_K K.1 vwCl (m_ty K) s) (hP : va_P K.1 vwCl ws H) (q0 : Nat) {a n k : Nat} {f : Nat → Option Nat} (ha : ws[q0]? = some (a, .inl (K.2.1 3, n, .inr (.inr (.inr (.inr f)))))) (hk : k < n) (hn : n < 2147483648) {x : Option Nat} (hv : f k = x) (d : decode cc pc = .ok (.aaload, 1)) (kk : W p l e R s m args below meth c H locs cells slots Q (F0 m (pc + 1) ls (va_rf x :: rest))) : W p l e R s m args below meth c H locs cells slots Q (F0 m pc ls (.int (nI k) :: .ref a :: rest)) := va_aldq hx hb hK hP q0 3 ha rfl (vp_in_nI hk hn) d (by rw [nI_clamp (Nat.lt_trans hk hn), hv]; exact kk)
theorem m_iast (hx : p.tables.exec = Jvm.exec) (hb : c.code = cc) (hK : va_K K.1 vwCl (m_ty K) s) (hP : va_P K.1 vwCl ws H) (hD : va_D A ws) (hS : va_S A H0 H locs) (q0 : Nat) {a n k : Nat} {x : Int32} {f : Nat → Int32} (ha : ws[q0]? = some (a, .inl (K.2.1 0, n, .inl f))) (hk : k < n) (hn : n < 2147483648) (d : decode cc pc = .ok (.iastore, 1)) (kk : (∀ (H1 : Heap) (locs1 : List Loc), va_P K.1 vwCl (ws.set q0 (a, .inl (K.2.1 0, n, .inl (upd f k x)))) H1 → va_D A (ws.set q0 (a, .inl (K.2.1 0, n, .inl (upd f k x)))) → va_S A H0 H1 locs1 → W p l e R s m args below meth c H1 locs1 cells slots Q (F0 m (pc + 1) ls (rest)))) : W p l e R s m args below meth c H locs cells slots Q (F0 m pc ls (.int x :: .int (nI k) :: .ref a :: rest)) := va_iast hx hb hK hP hD hS q0 0 ha rfl (vp_in_nI hk hn) d (by rw [nI_clamp (Nat.lt_trans hk hn)]; exact kk)
theorem m_nar_b (b : Bool) : vp_nar .boolean (bI b) = bI b := by cases b <;> decide
theorem m_aast2 (hx : p.tables.exec = Jvm.exec) (hb : c.code = cc) (hK : va_K K.1 vwCl (m_ty K) s) (hP : va_P K.1 vwCl ws H) (hD : va_D A ws) (hS : va_S A H0 H locs) (q0 qk : Nat) {a n k v : Nat} {vs : List Value} {f : Nat → Option Nat} (ha : ws[q0]? = some (a, .inl (K.2.1 2, n, .inr (.inr (.inr (.inr f)))))) (hv : ws[qk]? = some (v, .inr (1, vs))) (hk : k < n) (hn : n < 2147483648) (d : decode cc pc = .ok (.aastore, 1)) (kk : (∀ (H1 : Heap) (locs1 : List Loc), va_P K.1 vwCl (ws.set q0 (a, .inl (K.2.1 2, n, .inr (.inr (.inr (.inr (va_up f k (some v)))))))) H1 → va_D A (ws.set q0 (a, .inl (K.2.1 2, n, .inr (.inr (.inr (.inr (va_up f k (some v)))))))) → va_S A H0 H1 locs1 → W p l e R s m args below meth c H1 locs1 cells slots Q (F0 m (pc + 1) ls (rest)))) : W p l e R s m args below meth c H locs cells slots Q (F0 m pc ls (.ref v :: .int (nI k) :: .ref a :: rest)) := va_astq hx hb hK hP hD hS q0 2 qk 1 ha (r := (RX0, TX0, 3)) rfl hv rfl (vp_in_nI hk hn) d (by rw [nI_clamp (Nat.lt_trans hk hn)]; exact kk)
theorem m_aastN2 (hx : p.tables.exec = Jvm.exec) (hb : c.code = cc) (hK : va_K K.1 vwCl (m_ty K) s) (hP : va_P K.1 vwCl ws H) (hD : va_D A ws) (hS : va_S A H0 H locs) (q0 : Nat) {a n k : Nat} {f : Nat → Option Nat} (ha : ws[q0]? = some (a, .inl (K.2.1 2, n, .inr (.inr (.inr (.inr f)))))) (hk : k < n) (hn : n < 2147483648) (d : decode cc pc = .ok (.aastore, 1)) (kk : (∀ (H1 : Heap) (locs1 : List Loc), va_P K.1 vwCl (ws.set q0 (a, .inl (K.2.1 2, n, .inr (.inr (.inr (.inr (va_up f k none))))))) H1 → va_D A (ws.set q0 (a, .inl (K.2.1 2, n, .inr (.inr (.inr (.inr (va_up f k none))))))) → va_S A H0 H1 locs1 → W p l e R s m args below meth c H1 locs1 cells slots Q (F0 m (pc + 1) ls (rest)))) : W p l e R s m args below meth c H locs cells slots Q (F0 m pc ls (.null :: .int (nI k) :: .ref a :: rest)) := va_astqN hx hb hK hP hD hS q0 2 ha rfl (vp_in_nI hk hn) d (by rw [nI_clamp (Nat.lt_trans hk hn)]; exact kk)
theorem m_aastN3 (hx : p.tables.exec = Jvm.exec) (hb : c.code = cc) (hK : va_K K.1 vwCl (m_ty K) s) (hP : va_P K.1 vwCl ws H) (hD : va_D A ws) (hS : va_S A H0 H locs) (q0 : Nat) {a n k : Nat} {f : Nat → Option Nat} (ha : ws[q0]? = some (a, .inl (K.2.1 3, n, .inr (.inr (.inr (.inr f)))))) (hk : k < n) (hn : n < 2147483648) (d : decode cc pc = .ok (.aastore, 1)) (kk : (∀ (H1 : Heap) (locs1 : List Loc), va_P K.1 vwCl (ws.set q0 (a, .inl (K.2.1 3, n, .inr (.inr (.inr (.inr (va_up f k none))))))) H1 → va_D A (ws.set q0 (a, .inl (K.2.1 3, n, .inr (.inr (.inr (.inr (va_up f k none))))))) → va_S A H0 H1 locs1 → W p l e R s m args below meth c H1 locs1 cells slots Q (F0 m (pc + 1) ls (rest)))) : W p l e R s m args below meth c H locs cells slots Q (F0 m pc ls (.null :: .int (nI k) :: .ref a :: rest)) := va_astqN hx hb hK hP hD hS q0 3 ha rfl (vp_in_nI hk hn) d (by rw [nI_clamp (Nat.lt_trans hk hn)]; exact kk)
theorem m_newi (hx : p.tables.exec = Jvm.exec) (hb : c.code = cc) (hK : va_K K.1 vwCl (m_ty K) s) (hP : va_P K.1 vwCl ws H) (hD : va_D A ws) (hS : va_S A H0 H locs) (hA : ∀ q, H0.size ≤ q → A q) (harr : (Cond.arrayClass (newarray.typeOf .int)).before args s = true) {k : Nat} (hk : k < 65536) (hc : cells + 1 ≤ R.cells) (hs : slots + k ≤ R.slots) (d : decode cc pc = .ok (.newarray .int, 2)) (kk : ∀ (q : Nat) (H1 : Heap), q = H.size → m_same H H1 → va_P K.1 vwCl (ws ++ [(q, .inl (K.2.1 0, k, .inl (fun _ => 0)))]) H1 → va_D A (ws ++ [(q, .inl (K.2.1 0, k, .inl (fun _ => 0)))]) → va_S A H0 H1 locs → W p l e R s m args below meth c H1 locs (cells + 1) (slots + k) Q (F0 m (pc + 2) ls (.ref q :: rest))) : W p l e R s m args below meth c H locs cells slots Q (F0 m pc ls (.int (nI k) :: rest)) := by
  have hkk : k < 2147483648 := by omega
  refine va_newaK hx hb (atype := .int) harr rfl d rfl (nI_pos hkk) (nI_clamp hkk) (show k * componentBytes .int ≤ 536870912 by have : componentBytes .int ≤ 8 := (by decide); exact Nat.le_trans (Nat.mul_le_mul (Nat.le_of_lt hk) this) (by decide)) hc hs rfl fun H1 cA e1 z1 o1 hAr hNm => ?_
  have e : cA = K.2.1 0 := Option.some.inj (hNm.symm.trans (hK.2 0 _ rfl).2)
  subst e
  have hq : ∀ (j : Nat) (x : Nat × va_E), ws[j]? = some x → H1[x.1]? = H[x.1]? := fun j x hx => o1 x.1 ((hP j x hx).lt)
  refine kk H.size H1 rfl ⟨by omega, o1⟩ ((hP.kept hq).app (fun j x hx => ?_)) (hD.push hP rfl (hA _ hS.1)) ⟨Nat.le_trans hS.1 (by omega), fun x h1 h2 => (o1 x (Nat.lt_of_lt_of_le h1 hS.1)).trans (hS.2.1 x h1 h2), hS.2.2⟩
  have hz : j < 1 := (List.getElem?_eq_some_iff.mp hx).1
  rw [show j = 0 by omega] at hx
  cases hx
  exact e1
theorem m_newq2 (hx : p.tables.exec = Jvm.exec) (hb : c.code = cc) (hK : va_K K.1 vwCl (m_ty K) s) (hP : va_P K.1 vwCl ws H) (hD : va_D A ws) (hS : va_S A H0 H locs) (hA : ∀ q, H0.size ≤ q → A q) {own : String} {index : Nat} (hown : s.vm.findClass own = some m.cls) (hclink : (Cond.classLink own index "PhraseCatalogue$Form").before args s = true) (hover : va_AO "PhraseCatalogue$Form" s) {k : Nat} (hk : k < 65536) (hc : cells + 1 ≤ R.cells) (hs : slots + k ≤ R.slots) (d : decode cc pc = .ok (.anewarray index, 3)) (kk : ∀ (q : Nat) (H1 : Heap), q = H.size → m_same H H1 → va_P K.1 vwCl (ws ++ [(q, .inl (K.2.1 2, k, .inr (.inr (.inr (.inr (fun _ => none))))))]) H1 → va_D A (ws ++ [(q, .inl (K.2.1 2, k, .inr (.inr (.inr (.inr (fun _ => none))))))]) → va_S A H0 H1 locs → W p l e R s m args below meth c H1 locs (cells + 1) (slots + k) Q (F0 m (pc + 3) ls (.ref q :: rest))) : W p l e R s m args below meth c H locs cells slots Q (F0 m pc ls (.int (nI k) :: rest)) := by
  have hkk : k < 2147483648 := by omega
  refine W.anew hx hb hown hclink (va_AO.use hover) rfl d rfl (nI_pos hkk) (by rw [nI_clamp hkk]; omega) hc (by rw [nI_clamp hkk]; exact hs) fun cA kA comp f1 f2 f3 f4 => ?_
  rw [nI_clamp hkk]
  generalize hH1 : H.push ({ cls := cA, slots := Array.replicate k .null, vm := .none } : Cell) = H1
  have z1 : H1.size = H.size + 1 := by rw [← hH1, Array.size_push]
  have e1 : H1[H.size]? = some (arrV cA k (fun _ => .null)) := by rw [← hH1, Array.getElem?_push_size, ← arrV_new]
  have o1 : ∀ q : Nat, q < H.size → H1[q]? = H[q]? := fun q hq => by rw [← hH1, Array.getElem?_push, if_neg (Nat.ne_of_lt hq)]
  have e : cA = K.2.1 2 := Option.some.inj (f1.symm.trans (va_nmO (hK.2 2 _ rfl).2 rfl))
  subst e
  have hq : ∀ (j : Nat) (x : Nat × va_E), ws[j]? = some x → H1[x.1]? = H[x.1]? := fun j x hx => o1 x.1 ((hP j x hx).lt)
  refine kk H.size H1 rfl ⟨by omega, o1⟩ ((hP.kept hq).app (fun j x hx => ?_)) (hD.push hP rfl (hA _ hS.1)) ⟨Nat.le_trans hS.1 (by omega), fun x h1 h2 => (o1 x (Nat.lt_of_lt_of_le h1 hS.1)).trans (hS.2.1 x h1 h2), hS.2.2⟩
  have hz : j < 1 := (List.getElem?_eq_some_iff.mp hx).1
  rw [show j = 0 by omega] at hx
  cases hx
  show H1[H.size]? = some (vp_cell _ _)
  rw [vp_cell_q]
  exact e1
theorem m_newq3 (hx : p.tables.exec = Jvm.exec) (hb : c.code = cc) (hK : va_K K.1 vwCl (m_ty K) s) (hP : va_P K.1 vwCl ws H) (hD : va_D A ws) (hS : va_S A H0 H locs) (hA : ∀ q, H0.size ≤ q → A q) {own : String} {index : Nat} (hown : s.vm.findClass own = some m.cls) (hclink : (Cond.classLink own index "java/lang/Object").before args s = true) (hover : va_AO "java/lang/Object" s) {k : Nat} (hk : k < 65536) (hc : cells + 1 ≤ R.cells) (hs : slots + k ≤ R.slots) (d : decode cc pc = .ok (.anewarray index, 3)) (kk : ∀ (q : Nat) (H1 : Heap), q = H.size → m_same H H1 → va_P K.1 vwCl (ws ++ [(q, .inl (K.2.1 3, k, .inr (.inr (.inr (.inr (fun _ => none))))))]) H1 → va_D A (ws ++ [(q, .inl (K.2.1 3, k, .inr (.inr (.inr (.inr (fun _ => none))))))]) → va_S A H0 H1 locs → W p l e R s m args below meth c H1 locs (cells + 1) (slots + k) Q (F0 m (pc + 3) ls (.ref q :: rest))) : W p l e R s m args below meth c H locs cells slots Q (F0 m pc ls (.int (nI k) :: rest)) := by
  have hkk : k < 2147483648 := by omega
  refine W.anew hx hb hown hclink (va_AO.use hover) rfl d rfl (nI_pos hkk) (by rw [nI_clamp hkk]; omega) hc (by rw [nI_clamp hkk]; exact hs) fun cA kA comp f1 f2 f3 f4 => ?_
  rw [nI_clamp hkk]
  generalize hH1 : H.push ({ cls := cA, slots := Array.replicate k .null, vm := .none } : Cell) = H1
  have z1 : H1.size = H.size + 1 := by rw [← hH1, Array.size_push]
  have e1 : H1[H.size]? = some (arrV cA k (fun _ => .null)) := by rw [← hH1, Array.getElem?_push_size, ← arrV_new]
  have o1 : ∀ q : Nat, q < H.size → H1[q]? = H[q]? := fun q hq => by rw [← hH1, Array.getElem?_push, if_neg (Nat.ne_of_lt hq)]
  have e : cA = K.2.1 3 := Option.some.inj (f1.symm.trans (va_nmO (hK.2 3 _ rfl).2 rfl))
  subst e
  have hq : ∀ (j : Nat) (x : Nat × va_E), ws[j]? = some x → H1[x.1]? = H[x.1]? := fun j x hx => o1 x.1 ((hP j x hx).lt)
  refine kk H.size H1 rfl ⟨by omega, o1⟩ ((hP.kept hq).app (fun j x hx => ?_)) (hD.push hP rfl (hA _ hS.1)) ⟨Nat.le_trans hS.1 (by omega), fun x h1 h2 => (o1 x (Nat.lt_of_lt_of_le h1 hS.1)).trans (hS.2.1 x h1 h2), hS.2.2⟩
  have hz : j < 1 := (List.getElem?_eq_some_iff.mp hx).1
  rw [show j = 0 by omega] at hx
  cases hx
  show H1[H.size]? = some (vp_cell _ _)
  rw [vp_cell_q]
  exact e1
theorem m_out {pE : String → Prop} {H1 : Heap} {locs1 : List Loc} {Qc : Array Value → State → Outcome → State → Prop} {mc ms : Nat} {E : String} {ce : Cell} {q9 : Nat} (ht : ∀ x ∈ c.exceptionTable.toList, False) (hlk : meth.locks = false) (hE : pE E) (hk : m_same H0 H1) (hS : va_S A s.heap H1 locs1) (h1 : H1[q9]? = some ce) (h2 : ce.vm = .none) (h3 : s.vm.findClass E = some ce.cls) (hc : cells ≤ mc) (hs : slots ≤ ms) : vx_W p l e R s m args below meth c H1 locs1 cells slots (vx_MQ below Qc (m_X pE H0 A) args s mc ms A) (F0 m pc ls rest) q9 :=
  vx_out (fun x hx => (ht x hx).elim) hlk h1 h2 h3 (fun t e _ => ⟨H1, hk, ⟨e, hE⟩, hS.F e⟩) hS.2.2 hc hs
theorem m_hgIO : ∀ w ∈ Cond.classLink RX2 58 m_IO :: Cond.initialized m_IO :: vx_atS RX2 62 m_IO m_RT, vx_ot w = true := by decide +kernel
theorem m_hbIO : ∀ w ∈ (vx_atS RX2 62 m_IO m_RT).filter (fun w => !goodWord w), w ∈ ([.declares (m_ini "java/lang/RuntimeException"), .declares (m_ini "java/lang/Exception"), .declares (m_ini "java/lang/Throwable"), .castable m_IO m_IO] : List Cond) := by decide +kernel
theorem m_thrIO (hx : p.tables.exec = Jvm.exec) (hb : c.code = cc) (hl0 : l.stackTraces = false) (hown : s.vm.findClass RX2 = some m.cls) (hE : ENV K A s) (hk : (Cond.classLink RX2 58 m_IO).before args s = true) (hini : (Cond.initialized m_IO).before args s = true) (hgw : ∀ w ∈ (vx_atS RX2 62 m_IO m_RT).filter goodWord, w.before args s = true) {is : Nat} {text : String} (hm : (is, text) ∈ m_txt)
    (hS : va_S A s.heap H locs) (hh : m_same H0 H) (hsize : ls.size = c.maxLocals) (d0 : decode cc pc = .ok (.new 58, 3)) (d3 : decode cc (pc + 3) = .ok (.dup, 1)) (d4 : decode cc (pc + 4) = .ok (.ldc is, 2)) (d6 : decode cc (pc + 6) = .ok (.invokespecial 62, 3)) (d9 : decode cc (pc + 9) = .ok (.athrow, 1))
    (ht : ∀ x ∈ c.exceptionTable.toList, False) (hlk : meth.locks = false) (hRf : 5 < R.frames) (hRl : (rest.map fun v => v.category).sum + 82 ≤ R.locals) (hRc : cells + 1 ≤ R.cells) (hRs : slots + 6 ≤ R.slots) {pE : String → Prop} (hpE : pE m_IO) {Qc : Array Value → State → Outcome → State → Prop} {mc ms : Nat} (hc : cells + 1 ≤ mc) (hs : slots + 6 ≤ ms) :
    W p l e R s m args below meth c H locs cells slots (vx_MQ below Qc (m_X pE H0 A) args s mc ms A) (F0 m pc ls rest) := by
  obtain ⟨sa, hstr⟩ := hE.2.2.2.1 _ hm
  have hd := hE.2.2.2.2.1
  refine vx_throwS (A := A) (own := RX2) (cls := m_IO) (names := m_RT) (ik := 58) (ic := 62) (is := is) (text := text) hx hb hl0 hown (by decide) (by decide) hk hini hstr (vx_hat hgw m_hbIO ?_) m_hgIO hE.2.1 hE.2.2.1 hS hsize d0 d3 d4 d6 d9 (fun x hx => (ht x hx).elim) hRf hRl hRc hRs hlk (fun t ha z1 z2 => ⟨t.heap, hh.trans ⟨z1, z2⟩, ⟨rfl, hpE⟩, Nat.le_trans hS.1 z1, fun q h1 h2 => (z2 q (Nat.lt_of_lt_of_le h1 hS.1)).trans (hS.2.1 q h1 h2)⟩) hS.2.2 hc hs
  exact vx_c (va_Nw.use rfl (hd _ (by simp [m_dec]))) (vx_c (va_Nw.use rfl (hd _ (by simp [m_dec]))) (vx_c (va_Nw.use rfl (hd _ (by simp [m_dec]))) (vx_c (va_Nw.use rfl (hE.2.2.2.2.2.1 (m_IO, m_IO) (by simp [m_cas]))) vx_n)))
theorem m_hgIA : ∀ w ∈ Cond.classLink RX2 69 m_IA :: Cond.initialized m_IA :: vx_atS RX2 73 m_IA m_RT, vx_ot w = true := by decide +kernel
theorem m_hbIA : ∀ w ∈ (vx_atS RX2 73 m_IA m_RT).filter (fun w => !goodWord w), w ∈ ([.declares (m_ini "java/lang/RuntimeException"), .declares (m_ini "java/lang/Exception"), .declares (m_ini "java/lang/Throwable"), .castable m_IA m_IA] : List Cond) := by decide +kernel
theorem m_thrIA (hx : p.tables.exec = Jvm.exec) (hb : c.code = cc) (hl0 : l.stackTraces = false) (hown : s.vm.findClass RX2 = some m.cls) (hE : ENV K A s) (hk : (Cond.classLink RX2 69 m_IA).before args s = true) (hini : (Cond.initialized m_IA).before args s = true) (hgw : ∀ w ∈ (vx_atS RX2 73 m_IA m_RT).filter goodWord, w.before args s = true) {is : Nat} {text : String} (hm : (is, text) ∈ m_txt)
    (hS : va_S A s.heap H locs) (hh : m_same H0 H) (hsize : ls.size = c.maxLocals) (d0 : decode cc pc = .ok (.new 69, 3)) (d3 : decode cc (pc + 3) = .ok (.dup, 1)) (d4 : decode cc (pc + 4) = .ok (.ldc is, 2)) (d6 : decode cc (pc + 6) = .ok (.invokespecial 73, 3)) (d9 : decode cc (pc + 9) = .ok (.athrow, 1))
    (ht : ∀ x ∈ c.exceptionTable.toList, False) (hlk : meth.locks = false) (hRf : 5 < R.frames) (hRl : (rest.map fun v => v.category).sum + 82 ≤ R.locals) (hRc : cells + 1 ≤ R.cells) (hRs : slots + 6 ≤ R.slots) {pE : String → Prop} (hpE : pE m_IA) {Qc : Array Value → State → Outcome → State → Prop} {mc ms : Nat} (hc : cells + 1 ≤ mc) (hs : slots + 6 ≤ ms) :
    W p l e R s m args below meth c H locs cells slots (vx_MQ below Qc (m_X pE H0 A) args s mc ms A) (F0 m pc ls rest) := by
  obtain ⟨sa, hstr⟩ := hE.2.2.2.1 _ hm
  have hd := hE.2.2.2.2.1
  refine vx_throwS (A := A) (own := RX2) (cls := m_IA) (names := m_RT) (ik := 69) (ic := 73) (is := is) (text := text) hx hb hl0 hown (by decide) (by decide) hk hini hstr (vx_hat hgw m_hbIA ?_) m_hgIA hE.2.1 hE.2.2.1 hS hsize d0 d3 d4 d6 d9 (fun x hx => (ht x hx).elim) hRf hRl hRc hRs hlk (fun t ha z1 z2 => ⟨t.heap, hh.trans ⟨z1, z2⟩, ⟨rfl, hpE⟩, Nat.le_trans hS.1 z1, fun q h1 h2 => (z2 q (Nat.lt_of_lt_of_le h1 hS.1)).trans (hS.2.1 q h1 h2)⟩) hS.2.2 hc hs
  exact vx_c (va_Nw.use rfl (hd _ (by simp [m_dec]))) (vx_c (va_Nw.use rfl (hd _ (by simp [m_dec]))) (vx_c (va_Nw.use rfl (hd _ (by simp [m_dec]))) (vx_c (va_Nw.use rfl (hE.2.2.2.2.2.1 (m_IA, m_IA) (by simp [m_cas]))) vx_n)))
theorem m_hgIS : ∀ w ∈ Cond.classLink RX2 86 m_IS :: Cond.initialized m_IS :: vx_atS RX2 90 m_IS m_RT, vx_ot w = true := by decide +kernel
theorem m_hbIS : ∀ w ∈ (vx_atS RX2 90 m_IS m_RT).filter (fun w => !goodWord w), w ∈ ([.declares (m_ini "java/lang/RuntimeException"), .declares (m_ini "java/lang/Exception"), .declares (m_ini "java/lang/Throwable"), .castable m_IS m_IS] : List Cond) := by decide +kernel
theorem m_thrIS (hx : p.tables.exec = Jvm.exec) (hb : c.code = cc) (hl0 : l.stackTraces = false) (hown : s.vm.findClass RX2 = some m.cls) (hE : ENV K A s) (hk : (Cond.classLink RX2 86 m_IS).before args s = true) (hini : (Cond.initialized m_IS).before args s = true) (hgw : ∀ w ∈ (vx_atS RX2 90 m_IS m_RT).filter goodWord, w.before args s = true) {is : Nat} {text : String} (hm : (is, text) ∈ m_txt)
    (hS : va_S A s.heap H locs) (hh : m_same H0 H) (hsize : ls.size = c.maxLocals) (d0 : decode cc pc = .ok (.new 86, 3)) (d3 : decode cc (pc + 3) = .ok (.dup, 1)) (d4 : decode cc (pc + 4) = .ok (.ldc is, 2)) (d6 : decode cc (pc + 6) = .ok (.invokespecial 90, 3)) (d9 : decode cc (pc + 9) = .ok (.athrow, 1))
    (ht : ∀ x ∈ c.exceptionTable.toList, False) (hlk : meth.locks = false) (hRf : 5 < R.frames) (hRl : (rest.map fun v => v.category).sum + 82 ≤ R.locals) (hRc : cells + 1 ≤ R.cells) (hRs : slots + 6 ≤ R.slots) {pE : String → Prop} (hpE : pE m_IS) {Qc : Array Value → State → Outcome → State → Prop} {mc ms : Nat} (hc : cells + 1 ≤ mc) (hs : slots + 6 ≤ ms) :
    W p l e R s m args below meth c H locs cells slots (vx_MQ below Qc (m_X pE H0 A) args s mc ms A) (F0 m pc ls rest) := by
  obtain ⟨sa, hstr⟩ := hE.2.2.2.1 _ hm
  have hd := hE.2.2.2.2.1
  refine vx_throwS (A := A) (own := RX2) (cls := m_IS) (names := m_RT) (ik := 86) (ic := 90) (is := is) (text := text) hx hb hl0 hown (by decide) (by decide) hk hini hstr (vx_hat hgw m_hbIS ?_) m_hgIS hE.2.1 hE.2.2.1 hS hsize d0 d3 d4 d6 d9 (fun x hx => (ht x hx).elim) hRf hRl hRc hRs hlk (fun t ha z1 z2 => ⟨t.heap, hh.trans ⟨z1, z2⟩, ⟨rfl, hpE⟩, Nat.le_trans hS.1 z1, fun q h1 h2 => (z2 q (Nat.lt_of_lt_of_le h1 hS.1)).trans (hS.2.1 q h1 h2)⟩) hS.2.2 hc hs
  exact vx_c (va_Nw.use rfl (hd _ (by simp [m_dec]))) (vx_c (va_Nw.use rfl (hd _ (by simp [m_dec]))) (vx_c (va_Nw.use rfl (hd _ (by simp [m_dec]))) (vx_c (va_Nw.use rfl (hE.2.2.2.2.2.1 (m_IS, m_IS) (by simp [m_cas]))) vx_n)))
theorem m_mmin (hx : p.tables.exec = Jvm.exec) (hb : c.code = cc) (hml : c.maxLocals = ls.size) {own : String} {index : Nat} (hown : s.vm.findClass own = some m.cls) (hlink : (Cond.methodLink own index Lib.Math.min.name).before args s = true) (hstat : (Cond.static Lib.Math.min.name).before args s = true) (hini : (Cond.initialized "java/lang/Math").before args s = true) (hcode : (Cond.code Lib.Math.min.name Lib.Math.min.code 2 (some .int)).before args s = true) (hframes : 1 ≤ R.frames) (hlocals : (rest.map fun v => v.category).sum + 13 ≤ R.locals) (hc : cells ≤ R.cells) (hs : slots ≤ R.slots) {a b : Nat} (ha : a < 2147483648) (h2 : b < 2147483648) (d : decode cc pc = .ok (.invokestatic index, 3)) (k : W p l e R s m args below meth c H locs cells slots Q (F0 m (pc + 3) ls (.int (nI (min a b)) :: rest))) : W p l e R s m args below meth c H locs cells slots Q (F0 m pc ls (.int (nI b) :: .int (nI a) :: rest)) := va_mmin hx hb hml hown hlink hstat hini hcode hframes hlocals hc hs d (by
  have e : (if nI b < nI a then nI b else nI a) = nI (min a b) := by
    by_cases h : b < a
    · rw [if_pos ((nI_ltI h2 ha).mpr h), Nat.min_eq_right (by omega)]
    · rw [if_neg (fun q => h ((nI_ltI h2 ha).mp q)), Nat.min_eq_left (by omega)]
  rw [e]
  exact k)
theorem m_mmax (hx : p.tables.exec = Jvm.exec) (hb : c.code = cc) (hml : c.maxLocals = ls.size) {own : String} {index : Nat} (hown : s.vm.findClass own = some m.cls) (hlink : (Cond.methodLink own index Lib.Math.max.name).before args s = true) (hstat : (Cond.static Lib.Math.max.name).before args s = true) (hini : (Cond.initialized "java/lang/Math").before args s = true) (hcode : (Cond.code Lib.Math.max.name Lib.Math.max.code 2 (some .int)).before args s = true) (hframes : 1 ≤ R.frames) (hlocals : (rest.map fun v => v.category).sum + 13 ≤ R.locals) (hc : cells ≤ R.cells) (hs : slots ≤ R.slots) {a b : Nat} (ha : a < 2147483648) (h2 : b < 2147483648) (d : decode cc pc = .ok (.invokestatic index, 3)) (k : W p l e R s m args below meth c H locs cells slots Q (F0 m (pc + 3) ls (.int (nI (max a b)) :: rest))) : W p l e R s m args below meth c H locs cells slots Q (F0 m pc ls (.int (nI b) :: .int (nI a) :: rest)) := va_mmax hx hb hml hown hlink hstat hini hcode hframes hlocals hc hs d (by
  have e : (if nI a < nI b then nI b else nI a) = nI (max a b) := by
    by_cases h : a < b
    · rw [if_pos ((nI_ltI ha h2).mpr h), Nat.max_eq_right (by omega)]
    · rw [if_neg (fun q => h ((nI_ltI ha h2).mp q)), Nat.max_eq_left (by omega)]
  rw [e]
  exact k)
theorem m_cVi {Ts : List Cond} {own : String} {C : String} {b : Nat} {index maxL nL mc ms n : Nat} {y : MethodName} {bytes : ByteArray} {ret : Option FieldType} {ws2 : List Cond} {rm : Room} {As av st : List Value} {post : Int32 → Heap → Prop} (S : CallFix p m c cc nL s args Ts own) (hE : ENV K A s) (hS : va_S A s.heap H locs) {A1 : Nat → Prop} (hsub : ∀ q, A1 q → A q) (hM : Met l y ws2 rm (m_Pc K A1 H av) (va_Qi post m_B A1) mc ms A1) (cw : CallW R s args own C index y bytes maxL ret ws2 rm mc ms n) (hrecv : ∃ cell : Cell, H[b]? = some cell ∧ cell.vm.isStatics = false ∧ s.vm.findClass C = some cell.cls) (hav : av = .ref b :: As) (hn : As.length = n) (hsize : ls.size = nL) (hst : st = As.reverse ++ .ref b :: rest) (hcat : (rest.map fun v => v.category).sum ≤ 8) (hdg : decode cc pc = .ok (.invokevirtual index, 3)) (hf : cells + mc ≤ R.cells ∧ slots + ms ≤ R.slots)  (kk : ∀ (r : Int32) (H1 : Heap) (locs1 : List Loc), post r H1 → va_S A s.heap H1 locs1 → (∀ q : Nat, q < H.size → ¬ A1 q → H1[q]? = H[q]?) → W p l e R s m args below meth c H1 locs1 (cells + mc) (slots + ms) Q (F0 m (pc + 3) ls (.int r :: rest))) : W p l e R s m args below meth c H locs cells slots Q (F0 m pc ls (st)) := by
  subst hav
  exact va_calli (va_runV (As := As) (rest := rest) S hM cw ⟨m_blind, hrecv, fun U hU hW => ⟨rfl, hU, (hE.warm hS hU hW).narrow hsub⟩⟩ rfl hn hsize hst (lv_room hcat) hdg hf) hS (fun q _ h => hsub q h) (fun q h => hsub q h) (fun r u t H1 locs1 ht hvm hp hB hz hk hS1 => by
    have e : H1 = u := ht.symm.trans hB
    subst e
    exact kk r H1 locs1 hp hS1 hk)
theorem m_xVi {Ts : List Cond} {own : String} {C : String} {b : Nat} {index maxL nL mc ms n : Nat} {y : MethodName} {bytes : ByteArray} {ret : Option FieldType} {ws2 : List Cond} {rm : Room} {As av st : List Value} {post : Int32 → Heap → Prop} {pE : String → Prop} (S : CallFix p m c cc nL s args Ts own) (hE : ENV K A s) (hS : va_S A s.heap H locs) {A1 : Nat → Prop} (hsub : ∀ q, A1 q → A q) (hM : vx_Met l y ws2 rm (m_Pc K A1 H av) (va_Qi post m_B A1) (m_X pE H A1) mc ms A1) (cw : CallW R s args own C index y bytes maxL ret ws2 rm mc ms n) (hrecv : ∃ cell : Cell, H[b]? = some cell ∧ cell.vm.isStatics = false ∧ s.vm.findClass C = some cell.cls) (hav : av = .ref b :: As) (hn : As.length = n) (hsize : ls.size = nL) (hst : st = As.reverse ++ .ref b :: rest) (hcat : (rest.map fun v => v.category).sum ≤ 8) (hdg : decode cc pc = .ok (.invokevirtual index, 3)) (hf : cells + mc ≤ R.cells ∧ slots + ms ≤ R.slots) (kx : ∀ (E : String) (ce : Cell) (q9 : Addr) (H1 : Heap) (locs1 : List Loc), pE E → m_same H H1 → va_S A s.heap H1 locs1 → H1[q9]? = some ce → ce.vm = .none → s.vm.findClass E = some ce.cls → vx_W p l e R s m args below meth c H1 locs1 (cells + mc) (slots + ms) Q (F0 m pc ls rest) q9) (kk : ∀ (r : Int32) (H1 : Heap) (locs1 : List Loc), post r H1 → va_S A s.heap H1 locs1 → (∀ q : Nat, q < H.size → ¬ A1 q → H1[q]? = H[q]?) → W p l e R s m args below meth c H1 locs1 (cells + mc) (slots + ms) Q (F0 m (pc + 3) ls (.int r :: rest))) : W p l e R s m args below meth c H locs cells slots Q (F0 m pc ls (st)) := by
  subst hav
  exact vx_calli (vx_runV (As := As) (rest := rest) S hM cw ⟨m_blind, hrecv, fun U hU hW => ⟨rfl, hU, (hE.warm hS hU hW).narrow hsub⟩⟩ rfl hn hsize hst (lv_room hcat) hdg hf) hS (fun q _ h => hsub q h) (fun q h => hsub q h) (fun q _ h => hsub q h) (fun E ce q9 u t H1 locs1 ht hvm hp hB hz hk hS1 g1 g2 g3 => by
    have e : H1 = u := ht.symm.trans hB.1
    subst e
    exact kx E ce q9 H1 locs1 hB.2 hp hS1 g1 g2 g3) (fun r u t H1 locs1 ht hvm hp hB hz hk hS1 => by
    have e : H1 = u := ht.symm.trans hB
    subst e
    exact kk r H1 locs1 hp hS1 hk)
theorem m_cVv {Ts : List Cond} {own : String} {C : String} {b : Nat} {index maxL nL mc ms n : Nat} {y : MethodName} {bytes : ByteArray} {ret : Option FieldType} {ws2 : List Cond} {rm : Room} {As av st : List Value} {post : Heap → Prop} (S : CallFix p m c cc nL s args Ts own) (hE : ENV K A s) (hS : va_S A s.heap H locs) {A1 : Nat → Prop} (hsub : ∀ q, A1 q → A q) (hM : Met l y ws2 rm (m_Pc K A1 H av) (va_Qv post m_B A1) mc ms A1) (cw : CallW R s args own C index y bytes maxL ret ws2 rm mc ms n) (hrecv : ∃ cell : Cell, H[b]? = some cell ∧ cell.vm.isStatics = false ∧ s.vm.findClass C = some cell.cls) (hav : av = .ref b :: As) (hn : As.length = n) (hsize : ls.size = nL) (hst : st = As.reverse ++ .ref b :: rest) (hcat : (rest.map fun v => v.category).sum ≤ 8) (hdg : decode cc pc = .ok (.invokevirtual index, 3)) (hf : cells + mc ≤ R.cells ∧ slots + ms ≤ R.slots)  (kk : ∀ (H1 : Heap) (locs1 : List Loc), post H1 → va_S A s.heap H1 locs1 → (∀ q : Nat, q < H.size → ¬ A1 q → H1[q]? = H[q]?) → W p l e R s m args below meth c H1 locs1 (cells + mc) (slots + ms) Q (F0 m (pc + 3) ls (rest))) : W p l e R s m args below meth c H locs cells slots Q (F0 m pc ls (st)) := by
  subst hav
  exact va_callv (va_runV (As := As) (rest := rest) S hM cw ⟨m_blind, hrecv, fun U hU hW => ⟨rfl, hU, (hE.warm hS hU hW).narrow hsub⟩⟩ rfl hn hsize hst (lv_room hcat) hdg hf) hS (fun q _ h => hsub q h) (fun q h => hsub q h) (fun u t H1 locs1 ht hvm hp hB hz hk hS1 => by
    have e : H1 = u := ht.symm.trans hB
    subst e
    exact kk H1 locs1 hp hS1 hk)
theorem m_xVv {Ts : List Cond} {own : String} {C : String} {b : Nat} {index maxL nL mc ms n : Nat} {y : MethodName} {bytes : ByteArray} {ret : Option FieldType} {ws2 : List Cond} {rm : Room} {As av st : List Value} {post : Heap → Prop} {pE : String → Prop} (S : CallFix p m c cc nL s args Ts own) (hE : ENV K A s) (hS : va_S A s.heap H locs) {A1 : Nat → Prop} (hsub : ∀ q, A1 q → A q) (hM : vx_Met l y ws2 rm (m_Pc K A1 H av) (va_Qv post m_B A1) (m_X pE H A1) mc ms A1) (cw : CallW R s args own C index y bytes maxL ret ws2 rm mc ms n) (hrecv : ∃ cell : Cell, H[b]? = some cell ∧ cell.vm.isStatics = false ∧ s.vm.findClass C = some cell.cls) (hav : av = .ref b :: As) (hn : As.length = n) (hsize : ls.size = nL) (hst : st = As.reverse ++ .ref b :: rest) (hcat : (rest.map fun v => v.category).sum ≤ 8) (hdg : decode cc pc = .ok (.invokevirtual index, 3)) (hf : cells + mc ≤ R.cells ∧ slots + ms ≤ R.slots) (kx : ∀ (E : String) (ce : Cell) (q9 : Addr) (H1 : Heap) (locs1 : List Loc), pE E → m_same H H1 → va_S A s.heap H1 locs1 → H1[q9]? = some ce → ce.vm = .none → s.vm.findClass E = some ce.cls → vx_W p l e R s m args below meth c H1 locs1 (cells + mc) (slots + ms) Q (F0 m pc ls rest) q9) (kk : ∀ (H1 : Heap) (locs1 : List Loc), post H1 → va_S A s.heap H1 locs1 → (∀ q : Nat, q < H.size → ¬ A1 q → H1[q]? = H[q]?) → W p l e R s m args below meth c H1 locs1 (cells + mc) (slots + ms) Q (F0 m (pc + 3) ls (rest))) : W p l e R s m args below meth c H locs cells slots Q (F0 m pc ls (st)) := by
  subst hav
  exact vx_callv (vx_runV (As := As) (rest := rest) S hM cw ⟨m_blind, hrecv, fun U hU hW => ⟨rfl, hU, (hE.warm hS hU hW).narrow hsub⟩⟩ rfl hn hsize hst (lv_room hcat) hdg hf) hS (fun q _ h => hsub q h) (fun q h => hsub q h) (fun q _ h => hsub q h) (fun E ce q9 u t H1 locs1 ht hvm hp hB hz hk hS1 g1 g2 g3 => by
    have e : H1 = u := ht.symm.trans hB.1
    subst e
    exact kx E ce q9 H1 locs1 hB.2 hp hS1 g1 g2 g3) (fun u t H1 locs1 ht hvm hp hB hz hk hS1 => by
    have e : H1 = u := ht.symm.trans hB
    subst e
    exact kk H1 locs1 hp hS1 hk)
theorem m_cVq {Ts : List Cond} {own : String} {C : String} {b : Nat} {index maxL nL mc ms n : Nat} {y : MethodName} {bytes : ByteArray} {ret : Option FieldType} {ws2 : List Cond} {rm : Room} {As av st : List Value} {post : Option Nat → Heap → Prop} (S : CallFix p m c cc nL s args Ts own) (hE : ENV K A s) (hS : va_S A s.heap H locs) {A1 : Nat → Prop} (hsub : ∀ q, A1 q → A q) (hM : Met l y ws2 rm (m_Pc K A1 H av) (va_Qq post m_B A1) mc ms A1) (cw : CallW R s args own C index y bytes maxL ret ws2 rm mc ms n) (hrecv : ∃ cell : Cell, H[b]? = some cell ∧ cell.vm.isStatics = false ∧ s.vm.findClass C = some cell.cls) (hav : av = .ref b :: As) (hn : As.length = n) (hsize : ls.size = nL) (hst : st = As.reverse ++ .ref b :: rest) (hcat : (rest.map fun v => v.category).sum ≤ 8) (hdg : decode cc pc = .ok (.invokevirtual index, 3)) (hf : cells + mc ≤ R.cells ∧ slots + ms ≤ R.slots)  (kk : ∀ (r : Option Nat) (H1 : Heap) (locs1 : List Loc), post r H1 → va_S A s.heap H1 locs1 → (∀ q : Nat, q < H.size → ¬ A1 q → H1[q]? = H[q]?) → W p l e R s m args below meth c H1 locs1 (cells + mc) (slots + ms) Q (F0 m (pc + 3) ls (va_rf r :: rest))) : W p l e R s m args below meth c H locs cells slots Q (F0 m pc ls (st)) := by
  subst hav
  exact va_callq (va_runV (As := As) (rest := rest) S hM cw ⟨m_blind, hrecv, fun U hU hW => ⟨rfl, hU, (hE.warm hS hU hW).narrow hsub⟩⟩ rfl hn hsize hst (lv_room hcat) hdg hf) hS (fun q _ h => hsub q h) (fun q h => hsub q h) (fun r u t H1 locs1 ht hvm hp hB hz hk hS1 => by
    have e : H1 = u := ht.symm.trans hB
    subst e
    exact kk r H1 locs1 hp hS1 hk)
theorem m_cSi {Ts : List Cond} {own : String} {index maxL nL mc ms n : Nat} {y : MethodName} {bytes : ByteArray} {ret : Option FieldType} {ws2 : List Cond} {rm : Room} {As av st : List Value} {post : Int32 → Heap → Prop} (S : CallFix p m c cc nL s args Ts own) (hE : ENV K A s) (hS : va_S A s.heap H locs) {A1 : Nat → Prop} (hsub : ∀ q, A1 q → A q) (hM : Met l y ws2 rm (m_Pc K A1 H av) (va_Qi post m_B A1) mc ms A1) (cw : CallB R s args own index y bytes maxL ret ws2 rm mc ms n ∧ (Cond.static y).before args s = true) (hav : As = av) (hn : As.length = n) (hsize : ls.size = nL) (hst : st = As.reverse ++ rest) (hcat : (rest.map fun v => v.category).sum ≤ 8) (hdg : decode cc pc = .ok (.invokestatic index, 3)) (hf : cells + mc ≤ R.cells ∧ slots + ms ≤ R.slots)  (kk : ∀ (r : Int32) (H1 : Heap) (locs1 : List Loc), post r H1 → va_S A s.heap H1 locs1 → (∀ q : Nat, q < H.size → ¬ A1 q → H1[q]? = H[q]?) → W p l e R s m args below meth c H1 locs1 (cells + mc) (slots + ms) Q (F0 m (pc + 3) ls (.int r :: rest))) : W p l e R s m args below meth c H locs cells slots Q (F0 m pc ls (st)) := by
  subst hav
  exact va_calli (va_runS (As := As) (rest := rest) S hM cw ⟨m_blind, fun U hU hW => ⟨rfl, hU, (hE.warm hS hU hW).narrow hsub⟩⟩ rfl hn hsize hst (lv_room hcat) hdg hf) hS (fun q _ h => hsub q h) (fun q h => hsub q h) (fun r u t H1 locs1 ht hvm hp hB hz hk hS1 => by
    have e : H1 = u := ht.symm.trans hB
    subst e
    exact kk r H1 locs1 hp hS1 hk)
theorem m_xSi {Ts : List Cond} {own : String} {index maxL nL mc ms n : Nat} {y : MethodName} {bytes : ByteArray} {ret : Option FieldType} {ws2 : List Cond} {rm : Room} {As av st : List Value} {post : Int32 → Heap → Prop} {pE : String → Prop} (S : CallFix p m c cc nL s args Ts own) (hE : ENV K A s) (hS : va_S A s.heap H locs) {A1 : Nat → Prop} (hsub : ∀ q, A1 q → A q) (hM : vx_Met l y ws2 rm (m_Pc K A1 H av) (va_Qi post m_B A1) (m_X pE H A1) mc ms A1) (cw : CallB R s args own index y bytes maxL ret ws2 rm mc ms n ∧ (Cond.static y).before args s = true) (hav : As = av) (hn : As.length = n) (hsize : ls.size = nL) (hst : st = As.reverse ++ rest) (hcat : (rest.map fun v => v.category).sum ≤ 8) (hdg : decode cc pc = .ok (.invokestatic index, 3)) (hf : cells + mc ≤ R.cells ∧ slots + ms ≤ R.slots) (kx : ∀ (E : String) (ce : Cell) (q9 : Addr) (H1 : Heap) (locs1 : List Loc), pE E → m_same H H1 → va_S A s.heap H1 locs1 → H1[q9]? = some ce → ce.vm = .none → s.vm.findClass E = some ce.cls → vx_W p l e R s m args below meth c H1 locs1 (cells + mc) (slots + ms) Q (F0 m pc ls rest) q9) (kk : ∀ (r : Int32) (H1 : Heap) (locs1 : List Loc), post r H1 → va_S A s.heap H1 locs1 → (∀ q : Nat, q < H.size → ¬ A1 q → H1[q]? = H[q]?) → W p l e R s m args below meth c H1 locs1 (cells + mc) (slots + ms) Q (F0 m (pc + 3) ls (.int r :: rest))) : W p l e R s m args below meth c H locs cells slots Q (F0 m pc ls (st)) := by
  subst hav
  exact vx_calli (vx_runS (As := As) (rest := rest) S hM cw ⟨m_blind, fun U hU hW => ⟨rfl, hU, (hE.warm hS hU hW).narrow hsub⟩⟩ rfl hn hsize hst (lv_room hcat) hdg hf) hS (fun q _ h => hsub q h) (fun q h => hsub q h) (fun q _ h => hsub q h) (fun E ce q9 u t H1 locs1 ht hvm hp hB hz hk hS1 g1 g2 g3 => by
    have e : H1 = u := ht.symm.trans hB.1
    subst e
    exact kx E ce q9 H1 locs1 hB.2 hp hS1 g1 g2 g3) (fun r u t H1 locs1 ht hvm hp hB hz hk hS1 => by
    have e : H1 = u := ht.symm.trans hB
    subst e
    exact kk r H1 locs1 hp hS1 hk)
theorem m_cSv {Ts : List Cond} {own : String} {index maxL nL mc ms n : Nat} {y : MethodName} {bytes : ByteArray} {ret : Option FieldType} {ws2 : List Cond} {rm : Room} {As av st : List Value} {post : Heap → Prop} (S : CallFix p m c cc nL s args Ts own) (hE : ENV K A s) (hS : va_S A s.heap H locs) {A1 : Nat → Prop} (hsub : ∀ q, A1 q → A q) (hM : Met l y ws2 rm (m_Pc K A1 H av) (va_Qv post m_B A1) mc ms A1) (cw : CallB R s args own index y bytes maxL ret ws2 rm mc ms n ∧ (Cond.static y).before args s = true) (hav : As = av) (hn : As.length = n) (hsize : ls.size = nL) (hst : st = As.reverse ++ rest) (hcat : (rest.map fun v => v.category).sum ≤ 8) (hdg : decode cc pc = .ok (.invokestatic index, 3)) (hf : cells + mc ≤ R.cells ∧ slots + ms ≤ R.slots)  (kk : ∀ (H1 : Heap) (locs1 : List Loc), post H1 → va_S A s.heap H1 locs1 → (∀ q : Nat, q < H.size → ¬ A1 q → H1[q]? = H[q]?) → W p l e R s m args below meth c H1 locs1 (cells + mc) (slots + ms) Q (F0 m (pc + 3) ls (rest))) : W p l e R s m args below meth c H locs cells slots Q (F0 m pc ls (st)) := by
  subst hav
  exact va_callv (va_runS (As := As) (rest := rest) S hM cw ⟨m_blind, fun U hU hW => ⟨rfl, hU, (hE.warm hS hU hW).narrow hsub⟩⟩ rfl hn hsize hst (lv_room hcat) hdg hf) hS (fun q _ h => hsub q h) (fun q h => hsub q h) (fun u t H1 locs1 ht hvm hp hB hz hk hS1 => by
    have e : H1 = u := ht.symm.trans hB
    subst e
    exact kk H1 locs1 hp hS1 hk)
theorem m_xSv {Ts : List Cond} {own : String} {index maxL nL mc ms n : Nat} {y : MethodName} {bytes : ByteArray} {ret : Option FieldType} {ws2 : List Cond} {rm : Room} {As av st : List Value} {post : Heap → Prop} {pE : String → Prop} (S : CallFix p m c cc nL s args Ts own) (hE : ENV K A s) (hS : va_S A s.heap H locs) {A1 : Nat → Prop} (hsub : ∀ q, A1 q → A q) (hM : vx_Met l y ws2 rm (m_Pc K A1 H av) (va_Qv post m_B A1) (m_X pE H A1) mc ms A1) (cw : CallB R s args own index y bytes maxL ret ws2 rm mc ms n ∧ (Cond.static y).before args s = true) (hav : As = av) (hn : As.length = n) (hsize : ls.size = nL) (hst : st = As.reverse ++ rest) (hcat : (rest.map fun v => v.category).sum ≤ 8) (hdg : decode cc pc = .ok (.invokestatic index, 3)) (hf : cells + mc ≤ R.cells ∧ slots + ms ≤ R.slots) (kx : ∀ (E : String) (ce : Cell) (q9 : Addr) (H1 : Heap) (locs1 : List Loc), pE E → m_same H H1 → va_S A s.heap H1 locs1 → H1[q9]? = some ce → ce.vm = .none → s.vm.findClass E = some ce.cls → vx_W p l e R s m args below meth c H1 locs1 (cells + mc) (slots + ms) Q (F0 m pc ls rest) q9) (kk : ∀ (H1 : Heap) (locs1 : List Loc), post H1 → va_S A s.heap H1 locs1 → (∀ q : Nat, q < H.size → ¬ A1 q → H1[q]? = H[q]?) → W p l e R s m args below meth c H1 locs1 (cells + mc) (slots + ms) Q (F0 m (pc + 3) ls (rest))) : W p l e R s m args below meth c H locs cells slots Q (F0 m pc ls (st)) := by
  subst hav
  exact vx_callv (vx_runS (As := As) (rest := rest) S hM cw ⟨m_blind, fun U hU hW => ⟨rfl, hU, (hE.warm hS hU hW).narrow hsub⟩⟩ rfl hn hsize hst (lv_room hcat) hdg hf) hS (fun q _ h => hsub q h) (fun q h => hsub q h) (fun q _ h => hsub q h) (fun E ce q9 u t H1 locs1 ht hvm hp hB hz hk hS1 g1 g2 g3 => by
    have e : H1 = u := ht.symm.trans hB.1
    subst e
    exact kx E ce q9 H1 locs1 hB.2 hp hS1 g1 g2 g3) (fun u t H1 locs1 ht hvm hp hB hz hk hS1 => by
    have e : H1 = u := ht.symm.trans hB
    subst e
    exact kk H1 locs1 hp hS1 hk)
theorem m_cSq {Ts : List Cond} {own : String} {index maxL nL mc ms n : Nat} {y : MethodName} {bytes : ByteArray} {ret : Option FieldType} {ws2 : List Cond} {rm : Room} {As av st : List Value} {post : Option Nat → Heap → Prop} (S : CallFix p m c cc nL s args Ts own) (hE : ENV K A s) (hS : va_S A s.heap H locs) {A1 : Nat → Prop} (hsub : ∀ q, A1 q → A q) (hM : Met l y ws2 rm (m_Pc K A1 H av) (va_Qq post m_B A1) mc ms A1) (cw : CallB R s args own index y bytes maxL ret ws2 rm mc ms n ∧ (Cond.static y).before args s = true) (hav : As = av) (hn : As.length = n) (hsize : ls.size = nL) (hst : st = As.reverse ++ rest) (hcat : (rest.map fun v => v.category).sum ≤ 8) (hdg : decode cc pc = .ok (.invokestatic index, 3)) (hf : cells + mc ≤ R.cells ∧ slots + ms ≤ R.slots)  (kk : ∀ (r : Option Nat) (H1 : Heap) (locs1 : List Loc), post r H1 → va_S A s.heap H1 locs1 → (∀ q : Nat, q < H.size → ¬ A1 q → H1[q]? = H[q]?) → W p l e R s m args below meth c H1 locs1 (cells + mc) (slots + ms) Q (F0 m (pc + 3) ls (va_rf r :: rest))) : W p l e R s m args below meth c H locs cells slots Q (F0 m pc ls (st)) := by
  subst hav
  exact va_callq (va_runS (As := As) (rest := rest) S hM cw ⟨m_blind, fun U hU hW => ⟨rfl, hU, (hE.warm hS hU hW).narrow hsub⟩⟩ rfl hn hsize hst (lv_room hcat) hdg hf) hS (fun q _ h => hsub q h) (fun q h => hsub q h) (fun r u t H1 locs1 ht hvm hp hB hz hk hS1 => by
    have e : H1 = u := ht.symm.trans hB
    subst e
    exact kk r H1 locs1 hp hS1 hk)
theorem m_cIv {Ts : List Cond} {own : String} {b : Nat} {index maxL nL mc ms n : Nat} {y : MethodName} {bytes : ByteArray} {ws2 : List Cond} {rm : Room} {As av st : List Value} {post : Heap → Prop} (S : CallFix p m c cc nL s args Ts own) (hE : ENV K A s) (hS : va_S A s.heap H locs) {A1 : Nat → Prop} (hsub : ∀ q, A1 q → A q) (hM : Met l y ws2 rm (m_Pc K A1 H av) (va_Qv post m_B A1) mc ms A1) (cw : CallB R s args own index y bytes maxL none ws2 rm mc ms n ∧ y.name = "<init>" ∧ (Cond.instanceMethod y).before args s = true) (hav : av = .ref b :: As) (hn : As.length = n) (hsize : ls.size = nL) (hst : st = As.reverse ++ .ref b :: rest) (hcat : (rest.map fun v => v.category).sum ≤ 8) (hdg : decode cc pc = .ok (.invokespecial index, 3)) (hf : cells + mc ≤ R.cells ∧ slots + ms ≤ R.slots)  (kk : ∀ (H1 : Heap) (locs1 : List Loc), post H1 → va_S A s.heap H1 locs1 → (∀ q : Nat, q < H.size → ¬ A1 q → H1[q]? = H[q]?) → W p l e R s m args below meth c H1 locs1 (cells + mc) (slots + ms) Q (F0 m (pc + 3) ls (rest))) : W p l e R s m args below meth c H locs cells slots Q (F0 m pc ls (st)) := by
  subst hav
  exact va_callv (va_runI (As := As) (rest := rest) S hM cw ⟨m_blind, fun U hU hW => ⟨rfl, hU, (hE.warm hS hU hW).narrow hsub⟩⟩ rfl hn hsize hst (lv_room hcat) hdg hf) hS (fun q _ h => hsub q h) (fun q h => hsub q h) (fun u t H1 locs1 ht hvm hp hB hz hk hS1 => by
    have e : H1 = u := ht.symm.trans hB
    subst e
    exact kk H1 locs1 hp hS1 hk)
theorem m_cWi {Ts : List Cond} {own : String} {index maxL nL mc ms n : Nat} {y : MethodName} {bytes : ByteArray} {ret : Option FieldType} {ws2 : List Cond} {rm : Room} {As av st : List Value} {hh : List (Nat × Nat × Nat × Nat)} {post : Int32 → Heap → Prop} (S : CallFix p m c cc nL s args Ts own) (hE : ENV K A s) (hS : va_S A s.heap H locs) {A1 : Nat → Prop} (hsub : ∀ q, A1 q → A q) (hM : Met l y ws2 rm (m_Pc K A1 H av) (va_Qi post m_B A1) mc ms A1) (cw : vx_CSW R s args own index y bytes maxL ret hh ws2 rm mc ms n) (hav : As = av) (hn : As.length = n) (hsize : ls.size = nL) (hst : st = As.reverse ++ rest) (hcat : (rest.map fun v => v.category).sum ≤ 8) (hdg : decode cc pc = .ok (.invokestatic index, 3)) (hf : cells + mc ≤ R.cells ∧ slots + ms ≤ R.slots)  (kk : ∀ (r : Int32) (H1 : Heap) (locs1 : List Loc), post r H1 → va_S A s.heap H1 locs1 → (∀ q : Nat, q < H.size → ¬ A1 q → H1[q]? = H[q]?) → W p l e R s m args below meth c H1 locs1 (cells + mc) (slots + ms) Q (F0 m (pc + 3) ls (.int r :: rest))) : W p l e R s m args below meth c H locs cells slots Q (F0 m pc ls (st)) := by
  subst hav
  exact va_calli (vx_runSW (As := As) (rest := rest) S hM cw ⟨m_blind, fun U hU hW => ⟨rfl, hU, (hE.warm hS hU hW).narrow hsub⟩⟩ rfl hn hsize hst (lv_room hcat) hdg hf) hS (fun q _ h => hsub q h) (fun q h => hsub q h) (fun r u t H1 locs1 ht hvm hp hB hz hk hS1 => by
    have e : H1 = u := ht.symm.trans hB
    subst e
    exact kk r H1 locs1 hp hS1 hk)
/-- a static call over a stack of up to 16 words (the kit's rows have 8) -/
theorem m_runS9 {Ts : List Cond} {own : String} {index maxL nL mc ms n : Nat} {y : MethodName} {bytes : ByteArray} {ret : Option FieldType} {ws2 : List Cond} {rm : Room} {As : List Value} {Pc : Array Value → State → Prop} {Qc : Array Value → State → Outcome → State → Prop} {free : Addr → Prop} {g : JFrame} (S : CallFix p m c cc nL s args Ts own) (hM : Met l y ws2 rm Pc Qc mc ms free) (cw : CallB R s args own index y bytes maxL ret ws2 rm mc ms n ∧ (Cond.static y).before args s = true) (h16 : 16 + (maxL + 11) + rm.locals ≤ R.locals) (hp : PreS s H Pc As)
    (hg : g.method = m) (hn : As.length = n) (hsize : g.locals.size = nL) (hstack : g.stack = As.reverse ++ rest) (hW : 2 * g.monitorRoom + (rest.map fun v => v.category).sum ≤ 16) (hdg : decode cc g.pc = .ok (.invokestatic index, 3)) (hf : cells + mc ≤ R.cells ∧ slots + ms ≤ R.slots) :
    va_Run p l e R s m args below meth c H locs cells slots mc ms g rest (Qc As.toArray) free := by
  obtain ⟨⟨hrc, hrs, hfr, hlo, hws, hcw, hcode, hini, hy, hlen, hl⟩, hstt⟩ := cw
  have hK : Back l R p e below s args y 3 16 (PreOf R mc ms Pc) (PostOf Qc mc ms free) := back_of (bytes := bytes) (maxL := maxL) (ret := ret) hM hp.1 hrc hrs hfr h16 hws hcw (fun a' U hW => word_at hW (Or.inl (by first | rfl | simp [Cond.onTables, Cond.keeps, Cond.steady])) hini)
  obtain ⟨hx, hb, hml, ho, -⟩ := S
  intro T hT X
  obtain ⟨v, vm₁, ⟨U', l2, c2, s2⟩, hW₁, X', ⟨g', mk, t, L, e1, e2, hq, h1, hL, h2, h3⟩, st⟩ := callS X hx (bytes := bytes) (maxL := maxL) (ret := ret) ho hl hstt hini hcode hy hK hg (hsize.trans hml.symm) (argsL := As) (rest := rest) (fun sig h => hn.trans (hlen sig h)) hstack hW (by rw [hb]; exact hdg)
    (fun vm₁ hW₁ => ⟨hf.1, hf.2, hp.2 (T.setVm vm₁) hT hW₁⟩)
  dsimp only [Pt.U, Pt.locs, Pt.cells, Pt.slots] at X' e1 e2 h1 h2 h3 st
  subst h1; subst h2; subst h3
  exact ⟨v, (T.setVm vm₁).calling g' mk As.toArray, t, U', L, hT, X', hL, e1, e2, hq, st⟩
theorem m_cSi9 {Ts : List Cond} {own : String} {index maxL nL mc ms n : Nat} {y : MethodName} {bytes : ByteArray} {ret : Option FieldType} {ws2 : List Cond} {rm : Room} {As av st : List Value} {post : Int32 → Heap → Prop} (S : CallFix p m c cc nL s args Ts own) (hE : ENV K A s) (hS : va_S A s.heap H locs) {A1 : Nat → Prop} (hsub : ∀ q, A1 q → A q) (hM : Met l y ws2 rm (m_Pc K A1 H av) (va_Qi post m_B A1) mc ms A1) (cw : CallB R s args own index y bytes maxL ret ws2 rm mc ms n ∧ (Cond.static y).before args s = true) (h16 : 16 + (maxL + 11) + rm.locals ≤ R.locals) (hav : As = av) (hn : As.length = n) (hsize : ls.size = nL) (hst : st = As.reverse ++ rest) (hcat : (rest.map fun v => v.category).sum ≤ 16) (hdg : decode cc pc = .ok (.invokestatic index, 3)) (hf : cells + mc ≤ R.cells ∧ slots + ms ≤ R.slots)  (kk : ∀ (r : Int32) (H1 : Heap) (locs1 : List Loc), post r H1 → va_S A s.heap H1 locs1 → (∀ q : Nat, q < H.size → ¬ A1 q → H1[q]? = H[q]?) → W p l e R s m args below meth c H1 locs1 (cells + mc) (slots + ms) Q (F0 m (pc + 3) ls (.int r :: rest))) : W p l e R s m args below meth c H locs cells slots Q (F0 m pc ls (st)) := by
  subst hav
  exact va_calli (m_runS9 (As := As) (rest := rest) S hM cw h16 ⟨m_blind, fun U hU hW => ⟨rfl, hU, (hE.warm hS hU hW).narrow hsub⟩⟩ rfl hn hsize hst (by show 2 * 0 + _ ≤ 16; omega) hdg hf) hS (fun q _ h => hsub q h) (fun q h => hsub q h) (fun r u t H1 locs1 ht hvm hp hB hz hk hS1 => by
    have e : H1 = u := ht.symm.trans hB
    subst e
    exact kk r H1 locs1 hp hS1 hk)
theorem m_iret {post : Int32 → Heap → Prop} {mc ms : Nat} {v : Int32} (hx : p.tables.exec = Jvm.exec) (hb : c.code = cc) (hr : meth.sig.returnType = some .int) (hlk : meth.locks = false) (hS : va_S A s.heap H locs) (hc : cells ≤ mc) (hs : slots ≤ ms) (d : decode cc pc = .ok (.ireturn, 1)) (hp : post v H) : W p l e R s m args below meth c H locs cells slots (MQ below (va_Qi post m_B A) args s mc ms A) (F0 m pc ls [.int v]) := W.widen hc hs (W.iret hx hb hr (fun t ht _ => ⟨⟨v, H, rfl, hp, ht⟩, hS.F ht⟩) hS.2.2 d hlk)
theorem m_zret {post : Int32 → Heap → Prop} {mc ms : Nat} {b : Bool} (hx : p.tables.exec = Jvm.exec) (hb : c.code = cc) (hr : meth.sig.returnType = some .boolean) (hlk : meth.locks = false) (hS : va_S A s.heap H locs) (hc : cells ≤ mc) (hs : slots ≤ ms) (d : decode cc pc = .ok (.ireturn, 1)) (hp : post (bI b) H) : W p l e R s m args below meth c H locs cells slots (MQ below (va_Qi post m_B A) args s mc ms A) (F0 m pc ls [.int (bI b)]) := W.widen hc hs (W.zret hx hb hr (by cases b <;> rfl) (fun t ht _ => ⟨⟨bI b, H, rfl, hp, ht⟩, hS.F ht⟩) hS.2.2 d hlk)
theorem m_vret {post : Heap → Prop} {mc ms : Nat} (hx : p.tables.exec = Jvm.exec) (hb : c.code = cc) (hr : meth.sig.returnType = none) (hlk : meth.locks = false) (hS : va_S A s.heap H locs) (hc : cells ≤ mc) (hs : slots ≤ ms) (d : decode cc pc = .ok (.return_, 1)) (hp : post H) : W p l e R s m args below meth c H locs cells slots (MQ below (va_Qv post m_B A) args s mc ms A) (F0 m pc ls []) := W.widen hc hs (W.vret hx hb hr (fun t ht _ => ⟨⟨H, rfl, hp, ht⟩, hS.F ht⟩) hS.2.2 d hlk)
theorem m_qret {post : Option Nat → Heap → Prop} {mc ms : Nat} {r : Option Nat} {rt : FieldType} (hx : p.tables.exec = Jvm.exec) (hb : c.code = cc) (hr : meth.sig.returnType = some rt) (hrt : (∃ n, rt = .object n) ∨ ∃ t, rt = .array t) (hlk : meth.locks = false) (hS : va_S A s.heap H locs) (hc : cells ≤ mc) (hs : slots ≤ ms) (d : decode cc pc = .ok (.areturn, 1)) (hp : post r H) : W p l e R s m args below meth c H locs cells slots (MQ below (va_Qq post m_B A) args s mc ms A) (F0 m pc ls [va_rf r]) := W.widen hc hs (W.aret hx hb hr hrt (va_rf_or r) (fun t ht _ => ⟨⟨r, H, rfl, hp, ht⟩, hS.F ht⟩) hS.2.2 d hlk)
end MB
