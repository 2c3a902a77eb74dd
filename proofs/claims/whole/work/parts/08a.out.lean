/-! THE LAW'S OWN CELL out, THE CLASS'S STATE BESIDE IT, HANDLERS -/
abbrev outE (K : m_K) (w : Nat → Int64) : va_E := .inl (K.2.1 4, 1, .inr (.inl w))
def OUT (K : m_K) (out : Nat) (w : Nat → Int64) (H : Heap) : Prop := va_P K.1 vwCl [(out, outE K w)] H
theorem va_P.k1 {D : va_G} {cl : List vw_C} {x : Nat × va_E} {H H1 : Heap} (h : va_P D cl [x] H) (hk : H1[x.1]? = H[x.1]?) : va_P D cl [x] H1 := h.kept (fun k q hq => by
  have hz : k < 1 := (List.getElem?_eq_some_iff.mp hq).1
  rw [show k = 0 by omega] at hq
  cases hq
  exact hk)
theorem cOK.kept {K : m_K} {A : Nat → Prop} {H H1 : Heap} {o : Nat} {ad : Nat → Nat} {fb : Nat → Nat} {on fw : Nat → Int32} {dr : List Int32} {fm : Nat → Option Frm} {vs ch : Nat → Int32} {ps : List Pr} (h : cOK K A H o ad fb on fw dr fm vs ch ps) (hk : ∀ q : Nat, q < H.size → A q → H1[q]? = H[q]?) : cOK K A H1 o ad fb on fw dr fm vs ch ps := by
  obtain ⟨f, d, ft, li, T, hP, hD, hR⟩ := h
  exact ⟨f, d, ft, li, T, hP.kept (fun k q hq => hk q.1 ((hP k q hq).lt) (hD.2 k q hq)), hD, hR⟩
theorem mOK.kept {K : m_K} {A : Nat → Prop} {H H1 : Heap} {o : Nat} {ad : Nat → Nat} {fb : Nat → Nat} {on fw : Nat → Int32} {dr : List Int32} {fm : Nat → Option Frm} {vs ch : Nat → Int32} {ps : List Pr} {la : Int32} (h : mOK K A H o ad fb on fw dr fm vs ch ps la) (hk : ∀ q : Nat, q < H.size → A q → H1[q]? = H[q]?) : mOK K A H1 o ad fb on fw dr fm vs ch ps la := by
  obtain ⟨f, d, pr, ta, ti, hP, hD, hR⟩ := h
  exact ⟨f, d, pr, ta, ti, hP.kept (fun k q hq => hk q.1 ((hP k q hq).lt) (hD.2 k q hq)), hD, hR⟩
theorem cOK.narrow {K : m_K} {A B : Nat → Prop} {H : Heap} {o : Nat} {ad : Nat → Nat} {fb : Nat → Nat} {on fw : Nat → Int32} {dr : List Int32} {fm : Nat → Option Frm} {vs ch : Nat → Int32} {ps : List Pr} (h : cOK K A H o ad fb on fw dr fm vs ch ps) (hB : ∀ q : Nat, q < H.size → A q → B q) : cOK K B H o ad fb on fw dr fm vs ch ps := by
  obtain ⟨f, d, ft, li, T, hP, hD, hR⟩ := h
  exact ⟨f, d, ft, li, T, hP, hD.weaken (fun k q hq hA => hB q.1 ((hP k q hq).lt) hA), hR⟩
theorem mOK.narrow {K : m_K} {A B : Nat → Prop} {H : Heap} {o : Nat} {ad : Nat → Nat} {fb : Nat → Nat} {on fw : Nat → Int32} {dr : List Int32} {fm : Nat → Option Frm} {vs ch : Nat → Int32} {ps : List Pr} {la : Int32} (h : mOK K A H o ad fb on fw dr fm vs ch ps la) (hB : ∀ q : Nat, q < H.size → A q → B q) : mOK K B H o ad fb on fw dr fm vs ch ps la := by
  obtain ⟨f, d, pr, ta, ti, hP, hD, hR⟩ := h
  exact ⟨f, d, pr, ta, ti, hP, hD.weaken (fun k q hq hA => hB q.1 ((hP k q hq).lt) hA), hR⟩
theorem cOK.fb6 {K : m_K} {A : Nat → Prop} {H : Heap} {o : Nat} {ad : Nat → Nat} {fb : Nat → Nat} {on fw : Nat → Int32} {dr : List Int32} {fm : Nat → Option Frm} {vs ch : Nat → Int32} {ps : List Pr} (h : cOK K A H o ad fb on fw dr fm vs ch ps) : ∀ l, l < 6 → fb l < 6 := by
  obtain ⟨f, d, ft, li, T, hP, hD, hR⟩ := h
  exact fun l hl => (hR.1 l hl).2
/-- two answers of one kind -/
theorem r3_two {P1 P2 S S0 S' S0' : Prop} {k k' : Int32} (h : R3 P1 P2 k S S0) (h' : R3 P1 P2 k' S' S0') : k = k' ∧ ((k = nI 0 ∧ S ∧ S') ∨ (¬ k = nI 0 ∧ S0 ∧ S0')) := by
  rcases h with ⟨rfl, a, b, s⟩ | ⟨rfl, a, s⟩ | ⟨rfl, a, b, s⟩ <;> rcases h' with ⟨rfl, a', b', s'⟩ | ⟨rfl, a', s'⟩ | ⟨rfl, a', b', s'⟩
  · exact ⟨rfl, Or.inl ⟨rfl, s, s'⟩⟩
  · exact absurd a a'
  · exact absurd b b'
  · exact absurd a' a
  · exact ⟨rfl, Or.inr ⟨by decide, s, s'⟩⟩
  · exact absurd a' a
  · exact absurd b' b
  · exact absurd a a'
  · exact ⟨rfl, Or.inr ⟨by decide, s, s'⟩⟩
section MO
variable {p : Program} {l : Launch} {e : Env} {R : Room} {s : State} {m : MethodId} {args : Array Value} {below : List Frame} {meth : Method} {c : Code} {H : Heap} {locs : List Loc} {cells slots : Nat} {Q : State → Prop}
variable {cc : ByteArray} {pc : Nat} {ls : Array Slot} {rest : List Value} {K : m_K} {A : Nat → Prop} {ws : va_W} {H0 : Heap}
theorem m_lcmp0 (hx : p.tables.exec = Jvm.exec) (hb : c.code = cc) {x : Int64} (d : decode cc pc = .ok (.lcmp, 1)) (k : W p l e R s m args below meth c H locs cells slots Q (F0 m (pc + 1) ls (.int 0 :: rest))) : W p l e R s m args below meth c H locs cells slots Q (F0 m pc ls (.long x :: .long x :: rest)) := by
  intro T hT X
  obtain ⟨t, a, b⟩ := k T hT X
  refine ⟨t, ?_, b⟩
  jvm_step X.here [X.here.top, hx, hb, d]
  exact a
/-- the law's cell is written, the class's cells stay -/
theorem m_last1 (hx : p.tables.exec = Jvm.exec) (hb : c.code = cc) (hK : va_K K.1 vwCl (m_ty K) s) {Ac : Nat → Prop} {out : Nat} {w : Nat → Int64} (hP : va_P K.1 vwCl ws H) (hD : va_D Ac ws) (ho : OUT K out w H) (hAo : A out) (hno : ¬ Ac out) (hsub : ∀ q, Ac q → A q) (hS : va_S A H0 H locs) {x : Int64} (d : decode cc pc = .ok (.lastore, 1))
    (kk : ∀ (H1 : Heap) (locs1 : List Loc) (w1 : Nat → Int64), w1 0 = x → va_P K.1 vwCl ws H1 → OUT K out w1 H1 → va_S A H0 H1 locs1 → W p l e R s m args below meth c H1 locs1 cells slots Q (F0 m (pc + 1) ls rest)) : W p l e R s m args below meth c H locs cells slots Q (F0 m pc ls (.long x :: .int (nI 0) :: .ref out :: rest)) := by
  have hD2 : va_D A (ws ++ [(out, outE K w)]) := (hD.weaken (fun k q hq h => hsub _ h)).app ⟨fun i j p q hi hj _ => by
    have h1 := (List.getElem?_eq_some_iff.mp hi).1
    have h2 := (List.getElem?_eq_some_iff.mp hj).1
    simp at h1 h2
    omega, fun k q hk => by
    have h1 := (List.getElem?_eq_some_iff.mp hk).1
    rw [show k = 0 by simp at h1; omega] at hk
    cases hk
    exact hAo⟩ (fun i j p q hi hj e => by
    have h1 := (List.getElem?_eq_some_iff.mp hj).1
    rw [show j = 0 by simp at h1; omega] at hj
    cases hj
    exact hno (by have := hD.2 i p hi; rw [e] at this; exact this))
  refine va_last (ws := ws ++ [(out, outE K w)]) hx hb hK (hP.app ho) hD2 hS ws.length 4 m_apr rfl (show vp_in (nI 0) 1 from vp_in_nI (by decide) (by decide)) d (fun H1 locs1 hP1 hD1 hS1 => ?_)
  have e9 : (ws ++ [(out, outE K w)]).set ws.length (out, outE K (vp_updL w (nI 0).toNatClampNeg x)) = ws ++ [(out, outE K (vp_updL w (nI 0).toNatClampNeg x))] := m_setr
  rw [e9] at hP1
  refine kk H1 locs1 (vp_updL w (nI 0).toNatClampNeg x) rfl (fun k q hk => hP1 k q (m_apl hk)) (fun k q hk => ?_) hS1
  have hz : k < 1 := (List.getElem?_eq_some_iff.mp hk).1
  rw [show k = 0 by omega] at hk
  cases hk
  exact hP1 ws.length _ m_apr
/-- caught by the first row of the table -/
theorem m_catch1 (hE : ENV K A s) (hown : s.vm.findClass RL = some m.cls) {E : String} {ce : Cell} {q9 : Nat} {b0 e0 h0 t0 : Nat} {suf : List ExceptionTableEntry} (htab : c.exceptionTable.toList = ⟨b0, e0, h0, t0⟩ :: suf) (hc : covers ⟨b0, e0, h0, t0⟩ pc = true) (ht : t0 ≠ 0) (hl : (Cond.classLink RL t0 E).before args s = true) (hm : (E, E) ∈ m_cas) (h1 : H[q9]? = some ce) (h2 : ce.vm = .none) (h3 : s.vm.findClass E = some ce.cls)
    (kk : W p l e R s m args below meth c H locs cells slots Q (F0 m h0 ls [.ref q9])) : vx_W p l e R s m args below meth c H locs cells slots Q (F0 m pc ls rest) q9 :=
  vx_catch (own := RL) (name := E) (E := E) hown [] ⟨b0, e0, h0, t0⟩ suf htab (fun z hz => by cases hz) hc ht hl (va_Nw.use rfl (hE.2.2.2.2.2.1 (E, E) hm)) h1 h2 h3 kk
/-- caught by the second row -/
theorem m_catch2 (hE : ENV K A s) (hown : s.vm.findClass RL = some m.cls) {E N : String} {ce : Cell} {q9 : Nat} {b0 e0 h0 t0 b1 e1 h9 t1 : Nat} {suf : List ExceptionTableEntry} (htab : c.exceptionTable.toList = ⟨b0, e0, h0, t0⟩ :: ⟨b1, e1, h9, t1⟩ :: suf) (hc : covers ⟨b1, e1, h9, t1⟩ pc = true) (ht0 : t0 ≠ 0) (ht : t1 ≠ 0) (hl0 : (Cond.classLink RL t0 N).before args s = true) (hl : (Cond.classLink RL t1 E).before args s = true) (hn : (E, N) ∈ m_nca) (hm : (E, E) ∈ m_cas) (h1 : H[q9]? = some ce) (h2 : ce.vm = .none) (h3 : s.vm.findClass E = some ce.cls)
    (kk : W p l e R s m args below meth c H locs cells slots Q (F0 m h9 ls [.ref q9])) : vx_W p l e R s m args below meth c H locs cells slots Q (F0 m pc ls rest) q9 :=
  vx_catch (own := RL) (name := E) (E := E) hown [⟨b0, e0, h0, t0⟩] ⟨b1, e1, h9, t1⟩ suf htab (fun z hz => by
    have e : z = ⟨b0, e0, h0, t0⟩ := by simpa using hz
    subst e
    exact Or.inr ⟨ht0, N, hl0, hE.2.2.2.2.2.2.1 (E, N) hn⟩) hc ht hl (va_Nw.use rfl (hE.2.2.2.2.2.1 (E, E) hm)) h1 h2 h3 kk
end MO
