/-! THE LAW: its calls of the class; its arrays beside the class -/
theorem cOK.kept {K : m_K} {A : Nat → Prop} {H H1 : Heap} {o : Nat} {ad : Nat → Nat} {fb : Nat → Nat} {on fw : Nat → Int32} {dr : List Int32} {fm : Nat → Option Frm} {vs ch : Nat → Int32} {ps : List Pr} (h : cOK K A H o ad fb on fw dr fm vs ch ps) (hk : ∀ q : Nat, q < H.size → A q → H1[q]? = H[q]?) : cOK K A H1 o ad fb on fw dr fm vs ch ps := by
  obtain ⟨f, d, ft, li, T, hP, hD, hR⟩ := h
  exact ⟨f, d, ft, li, T, hP.kept (fun k q hq => hk q.1 ((hP k q hq).lt) (hD.2 k q hq)), hD, hR⟩
theorem cOK.same {K : m_K} {A : Nat → Prop} {H H1 : Heap} {o : Nat} {ad : Nat → Nat} {fb : Nat → Nat} {on fw : Nat → Int32} {dr : List Int32} {fm : Nat → Option Frm} {vs ch : Nat → Int32} {ps : List Pr} (h : cOK K A H o ad fb on fw dr fm vs ch ps) (hk : m_same H H1) : cOK K A H1 o ad fb on fw dr fm vs ch ps := h.kept (fun q hq _ => hk.2 q hq)
theorem cOK.narrow {K : m_K} {A B : Nat → Prop} {H : Heap} {o : Nat} {ad : Nat → Nat} {fb : Nat → Nat} {on fw : Nat → Int32} {dr : List Int32} {fm : Nat → Option Frm} {vs ch : Nat → Int32} {ps : List Pr} (h : cOK K A H o ad fb on fw dr fm vs ch ps) (hB : ∀ q : Nat, q < H.size → A q → B q) : cOK K B H o ad fb on fw dr fm vs ch ps := by
  obtain ⟨f, d, ft, li, T, hP, hD, hR⟩ := h
  exact ⟨f, d, ft, li, T, hP, hD.weaken (fun k q hq hA => hB q.1 ((hP k q hq).lt) hA), hR⟩
theorem cOK.fb6 {K : m_K} {A : Nat → Prop} {H : Heap} {o : Nat} {ad : Nat → Nat} {fb : Nat → Nat} {on fw : Nat → Int32} {dr : List Int32} {fm : Nat → Option Frm} {vs ch : Nat → Int32} {ps : List Pr} (h : cOK K A H o ad fb on fw dr fm vs ch ps) : ∀ l, l < 6 → fb l < 6 := by
  obtain ⟨f, d, ft, li, T, hP, hD, hR⟩ := h
  exact fun l hl => (hR.1 l hl).2
theorem P_l {D : va_G} {cl : List vw_C} {a z : va_W} {H : Heap} (h : va_P D cl (a ++ z) H) : va_P D cl a H := fun k q hk => h k q (by rw [List.getElem?_append_left (List.getElem?_eq_some_iff.mp hk).1]; exact hk)
theorem P_r {D : va_G} {cl : List vw_C} {a z : va_W} {H : Heap} (h : va_P D cl (a ++ z) H) : va_P D cl z H := fun k q hk => h (a.length + k) q (by rw [List.getElem?_append_right (Nat.le_add_right _ _), Nat.add_sub_cancel_left]; exact hk)
theorem D_l {A : Nat → Prop} {a z : va_W} (h : va_D A (a ++ z)) : va_D A a := ⟨fun i j p q hi hj e => h.1 i j p q (by rw [List.getElem?_append_left (List.getElem?_eq_some_iff.mp hi).1]; exact hi) (by rw [List.getElem?_append_left (List.getElem?_eq_some_iff.mp hj).1]; exact hj) e, fun k q hk => h.2 k q (by rw [List.getElem?_append_left (List.getElem?_eq_some_iff.mp hk).1]; exact hk)⟩
theorem lW_at {K : m_K} {b : Nat → Nat} {g : Nat → Nat → Int32} {i : Nat} {p : Nat × va_E} (h : (lW K b g)[i]? = some p) : i < 6 ∧ p.1 = b i := by
  match i, h with
  | 0, h => cases h; exact ⟨by decide, rfl⟩
  | 1, h => cases h; exact ⟨by decide, rfl⟩
  | 2, h => cases h; exact ⟨by decide, rfl⟩
  | 3, h => cases h; exact ⟨by decide, rfl⟩
  | 4, h => cases h; exact ⟨by decide, rfl⟩
  | 5, h => cases h; exact ⟨by decide, rfl⟩
  | i + 6, h => simp [lW] at h
theorem lW_in {K : m_K} {b : Nat → Nat} {g : Nat → Nat → Int32} {i : Nat} (h : i < 6) : ∃ p, (lW K b g)[i]? = some p := by
  rcases (show i = 0 ∨ i = 1 ∨ i = 2 ∨ i = 3 ∨ i = 4 ∨ i = 5 by omega) with rfl | rfl | rfl | rfl | rfl | rfl <;> exact ⟨_, rfl⟩
theorem lW_D {K : m_K} {A : Nat → Prop} {b : Nat → Nat} {g g1 : Nat → Nat → Int32} (h : va_D A (lW K b g)) : va_D A (lW K b g1) := ⟨fun i j p q hi hj e => by
  obtain ⟨i1, i2⟩ := lW_at hi
  obtain ⟨j1, j2⟩ := lW_at hj
  obtain ⟨p1, hp1⟩ := lW_in (K := K) (b := b) (g := g) i1
  obtain ⟨q1, hq1⟩ := lW_in (K := K) (b := b) (g := g) j1
  exact h.1 i j p1 q1 hp1 hq1 (by rw [(lW_at hp1).2, (lW_at hq1).2, ← i2, ← j2, e]), fun i p hi => by
  obtain ⟨i1, i2⟩ := lW_at hi
  obtain ⟨p1, hp1⟩ := lW_in (K := K) (b := b) (g := g) i1
  rw [i2, ← (lW_at hp1).2]
  exact h.2 i p1 hp1⟩
theorem lW_A {K : m_K} {A : Nat → Prop} {b : Nat → Nat} {g : Nat → Nat → Int32} (h : va_D A (lW K b g)) {i : Nat} (hi : i < 6) : A (b i) := by
  obtain ⟨p1, hp1⟩ := lW_in (K := K) (b := b) (g := g) hi
  rw [← (lW_at hp1).2]
  exact h.2 i p1 hp1
theorem lW_lt {K : m_K} {H : Heap} {b : Nat → Nat} {g : Nat → Nat → Int32} (h : va_P K.1 vwCl (lW K b g) H) {i : Nat} (hi : i < 6) : b i < H.size := by
  obtain ⟨p1, hp1⟩ := lW_in (K := K) (b := b) (g := g) hi
  rw [← (lW_at hp1).2]
  exact (h i p1 hp1).lt
theorem lW_kept {K : m_K} {H H1 : Heap} {b : Nat → Nat} {g : Nat → Nat → Int32} (h : va_P K.1 vwCl (lW K b g) H) (hk : ∀ i, i < 6 → H1[b i]? = H[b i]?) : va_P K.1 vwCl (lW K b g) H1 := h.kept (fun i p hi => by
  obtain ⟨i1, i2⟩ := lW_at hi
  rw [i2]
  exact hk i i1)
section LO
variable {p : Program} {l : Launch} {e : Env} {R : Room} {s : State} {m : MethodId} {args : Array Value} {below : List Frame} {meth : Method} {c : Code} {H : Heap} {locs : List Loc} {cells slots : Nat} {Q : State → Prop}
variable {cc : ByteArray} {pc : Nat} {ls : Array Slot} {rest : List Value} {K : m_K} {A : Nat → Prop} {H0 : Heap}
/-- one of the law's arrays is written, the class's cells stay -/
theorem m_ist6 (hx : p.tables.exec = Jvm.exec) (hb : c.code = cc) (hK : va_K K.1 vwCl (m_ty K) s) {Ac : Nat → Prop} {b : Nat → Nat} {g g1 : Nat → Nat → Int32} {i n k : Nat} {f : Nat → Int32} {x : Int32} {o : Nat} {ad : Nat → Nat} {fb : Nat → Nat} {on fw : Nat → Int32} {dr : List Int32} {fm : Nat → Option Frm} {vs ch : Nat → Int32} {ps : List Pr} (hP : va_P K.1 vwCl (lW K b g) H) (hD : va_D A (lW K b g)) (hc : cOK K Ac H o ad fb on fw dr fm vs ch ps) (hno : ∀ i, i < 6 → ¬ Ac (b i)) (hsub : ∀ q, Ac q → A q) (hS : va_S A H0 H locs)
    (hq : ∀ T : va_W, (lW K b g ++ T)[i]? = some (b i, .inl (K.2.1 0, n, .inl f))) (hset : ∀ T : va_W, (lW K b g ++ T).set i (b i, .inl (K.2.1 0, n, .inl (upd f k x))) = lW K b g1 ++ T) (hk : k < n) (hn : n < 2147483648) (d : decode cc pc = .ok (.iastore, 1))
    (kk : ∀ (H1 : Heap) (locs1 : List Loc), va_P K.1 vwCl (lW K b g1) H1 → va_D A (lW K b g1) → cOK K Ac H1 o ad fb on fw dr fm vs ch ps → va_S A H0 H1 locs1 → W p l e R s m args below meth c H1 locs1 cells slots Q (F0 m (pc + 1) ls rest)) : W p l e R s m args below meth c H locs cells slots Q (F0 m pc ls (.int x :: .int (nI k) :: .ref (b i) :: rest)) := by
  obtain ⟨f0, d0, ft, li, T, hPc, hDc, hR⟩ := hc
  have hD2 : va_D A (lW K b g ++ cW K o ad f0 d0 ft li T) := hD.app (hDc.weaken (fun k q hq h => hsub _ h)) (fun i j p q hi hj e => by
    obtain ⟨i1, i2⟩ := lW_at hi
    refine hno i i1 ?_
    rw [← i2, e]
    exact hDc.2 j q hj)
  refine m_iast hx hb hK (hP.app hPc) hD2 hS i (hq _) hk hn d (fun H1 locs1 hP1 hD1 hS1 => ?_)
  rw [hset] at hP1 hD1
  exact kk H1 locs1 (P_l hP1) (D_l hD1) ⟨f0, d0, ft, li, T, P_r hP1, hDc, hR⟩ hS1
/-- caught by the first row of the table -/
theorem m_catch1 (hE : ENV K A s) (hown : s.vm.findClass RL = some m.cls) {E : String} {ce : Cell} {q9 : Nat} {b0 e0 h0 t0 : Nat} {suf : List ExceptionTableEntry} (htab : c.exceptionTable.toList = ⟨b0, e0, h0, t0⟩ :: suf) (hc : covers ⟨b0, e0, h0, t0⟩ pc = true) (ht : t0 ≠ 0) (hl : (Cond.classLink RL t0 E).before args s = true) (hm : (E, E) ∈ m_cas) (h1 : H[q9]? = some ce) (h2 : ce.vm = .none) (h3 : s.vm.findClass E = some ce.cls)
    (kk : W p l e R s m args below meth c H locs cells slots Q (F0 m h0 ls [.ref q9])) : vx_W p l e R s m args below meth c H locs cells slots Q (F0 m pc ls rest) q9 :=
  vx_catch (own := RL) (name := E) (E := E) hown [] ⟨b0, e0, h0, t0⟩ suf htab (fun z hz => by cases hz) hc ht hl (va_Nw.use rfl (hE.2.2.2.2.2.1 (E, E) hm)) h1 h2 h3 kk
end LO
theorem okN_max {x : Nat} (h : x < 2147483648) : okN (nI x) 2147483648 := ⟨by rw [nI_toInt h]; omega, by rw [nI_toInt h]; omega⟩
theorem isWd_nI {n : Nat} (h1 : 1 ≤ n) (h2 : n ≤ 99) : isWd (nI n) = true := decide_eq_true ⟨(nI_leI (by decide) (by omega)).mpr h1, (nI_leI (by omega) (by decide)).mpr h2⟩
theorem isPh_nI {n : Nat} (h1 : 101 ≤ n) (h2 : n ≤ 104) : isPh (nI n) = true := decide_eq_true ⟨(nI_leI (by decide) (by omega)).mpr h1, (nI_leI (by omega) (by decide)).mpr h2⟩
theorem okF_nI {k l j : Nat} (hk : k < 10) (hl : l < 6) (hj : j < 9) : okF (nI k) (nI l) (nI (j / 3)) (nI (j % 3)) := ⟨okN_nI hk (by decide), okN_nI hl (by decide), okN_nI (by omega) (by decide), okN_nI (by omega) (by decide)⟩

set_option maxHeartbeats 4000000 in
set_option maxRecDepth 100000 in
theorem kL_signTold (l : Launch) (K : m_K) (A : Nat → Prop) (H0 : Heap) (hl0 : l.stackTraces = false) (o : Nat) (ad : Nat → Nat) (fb : Nat → Nat) (on fw : Nat → Int32) (dr : List Int32) (fm : Nat → Option Frm) (vs ch : Nat → Int32) (ps : List Pr) (hc9 : cOK K A H0 o ad fb on fw dr fm vs ch ps) (k g x u v : Nat) (hk9 : k < 10) (hg9 : g < 6) (hx8 : x < 2147483648) (hu9 : u < 3) (hv9 : v < 2147483648) : Met l yL_signTold wsL_signTold ({ frames := 9, cells := 6, slots := 36, locals := 199 } : Room) (m_Pc K A H0 [.ref o, .int (nI k), .int (nI g), .int (nI x), .int (nI u), .int (nI v)]) (va_Qi (fun r H1 => r = (signS fm (tellS fb on fw fm k g (nI x) u) (nI v)).getD (-5) ∧ m_same H0 H1) m_B A) 6 36 A := by
  refine m_ofH (hh := [(0, 11, 12, 40)]) (by decide) rfl (Nat.le_of_ble_eq_true rfl) ?_
  intro p e s m args below meth c ls hx hb hr hml hown hts hlk htab hE hsz hS hl
  have hl : lv_has ls 7 [(0, .ref o), (1, .int (nI k)), (2, .int (nI g)), (3, .int (nI x)), (4, .int (nI u)), (5, .int (nI v))] := hl
  obtain ⟨f9, d9, ft9, li9, T9, hP9, hD9, hR9⟩ := id hc9
  refine lv_aload_n hx hb dL_signTold_0 rfl (lv_at hl 0 rfl) ?_
  refine lv_iload_n hx hb dL_signTold_1 rfl (lv_at hl 1 rfl) ?_
  refine lv_iload_n hx hb dL_signTold_2 rfl (lv_at hl 2 rfl) ?_
  refine lv_iload_n hx hb dL_signTold_3 rfl (lv_at hl 3 rfl) ?_
  refine lv_iload hx hb dL_signTold_4 (lv_at hl 4 rfl) ?_
  refine lv_iload hx hb dL_signTold_6 (lv_at hl 5 rfl) ?_
  refine m_xVi (rest := []) ⟨hx, hb, hml, hown, hts⟩ hE hS (fun _ h => h) (kX2_toldSign l hl0 K A H0 o ad fb on fw dr fm vs ch ps hc9 (nI k) (nI g) (nI x) (nI u) (nI v)) (cwV 5 hts gL_signTold_X2_toldSign rfl rfl rfl (by decide +kernel) ⟨Nat.le_of_ble_eq_true rfl, Nat.le_of_ble_eq_true rfl⟩) (va_recv hE.k hP9 (ci := 3) (q0 := 0) rfl rfl) rfl rfl hl.1 rfl (Nat.le_of_ble_eq_true rfl) dL_signTold_8 ⟨Nat.le_of_ble_eq_true rfl, Nat.le_of_ble_eq_true rfl⟩ (fun E ce q9 H1 locs1 hx9 hs9 hS9 g1 g2 g3 => ?_) (fun r H1 locs hp hS hk => ?_)
  · rcases hx9 with ⟨rfl, h4⟩ | ⟨rfl, -, h4⟩ | ⟨rfl, -, -, h5⟩
    · exact absurd (show okQ (nI k) (nI g) (nI u) from ⟨okN_nI (by omega) (by decide), okN_nI (by omega) (by decide), okN_nI (by omega) (by decide)⟩) h4
    · exact absurd (okN_max hx8) h4
    · refine m_catch1 (b0 := 0) (e0 := 11) (h0 := 12) (t0 := 40) hE hown htab rfl (by decide) (hts (.classLink RL 40 m_IO) (by decide +kernel)) (by simp [m_cas]) g1 g2 g3 ?_
      have hS := hS9
      rw [tN_nI (show k < 2147483648 by omega), tN_nI (show g < 2147483648 by omega), tN_nI (show u < 2147483648 by omega)] at h5
      refine lv_astore (lv' := [(6, .ref q9), (0, .ref o), (1, .int (nI k)), (2, .int (nI g)), (3, .int (nI x)), (4, .int (nI u)), (5, .int (nI v))]) hx hb dL_signTold_12 hl (by decide) rfl (fun ls hl => ?_)
      refine lv_bipush (v := (-5)) hx hb dL_signTold_14 (by decide) ?_
      exact m_iret hx hb hr hlk hS (Nat.le_of_ble_eq_true rfl) (Nat.le_of_ble_eq_true rfl) dL_signTold_16 (⟨by rw [h5]; rfl, hs9⟩)
  rw [tN_nI (show k < 2147483648 by omega), tN_nI (show g < 2147483648 by omega), tN_nI (show u < 2147483648 by omega)] at hp
  obtain ⟨-, h5, rfl⟩ := hp
  exact m_iret hx hb hr hlk hS (Nat.le_of_ble_eq_true rfl) (Nat.le_of_ble_eq_true rfl) dL_signTold_11 (⟨by rw [h5]; rfl, m_same.rf⟩)

set_option maxHeartbeats 4000000 in
set_option maxRecDepth 100000 in
theorem kL_removed (l : Launch) (K : m_K) (A : Nat → Prop) (H0 : Heap) (hl0 : l.stackTraces = false) (o : Nat) (ad : Nat → Nat) (fb : Nat → Nat) (on fw : Nat → Int32) (dr : List Int32) (fm : Nat → Option Frm) (vs ch : Nat → Int32) (ps : List Pr) (hc9 : cOK K A H0 o ad fb on fw dr fm vs ch ps) (hA : ∀ q, H0.size ≤ q → A q) (k g j : Nat) (hk9 : k < 10) (hg9 : g < 6) (hj9 : j < 9) : Met l yL_removed wsL_removed ({ frames := 11, cells := 16, slots := 170, locals := 269 } : Room) (m_Pc K A H0 [.ref o, .int (nI k), .int (nI g), .int (nI (j / 3)), .int (nI (j % 3))]) (va_Qi (fun r H1 => (¬ fm (54 * k + 9 * g + j) = none ∧ r = nI (lenF (fm (54 * k + 9 * g + j))) ∧ cOK K A H1 o ad fb on fw dr (va_up fm (54 * k + 9 * g + j) none) (vsC vs k g) (chC ch vs k g) (psC fm ps k g j)) ∨ (fm (54 * k + 9 * g + j) = none ∧ r = -5 ∧ cOK K A H1 o ad fb on fw dr fm vs ch ps)) m_B A) 16 170 A := by
  refine m_ofH (hh := [(0, 9, 10, 46)]) (by decide) rfl (Nat.le_of_ble_eq_true rfl) ?_
  intro p e s m args below meth c ls hx hb hr hml hown hts hlk htab hE hsz hS hl
  have hl : lv_has ls 6 [(0, .ref o), (1, .int (nI k)), (2, .int (nI g)), (3, .int (nI (j / 3))), (4, .int (nI (j % 3)))] := hl
  obtain ⟨f9, d9, ft9, li9, T9, hP9, hD9, hR9⟩ := id hc9
  refine lv_aload_n hx hb dL_removed_0 rfl (lv_at hl 0 rfl) ?_
  refine lv_iload_n hx hb dL_removed_1 rfl (lv_at hl 1 rfl) ?_
  refine lv_iload_n hx hb dL_removed_2 rfl (lv_at hl 2 rfl) ?_
  refine lv_iload_n hx hb dL_removed_3 rfl (lv_at hl 3 rfl) ?_
  refine lv_iload hx hb dL_removed_4 (lv_at hl 4 rfl) ?_
  refine m_xVi (rest := []) ⟨hx, hb, hml, hown, hts⟩ hE hS (fun _ h => h) (kX2_remove l hl0 K A H0 o ad fb on fw dr fm vs ch ps hc9 hA (nI k) (nI g) (nI (j / 3)) (nI (j % 3))) (cwV 4 hts gL_removed_X2_remove rfl rfl rfl (by decide +kernel) ⟨Nat.le_of_ble_eq_true rfl, Nat.le_of_ble_eq_true rfl⟩) (va_recv hE.k hP9 (ci := 3) (q0 := 0) rfl rfl) rfl rfl hl.1 rfl (Nat.le_of_ble_eq_true rfl) dL_removed_6 ⟨Nat.le_of_ble_eq_true rfl, Nat.le_of_ble_eq_true rfl⟩ (fun E ce q9 H1 locs1 hx9 hs9 hS9 g1 g2 g3 => ?_) (fun r H1 locs hp hS hk => ?_)
  · rcases hx9 with ⟨rfl, h4⟩ | ⟨rfl, -, h5⟩
    · exact absurd (okF_nI hk9 hg9 hj9) h4
    · refine m_catch1 (b0 := 0) (e0 := 9) (h0 := 10) (t0 := 46) hE hown htab rfl (by decide) (hts (.classLink RL 46 m_IS) (by decide +kernel)) (by simp [m_cas]) g1 g2 g3 ?_
      have hS := hS9
      rw [tN_nI (show k < 2147483648 by omega), tN_nI (show g < 2147483648 by omega), tN_nI (show j / 3 < 2147483648 by omega), tN_nI (show j % 3 < 2147483648 by omega), show 54 * k + 9 * g + 3 * (j / 3) + j % 3 = 54 * k + 9 * g + j by omega] at h5
      refine lv_astore (lv' := [(5, .ref q9), (0, .ref o), (1, .int (nI k)), (2, .int (nI g)), (3, .int (nI (j / 3))), (4, .int (nI (j % 3)))]) hx hb dL_removed_10 hl (by decide) rfl (fun ls hl => ?_)
      refine lv_bipush (v := (-5)) hx hb dL_removed_12 (by decide) ?_
      exact m_iret hx hb hr hlk hS (Nat.le_of_ble_eq_true rfl) (Nat.le_of_ble_eq_true rfl) dL_removed_14 (Or.inr ⟨h5, rfl, (hc9.same hs9)⟩)
  rw [tN_nI (show k < 2147483648 by omega), tN_nI (show g < 2147483648 by omega), tN_nI (show j / 3 < 2147483648 by omega), tN_nI (show j % 3 < 2147483648 by omega), show 54 * k + 9 * g + 3 * (j / 3) + j % 3 = 54 * k + 9 * g + j by omega, show 3 * (j / 3) + j % 3 = j by omega] at hp
  obtain ⟨-, h4, h5, hc⟩ := hp
  exact m_iret hx hb hr hlk hS (Nat.le_of_ble_eq_true rfl) (Nat.le_of_ble_eq_true rfl) dL_removed_9 (Or.inl ⟨h4, h5, hc⟩)

set_option maxHeartbeats 4000000 in
set_option maxRecDepth 100000 in
theorem kL_fallen (l : Launch) (K : m_K) (A : Nat → Prop) (H0 : Heap) (hl0 : l.stackTraces = false) (o : Nat) (ad : Nat → Nat) (fb : Nat → Nat) (on fw : Nat → Int32) (dr : List Int32) (fm : Nat → Option Frm) (vs ch : Nat → Int32) (ps : List Pr) (hc9 : cOK K A H0 o ad fb on fw dr fm vs ch ps) (hA : ∀ q, H0.size ≤ q → A q) (x y : Nat) (hx8 : x < 6) (hx0 : ¬ x = 0) (hy9 : y < 6) : Met l yL_fallen wsL_fallen ({ frames := 8, cells := 4, slots := 24, locals := 127 } : Room) (m_Pc K A H0 [.ref o, .int (nI x), .int (nI y)]) (va_Qi (fun r H1 => (chP fb x 6 y 0 = none ∧ r = nI (fb x) ∧ cOK K A H1 o ad (va_up fb x y) on fw dr fm vs ch ps) ∨ (¬ chP fb x 6 y 0 = none ∧ r = -5 ∧ cOK K A H1 o ad fb on fw dr fm vs ch ps)) m_B A) 4 24 A := by
  refine m_ofH (hh := [(0, 6, 7, 51)]) (by decide) rfl (Nat.le_of_ble_eq_true rfl) ?_
  intro p e s m args below meth c ls hx hb hr hml hown hts hlk htab hE hsz hS hl
  have hl : lv_has ls 4 [(0, .ref o), (1, .int (nI x)), (2, .int (nI y))] := hl
  obtain ⟨f9, d9, ft9, li9, T9, hP9, hD9, hR9⟩ := id hc9
  refine lv_aload_n hx hb dL_fallen_0 rfl (lv_at hl 0 rfl) ?_
  refine lv_iload_n hx hb dL_fallen_1 rfl (lv_at hl 1 rfl) ?_
  refine lv_iload_n hx hb dL_fallen_2 rfl (lv_at hl 2 rfl) ?_
  refine m_xVi (rest := []) ⟨hx, hb, hml, hown, hts⟩ hE hS (fun _ h => h) (kX2_setFallback l hl0 K A H0 o ad fb on fw dr fm vs ch ps hc9 hA (nI x) (nI y)) (cwV 2 hts gL_fallen_X2_setFallback rfl rfl rfl (by decide +kernel) ⟨Nat.le_of_ble_eq_true rfl, Nat.le_of_ble_eq_true rfl⟩) (va_recv hE.k hP9 (ci := 3) (q0 := 0) rfl rfl) rfl rfl hl.1 rfl (Nat.le_of_ble_eq_true rfl) dL_fallen_3 ⟨Nat.le_of_ble_eq_true rfl, Nat.le_of_ble_eq_true rfl⟩ (fun E ce q9 H1 locs1 hx9 hs9 hS9 g1 g2 g3 => ?_) (fun r H1 locs hp hS hk => ?_)
  · rcases hx9 with ⟨rfl, h4⟩ | ⟨rfl, -, h5⟩
    · exact absurd (show okN (nI x) 6 ∧ okN (nI y) 6 ∧ ¬ nI x = nI 0 from ⟨okN_nI hx8 (by decide), okN_nI hy9 (by decide), fun z => hx0 ((nI_eq (by omega) (by decide)).mp z)⟩) h4
    · refine m_catch1 (b0 := 0) (e0 := 6) (h0 := 7) (t0 := 51) hE hown htab rfl (by decide) (hts (.classLink RL 51 m_IA) (by decide +kernel)) (by simp [m_cas]) g1 g2 g3 ?_
      have hS := hS9
      rw [tN_nI (show x < 2147483648 by omega), tN_nI (show y < 2147483648 by omega)] at h5
      refine lv_astore_n (lv' := [(3, .ref q9), (0, .ref o), (1, .int (nI x)), (2, .int (nI y))]) hx hb dL_fallen_7 rfl hl (by decide) rfl (fun ls hl => ?_)
      refine lv_bipush (v := (-5)) hx hb dL_fallen_8 (by decide) ?_
      exact m_iret hx hb hr hlk hS (Nat.le_of_ble_eq_true rfl) (Nat.le_of_ble_eq_true rfl) dL_fallen_10 (Or.inr ⟨h5, rfl, (hc9.same hs9)⟩)
  rw [tN_nI (show x < 2147483648 by omega), tN_nI (show y < 2147483648 by omega)] at hp
  obtain ⟨-, h4, h5, hc⟩ := hp
  exact m_iret hx hb hr hlk hS (Nat.le_of_ble_eq_true rfl) (Nat.le_of_ble_eq_true rfl) dL_fallen_6 (Or.inl ⟨h4, h5, hc⟩)

set_option maxHeartbeats 4000000 in
set_option maxRecDepth 100000 in
theorem kL_set (l : Launch) (K : m_K) (A : Nat → Prop) (H0 : Heap) (hl0 : l.stackTraces = false) (o : Nat) (ad : Nat → Nat) (fb : Nat → Nat) (on fw : Nat → Int32) (dr : List Int32) (fm : Nat → Option Frm) (vs ch : Nat → Int32) (ps : List Pr) (hc9 : cOK K A H0 o ad fb on fw dr fm vs ch ps) (hA : ∀ q, H0.size ≤ q → A q) (k g j : Nat) (hk9 : k < 10) (hg9 : g < 6) (hj9 : j < 9) (b9 : Bool) : Met l yL_set wsL_set ({ frames := 11, cells := 18, slots := 220, locals := 270 } : Room) (m_Pc K A H0 [.ref o, .int (nI k), .int (nI g), .int (nI (j / 3)), .int (nI (j % 3)), .int (bI b9)]) (va_Qi (fun r H1 => (0 < dr.length ∧ r = vsC vs k g k ∧ cOK K A H1 o ad fb on fw [] (va_up fm (54 * k + 9 * g + j) (some (dr, b9))) (vsC vs k g) (chC ch vs k g) (psC fm ps k g j)) ∨ (¬ 0 < dr.length ∧ r = -5 ∧ cOK K A H1 o ad fb on fw dr fm vs ch ps)) m_B A) 18 220 A := by
  refine m_ofH (hh := [(0, 11, 12, 46)]) (by decide) rfl (Nat.le_of_ble_eq_true rfl) ?_
  intro p e s m args below meth c ls hx hb hr hml hown hts hlk htab hE hsz hS hl
  have hl : lv_has ls 7 [(0, .ref o), (1, .int (nI k)), (2, .int (nI g)), (3, .int (nI (j / 3))), (4, .int (nI (j % 3))), (5, .int (bI b9))] := hl
  obtain ⟨f9, d9, ft9, li9, T9, hP9, hD9, hR9⟩ := id hc9
  refine lv_aload_n hx hb dL_set_0 rfl (lv_at hl 0 rfl) ?_
  refine lv_iload_n hx hb dL_set_1 rfl (lv_at hl 1 rfl) ?_
  refine lv_iload_n hx hb dL_set_2 rfl (lv_at hl 2 rfl) ?_
  refine lv_iload_n hx hb dL_set_3 rfl (lv_at hl 3 rfl) ?_
  refine lv_iload hx hb dL_set_4 (lv_at hl 4 rfl) ?_
  refine lv_iload hx hb dL_set_6 (lv_at hl 5 rfl) ?_
  refine m_xVi (rest := []) ⟨hx, hb, hml, hown, hts⟩ hE hS (fun _ h => h) (kX2_set l hl0 K A H0 o ad fb on fw dr fm vs ch ps hc9 hA (nI k) (nI g) (nI (j / 3)) (nI (j % 3)) b9) (cwV 5 hts gL_set_X2_set rfl rfl rfl (by decide +kernel) ⟨Nat.le_of_ble_eq_true rfl, Nat.le_of_ble_eq_true rfl⟩) (va_recv hE.k hP9 (ci := 3) (q0 := 0) rfl rfl) rfl rfl hl.1 rfl (Nat.le_of_ble_eq_true rfl) dL_set_8 ⟨Nat.le_of_ble_eq_true rfl, Nat.le_of_ble_eq_true rfl⟩ (fun E ce q9 H1 locs1 hx9 hs9 hS9 g1 g2 g3 => ?_) (fun r H1 locs hp hS hk => ?_)
  · rcases hx9 with ⟨rfl, h4⟩ | ⟨rfl, -, h5⟩
    · exact absurd (okF_nI hk9 hg9 hj9) h4
    · refine m_catch1 (b0 := 0) (e0 := 11) (h0 := 12) (t0 := 46) hE hown htab rfl (by decide) (hts (.classLink RL 46 m_IS) (by decide +kernel)) (by simp [m_cas]) g1 g2 g3 ?_
      have hS := hS9
      refine lv_astore (lv' := [(6, .ref q9), (0, .ref o), (1, .int (nI k)), (2, .int (nI g)), (3, .int (nI (j / 3))), (4, .int (nI (j % 3))), (5, .int (bI b9))]) hx hb dL_set_12 hl (by decide) rfl (fun ls hl => ?_)
      refine lv_bipush (v := (-5)) hx hb dL_set_14 (by decide) ?_
      exact m_iret hx hb hr hlk hS (Nat.le_of_ble_eq_true rfl) (Nat.le_of_ble_eq_true rfl) dL_set_16 (Or.inr ⟨h5, rfl, (hc9.same hs9)⟩)
  rw [tN_nI (show k < 2147483648 by omega), tN_nI (show g < 2147483648 by omega), tN_nI (show j / 3 < 2147483648 by omega), tN_nI (show j % 3 < 2147483648 by omega), show 54 * k + 9 * g + 3 * (j / 3) + j % 3 = 54 * k + 9 * g + j by omega, show 3 * (j / 3) + j % 3 = j by omega] at hp
  obtain ⟨-, h4, h5, hc⟩ := hp
  exact m_iret hx hb hr hlk hS (Nat.le_of_ble_eq_true rfl) (Nat.le_of_ble_eq_true rfl) dL_set_11 (Or.inl ⟨h4, h5, hc⟩)

set_option maxHeartbeats 4000000 in
set_option maxRecDepth 100000 in
theorem kL_signed (l : Launch) (K : m_K) (A : Nat → Prop) (H0 : Heap) (hl0 : l.stackTraces = false) (o : Nat) (ad : Nat → Nat) (fb : Nat → Nat) (on fw : Nat → Int32) (dr : List Int32) (fm : Nat → Option Frm) (vs ch : Nat → Int32) (ps : List Pr) (hc9 : cOK K A H0 o ad fb on fw dr fm vs ch ps) (hA : ∀ q, H0.size ≤ q → A q) (x : Int32) (hx8 : isWd x = true ∨ isPh x = true) : Met l yL_signed wsL_signed ({ frames := 7, cells := 2, slots := 12, locals := 105 } : Room) (m_Pc K A H0 [.ref o, .int x]) (va_Qi (fun r H1 => (dr.length < 8 ∧ r = nI (dr.length + 1) ∧ cOK K A H1 o ad fb on fw (dr ++ [x]) fm vs ch ps) ∨ (¬ dr.length < 8 ∧ r = -5 ∧ cOK K A H1 o ad fb on fw dr fm vs ch ps)) m_B A) 2 12 A := by
  refine m_ofH (hh := [(0, 5, 6, 46)]) (by decide) rfl (Nat.le_of_ble_eq_true rfl) ?_
  intro p e s m args below meth c ls hx hb hr hml hown hts hlk htab hE hsz hS hl
  have hl : lv_has ls 3 [(0, .ref o), (1, .int x)] := hl
  obtain ⟨f9, d9, ft9, li9, T9, hP9, hD9, hR9⟩ := id hc9
  refine lv_aload_n hx hb dL_signed_0 rfl (lv_at hl 0 rfl) ?_
  refine lv_iload_n hx hb dL_signed_1 rfl (lv_at hl 1 rfl) ?_
  refine m_xVi (rest := []) ⟨hx, hb, hml, hown, hts⟩ hE hS (fun _ h => h) (kX2_sign l hl0 K A H0 o ad fb on fw dr fm vs ch ps hc9 hA x) (cwV 1 hts gL_signed_X2_sign rfl rfl rfl (by decide +kernel) ⟨Nat.le_of_ble_eq_true rfl, Nat.le_of_ble_eq_true rfl⟩) (va_recv hE.k hP9 (ci := 3) (q0 := 0) rfl rfl) rfl rfl hl.1 rfl (Nat.le_of_ble_eq_true rfl) dL_signed_2 ⟨Nat.le_of_ble_eq_true rfl, Nat.le_of_ble_eq_true rfl⟩ (fun E ce q9 H1 locs1 hx9 hs9 hS9 g1 g2 g3 => ?_) (fun r H1 locs hp hS hk => ?_)
  · rcases hx9 with ⟨rfl, h4⟩ | ⟨rfl, -, h5⟩
    · exact absurd hx8 h4
    · refine m_catch1 (b0 := 0) (e0 := 5) (h0 := 6) (t0 := 46) hE hown htab rfl (by decide) (hts (.classLink RL 46 m_IS) (by decide +kernel)) (by simp [m_cas]) g1 g2 g3 ?_
      have hS := hS9
      refine lv_astore_n (lv' := [(2, .ref q9), (0, .ref o), (1, .int x)]) hx hb dL_signed_6 rfl hl (by decide) rfl (fun ls hl => ?_)
      refine lv_bipush (v := (-5)) hx hb dL_signed_7 (by decide) ?_
      exact m_iret hx hb hr hlk hS (Nat.le_of_ble_eq_true rfl) (Nat.le_of_ble_eq_true rfl) dL_signed_9 (Or.inr ⟨h5, rfl, (hc9.same hs9)⟩)
  obtain ⟨-, h4, h5, hc⟩ := hp
  exact m_iret hx hb hr hlk hS (Nat.le_of_ble_eq_true rfl) (Nat.le_of_ble_eq_true rfl) dL_signed_5 (Or.inl ⟨h4, h5, hc⟩)
