/-! THE LAW: holds, isHeld -/
section LN
variable {p : Program} {l : Launch} {e : Env} {R : Room} {s : State} {m : MethodId} {args : Array Value} {below : List Frame} {meth : Method} {c : Code} {H : Heap} {locs : List Loc} {cells slots : Nat} {Q : State → Prop}
variable {cc : ByteArray} {pc : Nat} {ls : Array Slot} {rest : List Value} {K : m_K} {A : Nat → Prop} {H0 : Heap}
theorem m_newo (hx : p.tables.exec = Jvm.exec) (hb : c.code = cc) {own C : String} {T : u_T} {N ci index : Nat} {Ts : List Cond} (hts : ∀ w ∈ Ts, w.before args s = true) (hin : ∀ w ∈ u_ws C T N, w ∈ Ts) (ty : Nat → FieldType) (hty : ∀ k, k < N → parseFieldDescriptor (T k).2.2.1 = some (ty k)) (hown : s.vm.findClass own = some m.cls) (hcl : (Cond.classLink own index C).before args s = true) (hinst : (Cond.instantiable C N).before args s = true) (hini : (Cond.initialized C).before args s = true)
    (hK : va_K K.1 vwCl (m_ty K) s) (hS : va_S A H0 H locs) (hc : vwCl[ci]? = some (C, T, N)) {fs : List Value} (hfs : ∀ j, j < N → defaultValue (ty j) = vp_V fs j) (hcells : cells + 1 ≤ R.cells) (hslots : slots + N ≤ R.slots) (d : decode cc pc = .ok (.new index, 3))
    (kk : ∀ (q : Nat) (H1 : Heap), q = H.size → m_same H H1 → va_P K.1 vwCl [(q, .inr (ci, fs))] H1 → va_S A H0 H1 locs → W p l e R s m args below meth c H1 locs (cells + 1) (slots + N) Q (F0 m (pc + 3) ls (.ref q :: rest))) : W p l e R s m args below meth c H locs cells slots Q (F0 m pc ls rest) := by
  have hKn := hK.1 ci _ hc
  refine W.newcK hx hb hown hcl hinst hini rfl d hcells hslots hKn.2.1 rfl fun H1 kC hkC e1 z1 o1 => ?_
  refine kk H.size H1 rfl ⟨by omega, o1⟩ (fun k x hx => ?_) ⟨Nat.le_trans hS.1 (by omega), fun x h1 h2 => (o1 x (Nat.lt_of_lt_of_le h1 hS.1)).trans (hS.2.1 x h1 h2), hS.2.2⟩
  have hz : k < 1 := (List.getElem?_eq_some_iff.mp hx).1
  rw [show k = 0 by omega] at hx
  cases hx
  exact ⟨_, hc, (u_born ty hts hin hKn hkC e1 hty).to hfs⟩
end LN
theorem d_one {A : Nat → Prop} {a : Nat} {e : va_E} (h : A a) : va_D A [(a, e)] := (m_one (a := a) (e := e)).weaken (fun _ _ _ z => by rw [z]; exact h)

theorem n1_up {w : Nat → Int32} {k : Nat} (h : ∀ t, 3 ≤ t → t < k → w t = nI 1) : ∀ t, 3 ≤ t → t < k + 1 → upd w k (nI 1) t = nI 1 := fun t h3 ht => by
  unfold upd
  split
  · rfl
  · exact h t h3 (by omega)
theorem lRep_0 {w : Nat → Int32} (h0 : ∀ t, t < 3 → w t = nI 0) (h1 : ∀ t, 3 ≤ t → t < 9 → w t = nI 1) : lRep (va_up (fun _ _ => 0) 4 w) (fun _ => 0) (fun _ => nI 1) (fun _ => nI 1) [] (fun _ => none) (fun _ => 0) (fun _ => 0) [] := ⟨fun k g j _ _ _ => rfl, fun k g j F _ _ _ h => (by cases h), fun k _ => ⟨rfl, fun g _ => by split <;> rfl⟩, fun i P h => by simp at h, fun l hl => ⟨h0 l hl, h1 _ (by omega) (by omega), h1 _ (by omega) (by omega)⟩, ⟨rfl, rfl, rfl⟩, ⟨rfl, by decide, by decide, by decide, by decide, fun z => absurd z.1 (by decide)⟩, ⟨fun n F h => (by cases h), fun k g j _ _ _ _ => rfl⟩, ⟨by decide, fun P h => by cases h⟩, drOK_nil⟩

set_option maxHeartbeats 4000000 in
set_option maxRecDepth 100000 in
theorem kL_holds (l : Launch) (K : m_K) (A : Nat → Prop) (H0 : Heap) (hl0 : l.stackTraces = false) (hL : K.2.2 3 ≤ 260) (hA : ∀ q, H0.size ≤ q → A q) : Met l yL_holds wsL_holds ({ frames := 13, cells := 24000, slots := 300000, locals := 332 } : Room) (m_Pc K A H0 [.ref (K.2.2 2)]) (va_Qi (fun r H1 => r = bI true ∧ True) m_B A) 24000 300000 A := by
  refine m_ofW (by decide) rfl (Nat.le_of_ble_eq_true rfl) ?_
  intro p e s m args below meth c ls hx hb hr hml hown hts hlk hnm hE hsz hS hl
  have hl : lv_has ls 10 [(0, .ref (K.2.2 2))] := hl
  have iX2 : ∀ w ∈ wsX20, w ∈ wsL_holds := by decide +kernel
  have x135 := hts (.methodLink RL 135 yX2_init) (by decide +kernel)
  have zX2_init := hts (.instanceMethod yX2_init) (by decide +kernel)
  have nRX2 := hts (.initialized RX2) (by decide +kernel)
  have ai := hts (.arrayClass .int) (by decide +kernel)
  have k139 := hts (.constant RL 139 1000000) (by decide +kernel)
  rw [show (1000000 : Int32) = nI 1000000 by decide] at k139
  refine m_newo (ci := 3) (fs := [.null, .null, .null, .null, .int 0, .null, .null, .null, .null, .null]) (C := RX2) (T := TX2) (N := 10) hx hb hts iX2 tyX2 tyX2_ok hown (hts (.classLink RL 35 RX2) (by decide +kernel)) (hts (.instantiable RX2 10) (by decide +kernel)) (hts (.initialized RX2) (by decide +kernel)) hE.k hS rfl (fun j hj => by rcases (show j = 0 ∨ j = 1 ∨ j = 2 ∨ j = 3 ∨ j = 4 ∨ j = 5 ∨ j = 6 ∨ j = 7 ∨ j = 8 ∨ j = 9 by omega) with rfl | rfl | rfl | rfl | rfl | rfl | rfl | rfl | rfl | rfl <;> rfl) (Nat.le_of_ble_eq_true rfl) (Nat.le_of_ble_eq_true rfl) dL_holds_0 (fun o H e_o s_o hP_o hS => ?_)
  have hAo : A o := hA o (Nat.le_of_eq e_o.symm)
  refine lv_dup hx hb dL_holds_3 rfl ?_
  refine m_cIv (rest := [.ref o]) ⟨hx, hb, hml, hown, hts⟩ hE hS (fun _ h => h) (kX2_init l K A _ o hP_o (d_one hAo) (fun q h => hA q (by rw [← hsz]; exact Nat.le_trans hS.1 h))) (cwI 0 hts gL_holds_X2_init rfl rfl rfl nRX2 x135 zX2_init rfl (by decide +kernel) ⟨Nat.le_of_ble_eq_true rfl, Nat.le_of_ble_eq_true rfl⟩) rfl rfl hl.1 rfl (Nat.le_of_ble_eq_true rfl) dL_holds_4 ⟨by show _ ≤ 24000; omega, by show _ ≤ 300000; omega⟩ (fun H1 locs hp hS hk => ?_)
  obtain ⟨ad, hc⟩ := hp
  have hP : va_P K.1 vwCl ([] : va_W) H1 := fun k q hq => by simp at hq
  have hD : va_D A ([] : va_W) := ⟨fun i j p q hi => by simp at hi, fun k q hq => by simp at hq⟩
  refine lv_astore_n (lv' := [(1, .ref o), (0, .ref (K.2.2 2))]) hx hb dL_holds_7 rfl hl (by decide) rfl (fun ls hl => ?_)
  refine lv_bipush (v := nI 54) hx hb dL_holds_8 (by decide) ?_
  refine m_newi hx hb hE.k hP hD hS (fun q h => hA q (hsz ▸ h)) ai (by decide) (Nat.le_of_ble_eq_true rfl) (Nat.le_of_ble_eq_true rfl) dL_holds_10 (fun y0 H e0 s0 hP hD hS => ?_)
  have hP : va_P K.1 vwCl ([(y0, .inl (K.2.1 0, 54, .inl (fun _ => 0)))]) H := hP
  have hD : va_D A ([(y0, .inl (K.2.1 0, 54, .inl (fun _ => 0)))]) := hD
  have l0 : y0 < H.size := (hP 0 _ rfl).lt
  have hc := (hc.narrow (B := fun q => A q ∧ q < y0) (fun q hq h => ⟨h, by rw [e0]; exact hq⟩)).same s0
  refine lv_astore_n (lv' := [(2, .ref y0), (1, .ref o), (0, .ref (K.2.2 2))]) hx hb dL_holds_12 rfl hl (by decide) rfl (fun ls hl => ?_)
  refine lv_bipush (v := nI 6) hx hb dL_holds_13 (by decide) ?_
  refine m_newi hx hb hE.k hP hD hS (fun q h => hA q (hsz ▸ h)) ai (by decide) (Nat.le_of_ble_eq_true rfl) (Nat.le_of_ble_eq_true rfl) dL_holds_15 (fun y1 H e1 s1 hP hD hS => ?_)
  have hP : va_P K.1 vwCl ([(y0, .inl (K.2.1 0, 54, .inl (fun _ => 0))), (y1, .inl (K.2.1 0, 6, .inl (fun _ => 0)))]) H := hP
  have hD : va_D A ([(y0, .inl (K.2.1 0, 54, .inl (fun _ => 0))), (y1, .inl (K.2.1 0, 6, .inl (fun _ => 0)))]) := hD
  have l1 : y1 < H.size := (hP 1 _ rfl).lt
  have hc := hc.same s1
  refine lv_astore_n (lv' := [(3, .ref y1), (2, .ref y0), (1, .ref o), (0, .ref (K.2.2 2))]) hx hb dL_holds_17 rfl hl (by decide) rfl (fun ls hl => ?_)
  refine lv_bipush (v := nI 8) hx hb dL_holds_18 (by decide) ?_
  refine m_newi hx hb hE.k hP hD hS (fun q h => hA q (hsz ▸ h)) ai (by decide) (Nat.le_of_ble_eq_true rfl) (Nat.le_of_ble_eq_true rfl) dL_holds_20 (fun y2 H e2 s2 hP hD hS => ?_)
  have hP : va_P K.1 vwCl ([(y0, .inl (K.2.1 0, 54, .inl (fun _ => 0))), (y1, .inl (K.2.1 0, 6, .inl (fun _ => 0))), (y2, .inl (K.2.1 0, 8, .inl (fun _ => 0)))]) H := hP
  have hD : va_D A ([(y0, .inl (K.2.1 0, 54, .inl (fun _ => 0))), (y1, .inl (K.2.1 0, 6, .inl (fun _ => 0))), (y2, .inl (K.2.1 0, 8, .inl (fun _ => 0)))]) := hD
  have l2 : y2 < H.size := (hP 2 _ rfl).lt
  have hc := hc.same s2
  refine lv_astore (lv' := [(4, .ref y2), (3, .ref y1), (2, .ref y0), (1, .ref o), (0, .ref (K.2.2 2))]) hx hb dL_holds_22 hl (by decide) rfl (fun ls hl => ?_)
  refine lv_bipush (v := nI 60) hx hb dL_holds_24 (by decide) ?_
  refine m_newi hx hb hE.k hP hD hS (fun q h => hA q (hsz ▸ h)) ai (by decide) (Nat.le_of_ble_eq_true rfl) (Nat.le_of_ble_eq_true rfl) dL_holds_26 (fun y3 H e3 s3 hP hD hS => ?_)
  have hP : va_P K.1 vwCl ([(y0, .inl (K.2.1 0, 54, .inl (fun _ => 0))), (y1, .inl (K.2.1 0, 6, .inl (fun _ => 0))), (y2, .inl (K.2.1 0, 8, .inl (fun _ => 0))), (y3, .inl (K.2.1 0, 60, .inl (fun _ => 0)))]) H := hP
  have hD : va_D A ([(y0, .inl (K.2.1 0, 54, .inl (fun _ => 0))), (y1, .inl (K.2.1 0, 6, .inl (fun _ => 0))), (y2, .inl (K.2.1 0, 8, .inl (fun _ => 0))), (y3, .inl (K.2.1 0, 60, .inl (fun _ => 0)))]) := hD
  have l3 : y3 < H.size := (hP 3 _ rfl).lt
  have hc := hc.same s3
  refine lv_astore (lv' := [(5, .ref y3), (4, .ref y2), (3, .ref y1), (2, .ref y0), (1, .ref o), (0, .ref (K.2.2 2))]) hx hb dL_holds_28 hl (by decide) rfl (fun ls hl => ?_)
  refine lv_bipush (v := nI 9) hx hb dL_holds_30 (by decide) ?_
  refine m_newi hx hb hE.k hP hD hS (fun q h => hA q (hsz ▸ h)) ai (by decide) (Nat.le_of_ble_eq_true rfl) (Nat.le_of_ble_eq_true rfl) dL_holds_32 (fun y4 H e4 s4 hP hD hS => ?_)
  have hP : va_P K.1 vwCl ([(y0, .inl (K.2.1 0, 54, .inl (fun _ => 0))), (y1, .inl (K.2.1 0, 6, .inl (fun _ => 0))), (y2, .inl (K.2.1 0, 8, .inl (fun _ => 0))), (y3, .inl (K.2.1 0, 60, .inl (fun _ => 0))), (y4, .inl (K.2.1 0, 9, .inl (fun _ => 0)))]) H := hP
  have hD : va_D A ([(y0, .inl (K.2.1 0, 54, .inl (fun _ => 0))), (y1, .inl (K.2.1 0, 6, .inl (fun _ => 0))), (y2, .inl (K.2.1 0, 8, .inl (fun _ => 0))), (y3, .inl (K.2.1 0, 60, .inl (fun _ => 0))), (y4, .inl (K.2.1 0, 9, .inl (fun _ => 0)))]) := hD
  have l4 : y4 < H.size := (hP 4 _ rfl).lt
  have hc := hc.same s4
  refine lv_astore (lv' := [(6, .ref y4), (5, .ref y3), (4, .ref y2), (3, .ref y1), (2, .ref y0), (1, .ref o), (0, .ref (K.2.2 2))]) hx hb dL_holds_34 hl (by decide) rfl (fun ls hl => ?_)
  refine lv_iconst (v := nI 3) hx hb dL_holds_36 (by decide) ?_
  refine m_newi hx hb hE.k hP hD hS (fun q h => hA q (hsz ▸ h)) ai (by decide) (Nat.le_of_ble_eq_true rfl) (Nat.le_of_ble_eq_true rfl) dL_holds_37 (fun y5 H e5 s5 hP hD hS => ?_)
  have hP : va_P K.1 vwCl ([(y0, .inl (K.2.1 0, 54, .inl (fun _ => 0))), (y1, .inl (K.2.1 0, 6, .inl (fun _ => 0))), (y2, .inl (K.2.1 0, 8, .inl (fun _ => 0))), (y3, .inl (K.2.1 0, 60, .inl (fun _ => 0))), (y4, .inl (K.2.1 0, 9, .inl (fun _ => 0))), (y5, .inl (K.2.1 0, 3, .inl (fun _ => 0)))]) H := hP
  have hD : va_D A ([(y0, .inl (K.2.1 0, 54, .inl (fun _ => 0))), (y1, .inl (K.2.1 0, 6, .inl (fun _ => 0))), (y2, .inl (K.2.1 0, 8, .inl (fun _ => 0))), (y3, .inl (K.2.1 0, 60, .inl (fun _ => 0))), (y4, .inl (K.2.1 0, 9, .inl (fun _ => 0))), (y5, .inl (K.2.1 0, 3, .inl (fun _ => 0)))]) := hD
  have l5 : y5 < H.size := (hP 5 _ rfl).lt
  have hc := hc.same s5
  refine lv_astore (lv' := [(7, .ref y5), (6, .ref y4), (5, .ref y3), (4, .ref y2), (3, .ref y1), (2, .ref y0), (1, .ref o), (0, .ref (K.2.2 2))]) hx hb dL_holds_39 hl (by decide) rfl (fun ls hl => ?_)
  obtain ⟨b, rfl, rfl, rfl, rfl, rfl, rfl⟩ : ∃ b : Nat → Nat, y0 = b 0 ∧ y1 = b 1 ∧ y2 = b 2 ∧ y3 = b 3 ∧ y4 = b 4 ∧ y5 = b 5 := ⟨fun i => if i = 0 then y0 else if i = 1 then y1 else if i = 2 then y2 else if i = 3 then y3 else if i = 4 then y4 else y5, rfl, rfl, rfl, rfl, rfl, rfl⟩
  have hP : va_P K.1 vwCl (lW K b (va_up (fun _ _ => 0) 4 (fun _ => 0))) _ := hP
  have hD : va_D A (lW K b (va_up (fun _ _ => 0) 4 (fun _ => 0))) := hD
  have hc := hc.narrow (B := (fun q => A q ∧ (q < b 0 ∨ b 5 < q))) (fun q hq h => ⟨h.1, Or.inl h.2⟩)
  have hno : ∀ i, i < 6 → ¬ (fun q => A q ∧ (q < b 0 ∨ b 5 < q)) (b i) := fun i hi z => by
    have z2 : b i < b 0 ∨ b 5 < b i := z.2
    rcases (show i = 0 ∨ i = 1 ∨ i = 2 ∨ i = 3 ∨ i = 4 ∨ i = 5 by omega) with rfl | rfl | rfl | rfl | rfl | rfl <;> omega
  have hsub : ∀ q, (fun q => A q ∧ (q < b 0 ∨ b 5 < q)) q → A q := fun q h => h.1
  clear e0 e1 e2 e3 e4 e5 l0 l1 l2 l3 l4 l5 s0 s1 s2 s3 s4 s5
  refine W.widen (k := 20) (n := 900) (Nat.le_of_ble_eq_true rfl) (Nat.le_of_ble_eq_true rfl) ?_
  refine lv_iconst (v := nI 3) hx hb dL_holds_41 (by decide) ?_
  refine lv_istore (lv' := [(8, .int (nI 3)), (7, .ref (b 5)), (6, .ref (b 4)), (5, .ref (b 3)), (4, .ref (b 2)), (3, .ref (b 1)), (2, .ref (b 0)), (1, .ref o), (0, .ref (K.2.2 2))]) hx hb dL_holds_42 hl (by decide) rfl (fun ls hl => ?_)
  refine (?_ : ∀ (n9a : Nat) (k : Nat) (w4 : Nat → Int32) (H : Heap) (locs : List Loc) (ls : Array Slot), k ≤ 9 → 9 < k + n9a → 3 ≤ k → (∀ t, 3 ≤ t → t < k → w4 t = nI 1) → (∀ t, t < 3 → w4 t = nI 0) → cOK K (fun q => A q ∧ (q < b 0 ∨ b 5 < q)) H o ad (fun _ => 0) (fun _ => nI 1) (fun _ => nI 1) [] (fun _ => none) (fun _ => 0) (fun _ => 0) [] → va_P K.1 vwCl (lW K b (va_up (fun _ _ => 0) 4 w4)) H → va_D A (lW K b (va_up (fun _ _ => 0) 4 w4)) → va_S A s.heap H locs → lv_has ls 10 [(8, .int (nI k)), (1, .ref o), (2, .ref (b 0)), (3, .ref (b 1)), (4, .ref (b 2)), (5, .ref (b 3)), (6, .ref (b 4)), (7, .ref (b 5)), (0, .ref (K.2.2 2))] → W p l e _ s m args below meth c H locs 20 900 _ (F0 m 44 ls [])) (9 + 1) 3 (fun _ => 0) _ _ ls (by omega) (by omega) (Nat.le_refl 3) (fun t h1 h2 => absurd h2 (by omega)) (fun t _ => rfl) hc hP hD hS (lv_sub hl [0, 7, 6, 5, 4, 3, 2, 1, 8] rfl)
  clear hS hl hP hD
  intro n9a
  induction n9a with
  | zero => intro k w4 H locs ls hi9 hn9; exact absurd hn9 (by omega)
  | succ n9a iha =>
    intro k w4 H locs ls hi9a hn9a hk3 hw1 hw0 hc hP hD hS hl
    refine lv_iload hx hb dL_holds_44 (lv_at hl 0 rfl) ?_
    refine lv_bipush (v := nI 9) hx hb dL_holds_46 (by decide) ?_
    refine m_icmp_ge (tgt := 63) hx hb (by omega) (by omega) dL_holds_48 (by decide) (fun c_48 => ?_) (fun c_48 => ?_)
    · refine lv_aload_n hx hb dL_holds_63 rfl (lv_at hl 1 rfl) ?_
      obtain ⟨f7, d7, ft7, li7, T7, hPc, hDc, hRc⟩ := id hc
      refine m_cVi (rest := []) ⟨hx, hb, hml, hown, hts⟩ hE hS hsub (kX2_pairs l K (fun q => A q ∧ (q < b 0 ∨ b 5 < q)) _ o ad (fun _ => 0) (fun _ => nI 1) (fun _ => nI 1) [] (fun _ => none) (fun _ => 0) (fun _ => 0) [] hc) (cwV 0 hts gL_holds_X2_pairs rfl rfl rfl (by decide +kernel) ⟨Nat.le_of_ble_eq_true rfl, Nat.le_of_ble_eq_true rfl⟩) (va_recv hE.k hPc (ci := 3) (q0 := 0) rfl rfl) rfl rfl hl.1 rfl (Nat.le_of_ble_eq_true rfl) dL_holds_64 ⟨by show _ ≤ 24000; omega, by show _ ≤ 300000; omega⟩ (fun r H1 locs hp hS hk => ?_)
      obtain ⟨hr9, rfl⟩ := hp
      have hr9 : r = nI 0 := hr9
      subst hr9
      refine m_if_ne (tgt := 81) hx hb (by omega) dL_holds_67 (by decide) (fun c_67 => ?_) (fun c_67 => ?_)
      · exact absurd c_67 (by first | decide | exact (show ¬ false = true by decide) | exact (show ¬ true = false by decide))
      · refine lv_aload_n hx hb dL_holds_70 rfl (lv_at hl 1 rfl) ?_
        obtain ⟨f7, d7, ft7, li7, T7, hPc, hDc, hRc⟩ := id hc
        refine m_cVi (rest := []) ⟨hx, hb, hml, hown, hts⟩ hE hS hsub (kX2_draft l K (fun q => A q ∧ (q < b 0 ∨ b 5 < q)) _ o ad (fun _ => 0) (fun _ => nI 1) (fun _ => nI 1) [] (fun _ => none) (fun _ => 0) (fun _ => 0) [] hc) (cwV 0 hts gL_holds_X2_draft rfl rfl rfl (by decide +kernel) ⟨Nat.le_of_ble_eq_true rfl, Nat.le_of_ble_eq_true rfl⟩) (va_recv hE.k hPc (ci := 3) (q0 := 0) rfl rfl) rfl rfl hl.1 rfl (Nat.le_of_ble_eq_true rfl) dL_holds_71 ⟨by show _ ≤ 24000; omega, by show _ ≤ 300000; omega⟩ (fun r H1 locs hp hS hk => ?_)
        obtain ⟨hr9, rfl⟩ := hp
        have hr9 : r = nI 0 := hr9
        subst hr9
        refine m_if_ne (tgt := 81) hx hb (by omega) dL_holds_74 (by decide) (fun c_74 => ?_) (fun c_74 => ?_)
        · exact absurd c_74 (by first | decide | exact (show ¬ false = true by decide) | exact (show ¬ true = false by decide))
        · refine lv_iconst (v := nI 1) hx hb dL_holds_77 (by decide) ?_
          refine lv_goto (tgt := 82) hx hb dL_holds_78 (by decide) ?_
          refine W.eq (g2 := F0 m 82 ls [.int (bI true)]) (by rfl) ?_
          refine lv_istore (lv' := [(8, .int (bI true)), (1, .ref o), (2, .ref (b 0)), (3, .ref (b 1)), (4, .ref (b 2)), (5, .ref (b 3)), (6, .ref (b 4)), (7, .ref (b 5)), (0, .ref (K.2.2 2))]) hx hb dL_holds_82 hl (by decide) rfl (fun ls hl => ?_)
          refine lv_iconst (v := nI 0) hx hb dL_holds_84 (by decide) ?_
          refine lv_istore (lv' := [(9, .int (nI 0)), (8, .int (bI true)), (1, .ref o), (2, .ref (b 0)), (3, .ref (b 1)), (4, .ref (b 2)), (5, .ref (b 3)), (6, .ref (b 4)), (7, .ref (b 5)), (0, .ref (K.2.2 2))]) hx hb dL_holds_85 hl (by decide) rfl (fun ls hl => ?_)
          refine W.widen (k := 40 + 148 * 0) (n := 1000 + 1820 * 0) (Nat.le_of_ble_eq_true rfl) (Nat.le_of_ble_eq_true rfl) ?_
          refine (?_ : ∀ (n9b : Nat) (e9 : Nat) (H : Heap) (locs : List Loc) (ls : Array Slot), e9 ≤ 160 → 160 < e9 + n9b → LSt K A (fun q => A q ∧ (q < b 0 ∨ b 5 < q)) b o ad H → va_S A s.heap H locs → lv_has ls 10 [(9, .int (nI e9)), (8, .int (bI true)), (1, .ref o), (2, .ref (b 0)), (3, .ref (b 1)), (4, .ref (b 2)), (5, .ref (b 3)), (6, .ref (b 4)), (7, .ref (b 5)), (0, .ref (K.2.2 2))] → W p l e _ s m args below meth c H locs (40 + 148 * e9) (1000 + 1820 * e9) _ (F0 m 87 ls [])) (160 + 1) 0 _ _ ls (by omega) (by omega) (⟨_, _, _, _, _, _, _, _, _, hP, hD, hc, lRep_0 hw0 (fun t h3 h9 => hw1 t h3 (by omega))⟩) hS (lv_sub hl [0, 1, 2, 3, 4, 5, 6, 7, 8, 9] rfl)
          clear hS hl hP hD hc
          intro n9b
          induction n9b with
          | zero => intro e9 H locs ls hi9 hn9; exact absurd hn9 (by omega)
          | succ n9b ihb =>
            intro e9 H locs ls hi9b hn9b hSt hS hl
            refine lv_iload hx hb dL_holds_87 (lv_at hl 0 rfl) ?_
            refine lv_sipush (v := nI 160) hx hb dL_holds_89 (by decide) ?_
            refine m_icmp_ge (tgt := 188) hx hb (by omega) (by omega) dL_holds_92 (by decide) (fun c_92 => ?_) (fun c_92 => ?_)
            · refine lv_iload hx hb dL_holds_188 (lv_at hl 1 rfl) ?_
              refine W.widen (k := 24000) (n := 300000) (by omega) (by omega) ?_
              exact m_zret hx hb hr hlk hS (Nat.le_of_ble_eq_true rfl) (Nat.le_of_ble_eq_true rfl) dL_holds_190 (⟨rfl, trivial⟩)
            · refine lv_iload hx hb dL_holds_95 (lv_at hl 1 rfl) ?_
              refine m_if_eq_b (tgt := 188) hx hb dL_holds_97 (by decide) (fun c_97 => ?_) (fun c_97 => ?_)
              · exact absurd c_97 (by first | decide | exact (show ¬ false = true by decide) | exact (show ¬ true = false by decide))
              · refine lv_aload_n hx hb dL_holds_100 rfl (lv_at hl 2 rfl) ?_
                refine lv_aload_n hx hb dL_holds_101 rfl (lv_at hl 3 rfl) ?_
                refine lv_aload_n hx hb dL_holds_102 rfl (lv_at hl 4 rfl) ?_
                refine lv_aload hx hb dL_holds_103 (lv_at hl 5 rfl) ?_
                refine lv_aload hx hb dL_holds_105 (lv_at hl 6 rfl) ?_
                refine lv_aload hx hb dL_holds_107 (lv_at hl 7 rfl) ?_
                refine lv_aload hx hb dL_holds_109 (lv_at hl 8 rfl) ?_
                refine lv_aload_n hx hb dL_holds_111 rfl (lv_at hl 9 rfl) ?_
                refine lv_iconst (v := nI 2) hx hb dL_holds_112 (by decide) ?_
                refine lv_iload hx hb dL_holds_113 (lv_at hl 0 rfl) ?_
                refine m_imul hx hb dL_holds_115 ?_
                refine lv_bipush (v := nI 17) hx hb dL_holds_116 (by decide) ?_
                refine m_cSi (rest := [.ref (b 5), .ref (b 4), .ref (b 3), .ref (b 2), .ref (b 1), .ref (b 0), .ref o]) ⟨hx, hb, hml, hown, hts⟩ hE hS (fun _ h => h) (kL_from l K A _ hL (2 * e9) 17 (by omega) (by decide) (by decide)) (va_cwS 3 hts gL_holds_L_from rfl rfl rfl (by decide +kernel) ⟨Nat.le_of_ble_eq_true rfl, Nat.le_of_ble_eq_true rfl⟩) rfl rfl hl.1 rfl (Nat.le_of_ble_eq_true rfl) dL_holds_118 ⟨by show _ ≤ 24000; omega, by show _ ≤ 300000; omega⟩ (fun r H1 locs hp hS hk => ?_)
                obtain ⟨y9, hy9, rfl, rfl⟩ := hp
                refine lv_aload_n hx hb dL_holds_121 rfl (lv_at hl 9 rfl) ?_
                refine lv_iconst (v := nI 2) hx hb dL_holds_122 (by decide) ?_
                refine lv_iload hx hb dL_holds_123 (lv_at hl 0 rfl) ?_
                refine m_imul hx hb dL_holds_125 ?_
                refine lv_iconst (v := nI 1) hx hb dL_holds_126 (by decide) ?_
                refine m_iadd hx hb dL_holds_127 ?_
                refine lv_ldc (v := nI 1000000) hx hb hown k139 dL_holds_128 ?_
                refine m_cSi (rest := [.int (nI y9), .ref (b 5), .ref (b 4), .ref (b 3), .ref (b 2), .ref (b 1), .ref (b 0), .ref o]) ⟨hx, hb, hml, hown, hts⟩ hE hS (fun _ h => h) (kL_from l K A _ hL (2 * e9 + 1) 1000000 (by omega) (by decide) (by decide)) (va_cwS 3 hts gL_holds_L_from rfl rfl rfl (by decide +kernel) ⟨Nat.le_of_ble_eq_true rfl, Nat.le_of_ble_eq_true rfl⟩) rfl rfl hl.1 rfl (Nat.le_of_ble_eq_true rfl) dL_holds_130 ⟨by show _ ≤ 24000; omega, by show _ ≤ 300000; omega⟩ (fun r H1 locs hp hS hk => ?_)
                obtain ⟨z9, hz9, rfl, rfl⟩ := hp
                obtain ⟨g, fb, on, fw, dr, fm, vs, ch, ps, hP, hD, hc, hR⟩ := hSt
                refine m_cSi (rest := []) ⟨hx, hb, hml, hown, hts⟩ hE hS (fun _ h => h) (kL_acts l K A _ hl0 (fun q => A q ∧ (q < b 0 ∨ b 5 < q)) hsub b hno g hP hD o ad fb on fw dr fm vs ch ps hc (fun q h => ⟨hA q (by rw [← hsz]; exact Nat.le_trans hS.1 h), Or.inr (Nat.lt_of_lt_of_le (lW_lt hP (i := 5) (by decide)) h)⟩) hR y9 z9 hy9 hz9) (va_cwS 9 hts gL_holds_L_acts rfl rfl rfl (by decide +kernel) ⟨Nat.le_of_ble_eq_true rfl, Nat.le_of_ble_eq_true rfl⟩) rfl rfl hl.1 rfl (Nat.le_of_ble_eq_true rfl) dL_holds_133 ⟨by show _ ≤ 24000; omega, by show _ ≤ 300000; omega⟩ (fun r H1 locs hp hS hk => ?_)
                obtain ⟨rfl, hSt⟩ := hp
                refine m_if_eq_b (tgt := 179) hx hb dL_holds_136 (by decide) (fun c_136 => ?_) (fun c_136 => ?_)
                · exact absurd c_136 (by first | decide | exact (show ¬ false = true by decide) | exact (show ¬ true = false by decide))
                · refine lv_iload hx hb dL_holds_139 (lv_at hl 0 rfl) ?_
                  refine lv_iconst (v := nI 2) hx hb dL_holds_141 (by decide) ?_
                  refine m_irem hx hb (by omega) (by omega) (by omega) dL_holds_142 ?_
                  refine m_if_eq (tgt := 175) hx hb (by omega) dL_holds_143 (by decide) (fun c_143 => ?_) (fun c_143 => ?_)
                  · refine lv_iconst (v := nI 1) hx hb dL_holds_175 (by decide) ?_
                    refine lv_goto (tgt := 180) hx hb dL_holds_176 (by decide) ?_
                    refine W.eq (g2 := F0 m 180 ls [.int (bI true)]) (by rfl) ?_
                    refine lv_istore (lv' := [(8, .int (bI true)), (9, .int (nI e9)), (1, .ref o), (2, .ref (b 0)), (3, .ref (b 1)), (4, .ref (b 2)), (5, .ref (b 3)), (6, .ref (b 4)), (7, .ref (b 5)), (0, .ref (K.2.2 2))]) hx hb dL_holds_180 hl (by decide) rfl (fun ls hl => ?_)
                    refine lv_iinc (v := nI (e9 + 1)) (lv' := [(9, .int (nI (e9 + 1))), (8, .int (bI true)), (1, .ref o), (2, .ref (b 0)), (3, .ref (b 1)), (4, .ref (b 2)), (5, .ref (b 3)), (6, .ref (b 4)), (7, .ref (b 5)), (0, .ref (K.2.2 2))]) hx hb dL_holds_182 hl (k := 1) rfl (m_inc _) (by decide) rfl (fun ls hl => ?_)
                    refine lv_goto (tgt := 87) hx hb dL_holds_185 (by decide) ?_
                    refine W.widen (k := 40 + 148 * (e9 + 1)) (n := 1000 + 1820 * (e9 + 1)) (by omega) (by omega) ?_
                    exact ihb (e9 + 1) _ _ ls (by omega) (by omega) hSt hS (lv_sub hl [0, 1, 2, 3, 4, 5, 6, 7, 8, 9] rfl)
                  · refine lv_aload_n hx hb dL_holds_146 rfl (lv_at hl 2 rfl) ?_
                    refine lv_aload_n hx hb dL_holds_147 rfl (lv_at hl 3 rfl) ?_
                    refine lv_aload_n hx hb dL_holds_148 rfl (lv_at hl 4 rfl) ?_
                    refine lv_aload hx hb dL_holds_149 (lv_at hl 5 rfl) ?_
                    refine lv_aload hx hb dL_holds_151 (lv_at hl 6 rfl) ?_
                    refine lv_aload hx hb dL_holds_153 (lv_at hl 7 rfl) ?_
                    refine lv_aload hx hb dL_holds_155 (lv_at hl 8 rfl) ?_
                    refine lv_aload_n hx hb dL_holds_157 rfl (lv_at hl 9 rfl) ?_
                    refine lv_sipush (v := nI 400) hx hb dL_holds_158 (by decide) ?_
                    refine lv_iload hx hb dL_holds_161 (lv_at hl 0 rfl) ?_
                    refine m_iadd hx hb dL_holds_163 ?_
                    refine lv_ldc (v := nI 1000000) hx hb hown k139 dL_holds_164 ?_
                    refine m_cSi (rest := [.ref (b 5), .ref (b 4), .ref (b 3), .ref (b 2), .ref (b 1), .ref (b 0), .ref o]) ⟨hx, hb, hml, hown, hts⟩ hE hS (fun _ h => h) (kL_from l K A _ hL (400 + e9) 1000000 (by omega) (by decide) (by decide)) (va_cwS 3 hts gL_holds_L_from rfl rfl rfl (by decide +kernel) ⟨Nat.le_of_ble_eq_true rfl, Nat.le_of_ble_eq_true rfl⟩) rfl rfl hl.1 rfl (Nat.le_of_ble_eq_true rfl) dL_holds_166 ⟨by show _ ≤ 24000; omega, by show _ ≤ 300000; omega⟩ (fun r H1 locs hp hS hk => ?_)
                    obtain ⟨z8, hz8, rfl, rfl⟩ := hp
                    obtain ⟨g, fb, on, fw, dr, fm, vs, ch, ps, hP, hD, hc, hR⟩ := hSt
                    refine m_cSi (rest := []) ⟨hx, hb, hml, hown, hts⟩ hE hS (fun _ h => h) (kL_isTold l K A _ hl0 (fun q => A q ∧ (q < b 0 ∨ b 5 < q)) hsub b hno g hP hD o ad fb on fw dr fm vs ch ps hc (fun q h => ⟨hA q (by rw [← hsz]; exact Nat.le_trans hS.1 h), Or.inr (Nat.lt_of_lt_of_le (lW_lt hP (i := 5) (by decide)) h)⟩) hR z8 hz8) (va_cwS 8 hts gL_holds_L_isTold rfl rfl rfl (by decide +kernel) ⟨Nat.le_of_ble_eq_true rfl, Nat.le_of_ble_eq_true rfl⟩) rfl rfl hl.1 rfl (Nat.le_of_ble_eq_true rfl) dL_holds_169 ⟨by show _ ≤ 24000; omega, by show _ ≤ 300000; omega⟩ (fun r H1 locs hp hS hk => ?_)
                    obtain ⟨rfl, hSt⟩ := hp
                    refine m_if_eq_b (tgt := 179) hx hb dL_holds_172 (by decide) (fun c_172 => ?_) (fun c_172 => ?_)
                    · exact absurd c_172 (by first | decide | exact (show ¬ false = true by decide) | exact (show ¬ true = false by decide))
                    · refine lv_iconst (v := nI 1) hx hb dL_holds_175 (by decide) ?_
                      refine lv_goto (tgt := 180) hx hb dL_holds_176 (by decide) ?_
                      refine W.eq (g2 := F0 m 180 ls [.int (bI true)]) (by rfl) ?_
                      refine lv_istore (lv' := [(8, .int (bI true)), (9, .int (nI e9)), (1, .ref o), (2, .ref (b 0)), (3, .ref (b 1)), (4, .ref (b 2)), (5, .ref (b 3)), (6, .ref (b 4)), (7, .ref (b 5)), (0, .ref (K.2.2 2))]) hx hb dL_holds_180 hl (by decide) rfl (fun ls hl => ?_)
                      refine lv_iinc (v := nI (e9 + 1)) (lv' := [(9, .int (nI (e9 + 1))), (8, .int (bI true)), (1, .ref o), (2, .ref (b 0)), (3, .ref (b 1)), (4, .ref (b 2)), (5, .ref (b 3)), (6, .ref (b 4)), (7, .ref (b 5)), (0, .ref (K.2.2 2))]) hx hb dL_holds_182 hl (k := 1) rfl (m_inc _) (by decide) rfl (fun ls hl => ?_)
                      refine lv_goto (tgt := 87) hx hb dL_holds_185 (by decide) ?_
                      refine W.widen (k := 40 + 148 * (e9 + 1)) (n := 1000 + 1820 * (e9 + 1)) (by omega) (by omega) ?_
                      exact ihb (e9 + 1) _ _ ls (by omega) (by omega) hSt hS (lv_sub hl [0, 1, 2, 3, 4, 5, 6, 7, 8, 9] rfl)
    · refine lv_aload hx hb dL_holds_51 (lv_at hl 6 rfl) ?_
      refine lv_iload hx hb dL_holds_53 (lv_at hl 0 rfl) ?_
      refine lv_iconst (v := nI 1) hx hb dL_holds_55 (by decide) ?_
      refine m_ist6 (i := 4) (n := 9) (f := w4) (g1 := va_up (fun _ _ => 0) 4 (upd w4 k (nI 1))) hx hb hE.k hP hD hc hno hsub hS (fun _ => rfl) (fun _ => rfl) (by omega) (by decide) dL_holds_56 (fun H locs hP hD hc hS => ?_)
      refine lv_iinc (v := nI (k + 1)) (lv' := [(8, .int (nI (k + 1))), (1, .ref o), (2, .ref (b 0)), (3, .ref (b 1)), (4, .ref (b 2)), (5, .ref (b 3)), (6, .ref (b 4)), (7, .ref (b 5)), (0, .ref (K.2.2 2))]) hx hb dL_holds_57 hl (k := 0) rfl (m_inc _) (by decide) rfl (fun ls hl => ?_)
      refine lv_goto (tgt := 44) hx hb dL_holds_60 (by decide) ?_
      exact iha (k + 1) (upd w4 k (nI 1)) _ _ ls (by omega) (by omega) (by omega) (n1_up hw1) (fun t ht => by rw [pk_un (by omega)]; exact hw0 t ht) hc hP hD hS (lv_sub hl [0, 1, 2, 3, 4, 5, 6, 7, 8] rfl)

set_option maxHeartbeats 4000000 in
set_option maxRecDepth 100000 in
theorem kL_isHeld (l : Launch) (K : m_K) (A : Nat → Prop) (H0 : Heap) (hl0 : l.stackTraces = false) (hL : K.2.2 3 ≤ 260) (hA : ∀ q, H0.size ≤ q → A q) : Met l yL_isHeld wsL_isHeld ({ frames := 14, cells := 24000, slots := 300000, locals := 361 } : Room) (m_Pc K A H0 [.ref (K.2.2 2)]) (va_Qi (fun r H1 => r = bI true ∧ True) m_B A) 24000 300000 A := by
  refine m_ofH (hh := [(0, 4, 5, 40), (0, 4, 8, 51), (0, 4, 11, 46)]) (by decide) rfl (Nat.le_of_ble_eq_true rfl) ?_
  intro p e s m args below meth c ls hx hb hr hml hown hts hlk htab hE hsz hS hl
  have hl : lv_has ls 2 [(0, .ref (K.2.2 2))] := hl
  refine lv_aload_n hx hb dL_isHeld_0 rfl (lv_at hl 0 rfl) ?_
  refine m_cSi (rest := []) ⟨hx, hb, hml, hown, hts⟩ hE hS (fun _ h => h) (kL_holds l K A _ hl0 hL hA) (va_cwS 1 hts gL_isHeld_L_holds rfl rfl rfl (by decide +kernel) ⟨Nat.le_of_ble_eq_true rfl, Nat.le_of_ble_eq_true rfl⟩) rfl rfl hl.1 rfl (Nat.le_of_ble_eq_true rfl) dL_isHeld_1 ⟨Nat.le_of_ble_eq_true rfl, Nat.le_of_ble_eq_true rfl⟩ (fun r H1 locs hp hS hk => ?_)
  obtain ⟨rfl, -⟩ := hp
  exact m_zret hx hb hr hlk hS (Nat.le_of_ble_eq_true rfl) (Nat.le_of_ble_eq_true rfl) dL_isHeld_4 (⟨rfl, trivial⟩)
