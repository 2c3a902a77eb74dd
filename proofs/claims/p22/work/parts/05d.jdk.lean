
set_option maxHeartbeats 4000000 in
set_option maxRecDepth 100000 in
theorem kJ3_checkIndex_8e157 (l : Launch) (K : m_K) (A : Nat → Prop) (H0 : Heap) (i n : Nat) (hin : i < n) (hn : n < 2147483648) : Met l yJ3_checkIndex_8e157 wsJ3_checkIndex_8e157 ({ frames := 0, cells := 0, slots := 0, locals := 0 } : Room) (m_Pc K A H0 [.int (nI i), .int (nI n), .null]) (va_Qi (fun r H1 => r = nI i ∧ H0 = H1) m_B A) 0 0 A := by
  refine m_ofW (by decide) rfl (Nat.le_of_ble_eq_true rfl) ?_
  intro p e s m args below meth c ls hx hb hr hml hown hts hlk hnm hE hsz hS hl
  have hl : lv_has ls 3 [(0, .int (nI i)), (1, .int (nI n)), (2, .null)] := hl
  refine lv_iload_n hx hb dJ3_checkIndex_8e157_0 rfl (lv_at hl 0 rfl) ?_
  refine m_if_lt (tgt := 9) hx hb (by omega) dJ3_checkIndex_8e157_1 (by decide) ?_
  refine lv_iload_n hx hb dJ3_checkIndex_8e157_4 rfl (lv_at hl 0 rfl) ?_
  refine lv_iload_n hx hb dJ3_checkIndex_8e157_5 rfl (lv_at hl 1 rfl) ?_
  refine m_icmp_lt (tgt := 16) hx hb (by omega) (by omega) dJ3_checkIndex_8e157_6 (by decide) (fun c_6 => ?_) (fun c_6 => ?_)
  · refine lv_iload_n hx hb dJ3_checkIndex_8e157_16 rfl (lv_at hl 0 rfl) ?_
    exact m_iret hx hb hr hlk hS (Nat.le_of_ble_eq_true rfl) (Nat.le_of_ble_eq_true rfl) dJ3_checkIndex_8e157_17 (⟨rfl, rfl⟩)
  · exact absurd hin c_6

set_option maxHeartbeats 4000000 in
set_option maxRecDepth 100000 in
theorem kJ15_checkIndex_7cf53 (l : Launch) (K : m_K) (A : Nat → Prop) (H0 : Heap) (i n : Nat) (hin : i < n) (hn : n < 2147483648) : Met l yJ15_checkIndex_7cf53 wsJ15_checkIndex_7cf53 ({ frames := 1, cells := 0, slots := 0, locals := 22 } : Room) (m_Pc K A H0 [.int (nI i), .int (nI n)]) (va_Qi (fun r H1 => r = nI i ∧ H0 = H1) m_B A) 0 0 A := by
  refine m_ofW (by decide) rfl (Nat.le_of_ble_eq_true rfl) ?_
  intro p e s m args below meth c ls hx hb hr hml hown hts hlk hnm hE hsz hS hl
  have hl : lv_has ls 2 [(0, .int (nI i)), (1, .int (nI n))] := hl
  refine lv_iload_n hx hb dJ15_checkIndex_7cf53_0 rfl (lv_at hl 0 rfl) ?_
  refine lv_iload_n hx hb dJ15_checkIndex_7cf53_1 rfl (lv_at hl 1 rfl) ?_
  refine lv_null hx hb dJ15_checkIndex_7cf53_2 ?_
  refine m_cSi (rest := []) ⟨hx, hb, hml, hown, hts⟩ hE hS (fun _ h => h) (kJ3_checkIndex_8e157 l K A H0 i n hin hn) (va_cwS 3 hts gJ15_checkIndex_7cf53_J3_checkIndex_8e157 rfl rfl rfl (by decide +kernel) ⟨Nat.le_of_ble_eq_true rfl, Nat.le_of_ble_eq_true rfl⟩) rfl rfl hl.1 rfl (Nat.le_of_ble_eq_true rfl) dJ15_checkIndex_7cf53_3 ⟨Nat.le_of_ble_eq_true rfl, Nat.le_of_ble_eq_true rfl⟩ (fun r H1 locs hp hS hk => ?_)
  obtain ⟨rfl, rfl⟩ := hp
  exact m_iret hx hb hr hlk hS (Nat.le_of_ble_eq_true rfl) (Nat.le_of_ble_eq_true rfl) dJ15_checkIndex_7cf53_6 (⟨rfl, rfl⟩)

set_option maxHeartbeats 4000000 in
set_option maxRecDepth 100000 in
theorem kJx4a65c_size_8abf5 (l : Launch) (K : m_K) (A : Nat → Prop) (H0 : Heap) (ws : va_W) (hP : va_P K.1 vwCl ws H0) (q0 aL : Nat) (md : Int32) (ed : Value) (n : Nat) (h0 : ws[q0]? = some (aL, .inr (0, [.int md, ed, .int (nI n)]))) : Met l yJx4a65c_size_8abf5 wsJx4a65c_size_8abf5 ({ frames := 0, cells := 0, slots := 0, locals := 0 } : Room) (m_Pc K A H0 [.ref aL]) (va_Qi (fun r H1 => r = nI n ∧ H0 = H1) m_B A) 0 0 A := by
  refine m_ofW (by decide) rfl (Nat.le_of_ble_eq_true rfl) ?_
  intro p e s m args below meth c ls hx hb hr hml hown hts hlk hnm hE hsz hS hl
  have hl : lv_has ls 1 [(0, .ref aL)] := hl
  have iJx4a65c : ∀ w ∈ wsJx4a65c0, w ∈ wsJx4a65c_size_8abf5 := by decide +kernel
  have f48 := hts (.fieldLink RJx4a65c 48 "java/util/ArrayList" "size" "I") (by decide +kernel)
  refine lv_aload_n hx hb dJx4a65c_size_8abf5_0 rfl (lv_at hl 0 rfl) ?_
  refine va_get (D := K.1) (ci := 0) (v := .int (nI n)) (C := RJx4a65c) (T := TJx4a65c) (N := 3) hx hb hts iJx4a65c hown hE.k hP q0 h0 rfl 2 (by decide) f48 (fun _ h9 => h9) rfl dJx4a65c_size_8abf5_1 ?_
  exact m_iret hx hb hr hlk hS (Nat.le_of_ble_eq_true rfl) (Nat.le_of_ble_eq_true rfl) dJx4a65c_size_8abf5_4 (⟨rfl, rfl⟩)

set_option maxHeartbeats 4000000 in
set_option maxRecDepth 100000 in
theorem kJx4a65c_elementData_915e3 (l : Launch) (K : m_K) (A : Nat → Prop) (H0 : Heap) (ws : va_W) (hP : va_P K.1 vwCl ws H0) (q0 q1 aL aE : Nat) (md : Int32) (n cap : Nat) (fE : Nat → Option Nat) (h0 : ws[q0]? = some (aL, .inr (0, [.int md, .ref aE, .int (nI n)]))) (h1 : ws[q1]? = some (aE, .inl (K.2.1 3, cap, .inr (.inr (.inr (.inr fE)))))) (i : Nat) (hi : i < cap) (hc : cap < 2147483648) : Met l yJx4a65c_elementData_915e3 wsJx4a65c_elementData_915e3 ({ frames := 0, cells := 0, slots := 0, locals := 0 } : Room) (m_Pc K A H0 [.ref aL, .int (nI i)]) (va_Qq (fun r H1 => r = fE i ∧ H0 = H1) m_B A) 0 0 A := by
  refine m_ofW (by decide) rfl (Nat.le_of_ble_eq_true rfl) ?_
  intro p e s m args below meth c ls hx hb hr hml hown hts hlk hnm hE hsz hS hl
  have hl : lv_has ls 2 [(0, .ref aL), (1, .int (nI i))] := hl
  have iJx4a65c : ∀ w ∈ wsJx4a65c0, w ∈ wsJx4a65c_elementData_915e3 := by decide +kernel
  have f9 := hts (.fieldLink RJx4a65c 9 "java/util/ArrayList" "elementData" "[Ljava/lang/Object;") (by decide +kernel)
  refine lv_aload_n hx hb dJx4a65c_elementData_915e3_0 rfl (lv_at hl 0 rfl) ?_
  refine va_get (D := K.1) (ci := 0) (v := .ref aE) (C := RJx4a65c) (T := TJx4a65c) (N := 3) hx hb hts iJx4a65c hown hE.k hP q0 h0 rfl 1 (by decide) f9 (fun _ h9 => h9) rfl dJx4a65c_elementData_915e3_1 ?_
  refine lv_iload_n hx hb dJx4a65c_elementData_915e3_4 rfl (lv_at hl 1 rfl) ?_
  refine m_aald3 hx hb hE.k hP q1 h1 (by omega) (by omega) rfl dJx4a65c_elementData_915e3_5 ?_
  exact m_qret (r := fE i) hx hb hr (Or.inl ⟨_, rfl⟩) hlk hS (Nat.le_of_ble_eq_true rfl) (Nat.le_of_ble_eq_true rfl) dJx4a65c_elementData_915e3_6 (⟨rfl, rfl⟩)

set_option maxHeartbeats 4000000 in
set_option maxRecDepth 100000 in
theorem kJx4a65c_get_915e3 (l : Launch) (K : m_K) (A : Nat → Prop) (H0 : Heap) (ws : va_W) (hP : va_P K.1 vwCl ws H0) (q0 q1 aL aE : Nat) (md : Int32) (n cap : Nat) (fE : Nat → Option Nat) (h0 : ws[q0]? = some (aL, .inr (0, [.int md, .ref aE, .int (nI n)]))) (h1 : ws[q1]? = some (aE, .inl (K.2.1 3, cap, .inr (.inr (.inr (.inr fE)))))) (i : Nat) (hi : i < n) (hnc : n ≤ cap) (hc : cap < 2147483648) : Met l yJx4a65c_get_915e3 wsJx4a65c_get_915e3 ({ frames := 2, cells := 0, slots := 0, locals := 43 } : Room) (m_Pc K A H0 [.ref aL, .int (nI i)]) (va_Qq (fun r H1 => r = fE i ∧ H0 = H1) m_B A) 0 0 A := by
  refine m_ofW (by decide) rfl (Nat.le_of_ble_eq_true rfl) ?_
  intro p e s m args below meth c ls hx hb hr hml hown hts hlk hnm hE hsz hS hl
  have hl : lv_has ls 2 [(0, .ref aL), (1, .int (nI i))] := hl
  have iJx4a65c : ∀ w ∈ wsJx4a65c0, w ∈ wsJx4a65c_get_915e3 := by decide +kernel
  have f48 := hts (.fieldLink RJx4a65c 48 "java/util/ArrayList" "size" "I") (by decide +kernel)
  refine lv_iload_n hx hb dJx4a65c_get_915e3_0 rfl (lv_at hl 1 rfl) ?_
  refine lv_aload_n hx hb dJx4a65c_get_915e3_1 rfl (lv_at hl 0 rfl) ?_
  refine va_get (D := K.1) (ci := 0) (v := .int (nI n)) (C := RJx4a65c) (T := TJx4a65c) (N := 3) hx hb hts iJx4a65c hown hE.k hP q0 h0 rfl 2 (by decide) f48 (fun _ h9 => h9) rfl dJx4a65c_get_915e3_2 ?_
  refine m_cSi (rest := []) ⟨hx, hb, hml, hown, hts⟩ hE hS (fun _ h => h) (kJ15_checkIndex_7cf53 l K A H0 i n hi (by omega)) (va_cwS 2 hts gJx4a65c_get_915e3_J15_checkIndex_7cf53 rfl rfl rfl (by decide +kernel) ⟨Nat.le_of_ble_eq_true rfl, Nat.le_of_ble_eq_true rfl⟩) rfl rfl hl.1 rfl (Nat.le_of_ble_eq_true rfl) dJx4a65c_get_915e3_5 ⟨Nat.le_of_ble_eq_true rfl, Nat.le_of_ble_eq_true rfl⟩ (fun r H1 locs hp hS hk => ?_)
  obtain ⟨rfl, rfl⟩ := hp
  refine lv_pop hx hb dJx4a65c_get_915e3_8 rfl ?_
  refine lv_aload_n hx hb dJx4a65c_get_915e3_9 rfl (lv_at hl 0 rfl) ?_
  refine lv_iload_n hx hb dJx4a65c_get_915e3_10 rfl (lv_at hl 1 rfl) ?_
  refine m_cVq (rest := []) ⟨hx, hb, hml, hown, hts⟩ hE hS (fun _ h => h) (kJx4a65c_elementData_915e3 l K A H0 ws hP q0 q1 aL aE md n cap fE h0 h1 i (by omega) hc) (cwV 1 hts gJx4a65c_get_915e3_Jx4a65c_elementData_915e3 rfl rfl rfl (by decide +kernel) ⟨Nat.le_of_ble_eq_true rfl, Nat.le_of_ble_eq_true rfl⟩) (va_recv hE.k hP (ci := 0) (q0 := q0) rfl h0) rfl rfl hl.1 rfl (Nat.le_of_ble_eq_true rfl) dJx4a65c_get_915e3_11 ⟨Nat.le_of_ble_eq_true rfl, Nat.le_of_ble_eq_true rfl⟩ (fun r H1 locs hp hS hk => ?_)
  obtain ⟨rfl, rfl⟩ := hp
  exact m_qret (r := fE i) hx hb hr (Or.inl ⟨_, rfl⟩) hlk hS (Nat.le_of_ble_eq_true rfl) (Nat.le_of_ble_eq_true rfl) dJx4a65c_get_915e3_14 (⟨rfl, rfl⟩)

set_option maxHeartbeats 4000000 in
set_option maxRecDepth 100000 in
theorem kJ8_newLength_cabcc (l : Launch) (K : m_K) (A : Nat → Prop) (H0 : Heap) (a b d : Nat) (ha : 0 < a) (ha2 : a < 65536) (hb9 : b < 65536) (hd : d < 65536) : Met l yJ8_newLength_cabcc wsJ8_newLength_cabcc ({ frames := 1, cells := 0, slots := 0, locals := 40 } : Room) (m_Pc K A H0 [.int (nI a), .int (nI b), .int (nI d)]) (va_Qi (fun r H1 => r = nI (a + max b d) ∧ H0 = H1) m_B A) 0 0 A := by
  refine m_ofW (by decide) rfl (Nat.le_of_ble_eq_true rfl) ?_
  intro p e s m args below meth c ls hx hb hr hml hown hts hlk hnm hE hsz hS hl
  have hl : lv_has ls 4 [(0, .int (nI a)), (1, .int (nI b)), (2, .int (nI d))] := hl
  have mm194 := hts (.methodLink RJ8 194 Lib.Math.max.name) (by decide +kernel)
  have msmax := hts (.static Lib.Math.max.name) (by decide +kernel)
  have mini := hts (.initialized "java/lang/Math") (by decide +kernel)
  have mcmax := hts (.code Lib.Math.max.name Lib.Math.max.code 2 (some .int)) (by decide +kernel)
  have ldc200 := hts (.constant RJ8 200 (2147483639)) (by decide +kernel)
  refine lv_iload_n hx hb dJ8_newLength_cabcc_0 rfl (lv_at hl 0 rfl) ?_
  refine lv_iload_n hx hb dJ8_newLength_cabcc_1 rfl (lv_at hl 1 rfl) ?_
  refine lv_iload_n hx hb dJ8_newLength_cabcc_2 rfl (lv_at hl 2 rfl) ?_
  refine m_mmax hx hb (hml.trans hl.1.symm) hown mm194 msmax mini mcmax (Nat.le_of_ble_eq_true rfl) (Nat.le_of_ble_eq_true rfl) (Nat.le_of_ble_eq_true rfl) (Nat.le_of_ble_eq_true rfl) (by omega) (by omega) dJ8_newLength_cabcc_3 ?_
  refine m_iadd hx hb dJ8_newLength_cabcc_6 ?_
  refine lv_istore_n (lv' := [(3, .int (nI (a + (max b d)))), (0, .int (nI a)), (1, .int (nI b)), (2, .int (nI d))]) hx hb dJ8_newLength_cabcc_7 rfl hl (by decide) rfl (fun ls hl => ?_)
  refine lv_iconst (v := nI 0) hx hb dJ8_newLength_cabcc_8 (by decide) ?_
  refine lv_iload_n hx hb dJ8_newLength_cabcc_9 rfl (lv_at hl 0 rfl) ?_
  refine m_icmp_ge (tgt := 21) hx hb (by omega) (by omega) dJ8_newLength_cabcc_10 (by decide) (fun c_10 => ?_) (fun c_10 => ?_)
  · exact absurd c_10 (by omega)
  · refine lv_iload_n hx hb dJ8_newLength_cabcc_13 rfl (lv_at hl 0 rfl) ?_
    refine lv_ldc (v := nI 2147483639) hx hb hown ldc200 dJ8_newLength_cabcc_14 ?_
    refine m_icmp_gt (tgt := 21) hx hb (by omega) (by omega) dJ8_newLength_cabcc_16 (by decide) (fun c_16 => ?_) (fun c_16 => ?_)
    · exact absurd c_16 (by omega)
    · refine lv_iload_n hx hb dJ8_newLength_cabcc_19 rfl (lv_at hl 0 rfl) ?_
      exact m_iret hx hb hr hlk hS (Nat.le_of_ble_eq_true rfl) (Nat.le_of_ble_eq_true rfl) dJ8_newLength_cabcc_20 (⟨rfl, rfl⟩)

set_option maxHeartbeats 4000000 in
set_option maxRecDepth 100000 in
theorem kJ7_copyOf_6403c (l : Launch) (K : m_K) (A : Nat → Prop) (H0 : Heap) (ws : va_W) (hP : va_P K.1 vwCl ws H0) (hD : va_D A ws) (hA : ∀ q, H0.size ≤ q → A q) (q1 aE cap : Nat) (fE : Nat → Option Nat) (h1 : ws[q1]? = some (aE, .inl (K.2.1 3, cap, .inr (.inr (.inr (.inr fE)))))) (hel : ∀ i, i < cap → ∀ y, fE i = some y → ∃ vs, va_P K.1 vwCl [(y, .inr (2, vs))] H0) (k : Nat) (hk9 : cap ≤ k) (hk8 : k ≤ 22) : Met l yJ7_copyOf_6403c wsJ7_copyOf_6403c ({ frames := 1, cells := 1, slots := 22, locals := 40 } : Room) (m_Pc K A H0 [.ref aE, .int (nI k), .ref (K.2.2 1)]) (va_Qq (fun r H1 => ∃ q, r = some q ∧ va_P K.1 vwCl (ws ++ [(q, .inl (K.2.1 3, k, .inr (.inr (.inr (.inr (va_cpy fE (fun _ => none) 0 0 cap))))))]) H1 ∧ va_D A (ws ++ [(q, .inl (K.2.1 3, k, .inr (.inr (.inr (.inr (va_cpy fE (fun _ => none) 0 0 cap))))))])) m_B A) 1 22 A := by
  refine m_ofW (by decide) rfl (Nat.le_of_ble_eq_true rfl) ?_
  intro p e s m args below meth c ls hx hb hr hml hown hts hlk hnm hE hsz hS hl
  have hl : lv_has ls 4 [(0, .ref aE), (1, .int (nI k)), (2, .ref (K.2.2 1))] := hl
  have hA0 : ∀ q, s.heap.size ≤ q → A q := fun q h => hA q (by rw [← hsz]; exact h)
  have cl110 := hts (.classLink RJ7 110 "[Ljava/lang/Object;") (by decide +kernel)
  have cl2 := hts (.classLink RJ7 2 "java/lang/Object") (by decide +kernel)
  have mm304 := hts (.methodLink RJ7 304 Lib.Math.min.name) (by decide +kernel)
  have msmin := hts (.static Lib.Math.min.name) (by decide +kernel)
  have mini := hts (.initialized "java/lang/Math") (by decide +kernel)
  have mcmin := hts (.code Lib.Math.min.name Lib.Math.min.code 2 (some .int)) (by decide +kernel)
  have ac150 := hts (.methodLink RJ7 150 arraycopyName) (by decide +kernel)
  have acn := hts (.native arraycopyName) (by decide +kernel)
  have acs := hts (.static arraycopyName) (by decide +kernel)
  have aci := hts (.initialized "java/lang/System") (by decide +kernel)
  refine lv_aload_n hx hb dJ7_copyOf_6403c_0 rfl (lv_at hl 2 rfl) ?_
  refine va_ldcM hx hb hown cl110 hE.2.2.2.2.2.2.2.2.2.1 dJ7_copyOf_6403c_1 ?_
  refine lv_acmp_ne (rx := some (K.2.2 1)) (ry := some (K.2.2 1)) (tgt := 13) hx hb dJ7_copyOf_6403c_3 (by decide) (fun z => absurd rfl z) (fun _ => ?_)
  refine lv_iload_n hx hb dJ7_copyOf_6403c_6 rfl (lv_at hl 1 rfl) ?_
  refine m_newq3 hx hb hE.k hP hD hS hA0 hown cl2 hE.2.2.2.2.2.2.2.2.2.2.1 (by omega) (Nat.le_of_ble_eq_true rfl) (by show 0 + k ≤ 22; omega) dJ7_copyOf_6403c_7 (fun q5 H hq5 hs5 hP hD hS => ?_)
  have hP : va_P K.1 vwCl (ws ++ [(q5, .inl (K.2.1 3, k, .inr (.inr (.inr (.inr (fun _ => none))))))]) H := hP
  have hD : va_D A (ws ++ [(q5, .inl (K.2.1 3, k, .inr (.inr (.inr (.inr (fun _ => none))))))]) := hD
  refine W.widen (k := 1) (n := 22) (by omega) (by omega) ?_
  refine lv_goto (tgt := 24) hx hb dJ7_copyOf_6403c_10 (by decide) ?_
  refine lv_astore_n (lv' := [(3, .ref q5), (0, .ref aE), (1, .int (nI k)), (2, .ref (K.2.2 1))]) hx hb dJ7_copyOf_6403c_24 rfl hl (by decide) rfl (fun ls hl => ?_)
  refine lv_aload_n hx hb dJ7_copyOf_6403c_25 rfl (lv_at hl 1 rfl) ?_
  refine lv_iconst (v := nI 0) hx hb dJ7_copyOf_6403c_26 (by decide) ?_
  refine lv_aload_n hx hb dJ7_copyOf_6403c_27 rfl (lv_at hl 0 rfl) ?_
  refine lv_iconst (v := nI 0) hx hb dJ7_copyOf_6403c_28 (by decide) ?_
  refine lv_aload_n hx hb dJ7_copyOf_6403c_29 rfl (lv_at hl 1 rfl) ?_
  refine va_alen (v := nI cap) hx hb hE.k hP q1 3 (m_apl h1) rfl rfl dJ7_copyOf_6403c_30 ?_
  refine lv_iload_n hx hb dJ7_copyOf_6403c_31 rfl (lv_at hl 2 rfl) ?_
  refine m_mmin hx hb (hml.trans hl.1.symm) hown mm304 msmin mini mcmin (Nat.le_of_ble_eq_true rfl) (Nat.le_of_ble_eq_true rfl) (Nat.le_of_ble_eq_true rfl) (Nat.le_of_ble_eq_true rfl) (by omega) (by omega) dJ7_copyOf_6403c_32 ?_
  rw [show min cap k = cap by omega]
  refine va_copyM (E0 := "java/lang/Object") (E1 := "java/lang/Object") hx hb (hml.trans hl.1.symm) hown ac150 acn acs aci hE.k hP hD hS q1 ws.length 3 3 (m_apl h1) m_apr rfl rfl (nI_pos (by omega)) (nI_pos (by omega)) (nI_pos (by omega)) (by rw [nI_clamp (by omega), nI_clamp (by omega)]; omega) (by rw [nI_clamp (by omega), nI_clamp (by omega)]; omega) (fun i hi y hy => by
        rw [nI_clamp (by omega)] at hi hy
        obtain ⟨vs, hv⟩ := hel (0 + i) (by omega) y hy
        exact va_rAny (ci := 2) (q0 := 0) hE.k (hs5.P hv) rfl rfl (fun comp c0 e1 e2 => by
          obtain ⟨c3, t3, f1, f2, f3⟩ := Cond.castable_spec (va_Nw.use (A := args) rfl (hE.2.2.2.2.2.1 ("PhraseCatalogue$Pair", "java/lang/Object") (by simp [m_cas])))
          cases e1.symm.trans f2
          cases e2.symm.trans f1
          exact f3)) (Nat.le_of_ble_eq_true rfl) (Nat.le_of_ble_eq_true rfl) dJ7_copyOf_6403c_35 (fun H locs hP hD hS => ?_)
  rw [nI_clamp (show 0 < 2 ^ 31 by omega), nI_clamp (show cap < 2 ^ 31 by omega)] at hP hD
  rw [m_setr] at hP hD
  have hP : va_P K.1 vwCl (ws ++ [(q5, .inl (K.2.1 3, k, .inr (.inr (.inr (.inr (va_cpy fE (fun _ => none) 0 0 cap))))))]) H := hP
  have hD : va_D A (ws ++ [(q5, .inl (K.2.1 3, k, .inr (.inr (.inr (.inr (va_cpy fE (fun _ => none) 0 0 cap))))))]) := hD
  refine lv_aload_n hx hb dJ7_copyOf_6403c_38 rfl (lv_at hl 0 rfl) ?_
  exact m_qret (r := some q5) hx hb hr (Or.inr ⟨_, rfl⟩) hlk hS (Nat.le_of_ble_eq_true rfl) (Nat.le_of_ble_eq_true rfl) dJ7_copyOf_6403c_39 (⟨q5, rfl, hP, hD⟩)

set_option maxHeartbeats 4000000 in
set_option maxRecDepth 100000 in
theorem kJ7_copyOf_1904c (l : Launch) (K : m_K) (A : Nat → Prop) (H0 : Heap) (ws : va_W) (hP : va_P K.1 vwCl ws H0) (hD : va_D A ws) (hA : ∀ q, H0.size ≤ q → A q) (q1 aE cap : Nat) (fE : Nat → Option Nat) (h1 : ws[q1]? = some (aE, .inl (K.2.1 3, cap, .inr (.inr (.inr (.inr fE)))))) (hel : ∀ i, i < cap → ∀ y, fE i = some y → ∃ vs, va_P K.1 vwCl [(y, .inr (2, vs))] H0) (k : Nat) (hk9 : cap ≤ k) (hk8 : k ≤ 22) : Met l yJ7_copyOf_1904c wsJ7_copyOf_1904c ({ frames := 2, cells := 1, slots := 22, locals := 63 } : Room) (m_Pc K A H0 [.ref aE, .int (nI k)]) (va_Qq (fun r H1 => ∃ q, r = some q ∧ va_P K.1 vwCl (ws ++ [(q, .inl (K.2.1 3, k, .inr (.inr (.inr (.inr (va_cpy fE (fun _ => none) 0 0 cap))))))]) H1 ∧ va_D A (ws ++ [(q, .inl (K.2.1 3, k, .inr (.inr (.inr (.inr (va_cpy fE (fun _ => none) 0 0 cap))))))])) m_B A) 1 22 A := by
  refine m_ofW (by decide) rfl (Nat.le_of_ble_eq_true rfl) ?_
  intro p e s m args below meth c ls hx hb hr hml hown hts hlk hnm hE hsz hS hl
  have hl : lv_has ls 2 [(0, .ref aE), (1, .int (nI k))] := hl
  have hA0 : ∀ q, s.heap.size ≤ q → A q := fun q h => hA q (by rw [← hsz]; exact h)
  have gl := hts (.methodLink RJ7 86 ⟨"java/lang/Object", "getClass", "()Ljava/lang/Class;"⟩) (by decide +kernel)
  have gs := hts (.selects "[Ljava/lang/Object;" ⟨"java/lang/Object", "getClass", "()Ljava/lang/Class;"⟩ ⟨"java/lang/Object", "getClass", "()Ljava/lang/Class;"⟩) (by decide +kernel)
  have gi := hts (.instanceMethod ⟨"java/lang/Object", "getClass", "()Ljava/lang/Class;"⟩) (by decide +kernel)
  have gn := hts (.native ⟨"java/lang/Object", "getClass", "()Ljava/lang/Class;"⟩) (by decide +kernel)
  refine lv_aload_n hx hb dJ7_copyOf_1904c_0 rfl (lv_at hl 0 rfl) ?_
  refine lv_iload_n hx hb dJ7_copyOf_1904c_1 rfl (lv_at hl 1 rfl) ?_
  refine lv_aload_n hx hb dJ7_copyOf_1904c_2 rfl (lv_at hl 0 rfl) ?_
  refine va_getC (C := "[Ljava/lang/Object;") hx hb (hml.trans hl.1.symm) hown gl (va_Nw.use rfl (hE.2.2.2.2.1 m_gc (by simp [m_dec]))) gs gi gn hE.2.2.2.2.2.2.2.2.2.1 ⟨_, hP q1 _ h1, rfl, va_nmO (hE.k.2 3 _ rfl).2 rfl⟩ (Nat.le_of_ble_eq_true rfl) (Nat.le_of_ble_eq_true rfl) dJ7_copyOf_1904c_3 ?_
  refine m_cSq (rest := []) ⟨hx, hb, hml, hown, hts⟩ hE hS (fun _ h => h) (kJ7_copyOf_6403c l K A H0 ws hP hD hA q1 aE cap fE h1 hel k hk9 hk8) (va_cwS 3 hts gJ7_copyOf_1904c_J7_copyOf_6403c rfl rfl rfl (by decide +kernel) ⟨Nat.le_of_ble_eq_true rfl, Nat.le_of_ble_eq_true rfl⟩) rfl rfl hl.1 rfl (Nat.le_of_ble_eq_true rfl) dJ7_copyOf_1904c_6 ⟨Nat.le_of_ble_eq_true rfl, Nat.le_of_ble_eq_true rfl⟩ (fun r H locs hp hS hk => ?_)
  obtain ⟨q5, rfl, hP, hD⟩ := hp
  exact m_qret (r := some q5) hx hb hr (Or.inr ⟨_, rfl⟩) hlk hS (Nat.le_of_ble_eq_true rfl) (Nat.le_of_ble_eq_true rfl) dJ7_copyOf_1904c_9 (⟨q5, rfl, hP, hD⟩)
