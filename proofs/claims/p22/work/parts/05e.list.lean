
set_option maxHeartbeats 4000000 in
set_option maxRecDepth 100000 in
theorem kGrowIB (l : Launch) (K : m_K) (A : Nat → Prop) (H0 : Heap) (o : Nat) (ad : Nat → Nat) (f : Nat → Nat → Int32) (d : Int32) (ft : Nat → Option Nat) (md : Int32) (n : Nat) (T : va_W) (ie aE cap : Nat) (fE : Nat → Option Nat) (hie : T[ie]? = some (aE, .inl (K.2.1 3, cap, .inr (.inr (.inr (.inr fE)))))) (hP : va_P K.1 vwCl (cW K o ad f d ft [.int md, .ref aE, .int (nI n)] T) H0) (hD : va_D A (cW K o ad f d ft [.int md, .ref aE, .int (nI n)] T)) (hA : ∀ q, H0.size ≤ q → A q) (hel : ∀ i, i < n → ∀ y, fE i = some y → ∃ (j : Nat) (vs : List Value), T[j]? = some (y, .inr (2, vs))) (k9 : Nat) (hn : n = cap) (hc : 2 ≤ cap) (hc2 : cap ≤ 15) (hk9 : cap + cap / 2 = k9) (hk8 : k9 ≤ 22) : Met l yJx4a65c_grow_92f84 wsJx4a65c_grow_92f84 ({ frames := 3, cells := 1, slots := 22, locals := 84 } : Room) (m_Pc K A H0 [.ref (ad 8), .int (nI (n + 1))]) (va_Qq (fun r H1 => ∃ q, r = some q ∧ va_P K.1 vwCl (cW K o ad f d ft [.int md, .ref q, .int (nI n)] (T ++ [(q, .inl (K.2.1 3, k9, .inr (.inr (.inr (.inr (va_cpy fE (fun _ => none) 0 0 cap))))))])) H1 ∧ va_D A (cW K o ad f d ft [.int md, .ref q, .int (nI n)] (T ++ [(q, .inl (K.2.1 3, k9, .inr (.inr (.inr (.inr (va_cpy fE (fun _ => none) 0 0 cap))))))]))) m_B A) 1 22 A := by
  refine m_ofW (by decide) rfl (Nat.le_of_ble_eq_true rfl) ?_
  intro p e s m args below meth c ls hx hb hr hml hown hts hlk hnm hE hsz hS hl
  have hl : lv_has ls 4 [(0, .ref (ad 8)), (1, .int (nI (n + 1)))] := hl
  have hA0 : ∀ q, s.heap.size ≤ q → A q := fun q h => hA q (by rw [← hsz]; exact h)
  have iJx4a65c : ∀ w ∈ wsJx4a65c0, w ∈ wsJx4a65c_grow_92f84 := by decide +kernel
  have f9 := hts (.fieldLink RJx4a65c 9 "java/util/ArrayList" "elementData" "[Ljava/lang/Object;") (by decide +kernel)
  refine lv_aload_n hx hb dJx4a65c_grow_92f84_0 rfl (lv_at hl 0 rfl) ?_
  refine va_get (D := K.1) (ci := 0) (v := .ref aE) (C := RJx4a65c) (T := TJx4a65c) (N := 3) hx hb hts iJx4a65c hown hE.k hP 9 rfl rfl 1 (by decide) f9 (fun _ h9 => h9) rfl dJx4a65c_grow_92f84_1 ?_
  refine va_alen (v := nI cap) hx hb hE.k hP (ie + 10) 3 (cW_t hie) rfl rfl dJx4a65c_grow_92f84_4 ?_
  refine lv_istore_n (lv' := [(2, .int (nI cap)), (0, .ref (ad 8)), (1, .int (nI (n + 1)))]) hx hb dJx4a65c_grow_92f84_5 rfl hl (by decide) rfl (fun ls hl => ?_)
  refine lv_iload_n hx hb dJx4a65c_grow_92f84_6 rfl (lv_at hl 0 rfl) ?_
  refine m_if_gt (tgt := 20) hx hb (by omega) dJx4a65c_grow_92f84_7 (by decide) (fun c_7 => ?_) (fun c_7 => ?_)
  · refine lv_iload_n hx hb dJx4a65c_grow_92f84_20 rfl (lv_at hl 0 rfl) ?_
    refine lv_iload_n hx hb dJx4a65c_grow_92f84_21 rfl (lv_at hl 2 rfl) ?_
    refine lv_iload_n hx hb dJx4a65c_grow_92f84_22 rfl (lv_at hl 0 rfl) ?_
    refine m_isub hx hb (by omega) dJx4a65c_grow_92f84_23 ?_
    refine lv_iload_n hx hb dJx4a65c_grow_92f84_24 rfl (lv_at hl 0 rfl) ?_
    refine lv_iconst (v := nI 1) hx hb dJx4a65c_grow_92f84_25 (by decide) ?_
    refine m_ishr1 hx hb (by omega) dJx4a65c_grow_92f84_26 ?_
    refine m_cSi (rest := []) ⟨hx, hb, hml, hown, hts⟩ hE hS (fun _ h => h) (kJ8_newLength_cabcc l K A H0 cap (n + 1 - cap) (cap / 2) (by omega) (by omega) (by omega) (by omega)) (va_cwS 3 hts gJx4a65c_grow_92f84_J8_newLength_cabcc rfl rfl rfl (by decide +kernel) ⟨Nat.le_of_ble_eq_true rfl, Nat.le_of_ble_eq_true rfl⟩) rfl rfl hl.1 rfl (Nat.le_of_ble_eq_true rfl) dJx4a65c_grow_92f84_27 ⟨Nat.le_of_ble_eq_true rfl, Nat.le_of_ble_eq_true rfl⟩ (fun r H1 locs hp hS hk => ?_)
    obtain ⟨rfl, rfl⟩ := hp
    rw [show cap + max (n + 1 - cap) (cap / 2) = k9 by omega]
    refine lv_istore_n (lv' := [(3, .int (nI k9)), (2, .int (nI cap)), (0, .ref (ad 8)), (1, .int (nI (n + 1)))]) hx hb dJx4a65c_grow_92f84_30 rfl hl (by decide) rfl (fun ls hl => ?_)
    refine lv_aload_n hx hb dJx4a65c_grow_92f84_31 rfl (lv_at hl 2 rfl) ?_
    refine lv_aload_n hx hb dJx4a65c_grow_92f84_32 rfl (lv_at hl 2 rfl) ?_
    refine va_get (D := K.1) (ci := 0) (v := .ref aE) (C := RJx4a65c) (T := TJx4a65c) (N := 3) hx hb hts iJx4a65c hown hE.k hP 9 rfl rfl 1 (by decide) f9 (fun _ h9 => h9) rfl dJx4a65c_grow_92f84_33 ?_
    refine lv_iload_n hx hb dJx4a65c_grow_92f84_36 rfl (lv_at hl 0 rfl) ?_
    refine m_cSq (rest := [.ref (ad 8)]) ⟨hx, hb, hml, hown, hts⟩ hE hS (fun _ h => h) (kJ7_copyOf_1904c l K A H0 _ hP hD hA (ie + 10) aE cap fE (cW_t hie) (fun i hi y hy => by
          obtain ⟨j, vs, hj⟩ := hel i (by omega) y hy
          exact ⟨vs, m_sing hP (cW_t hj)⟩) k9 (by omega) (by omega)) (va_cwS 2 hts gJx4a65c_grow_92f84_J7_copyOf_1904c rfl rfl rfl (by decide +kernel) ⟨Nat.le_of_ble_eq_true rfl, Nat.le_of_ble_eq_true rfl⟩) rfl rfl hl.1 rfl (Nat.le_of_ble_eq_true rfl) dJx4a65c_grow_92f84_37 ⟨Nat.le_of_ble_eq_true rfl, Nat.le_of_ble_eq_true rfl⟩ (fun r H locs hp hS hk => ?_)
    obtain ⟨q5, rfl, hP, hD⟩ := hp
    have hP : va_P K.1 vwCl (cW K o ad f d ft [.int md, .ref aE, .int (nI n)] ((T ++ ([(q5, .inl (K.2.1 3, k9, .inr (.inr (.inr (.inr (va_cpy fE (fun _ => none) 0 0 cap))))))] : va_W)) : va_W)) H := hP
    have hD : va_D A (cW K o ad f d ft [.int md, .ref aE, .int (nI n)] ((T ++ ([(q5, .inl (K.2.1 3, k9, .inr (.inr (.inr (.inr (va_cpy fE (fun _ => none) 0 0 cap))))))] : va_W)) : va_W)) := hD
    refine lv_dup_x1 hx hb dJx4a65c_grow_92f84_40 rfl rfl ?_
    refine va_put (D := K.1) (ci := 0) (v := .ref q5) (ty := .array (.object "java/lang/Object")) (C := RJx4a65c) (T := TJx4a65c) (N := 3) hx hb hts iJx4a65c tyJx4a65c tyJx4a65c_ok nmJx4a65c hown hE.k hP hD hS 9 rfl rfl 1 (by decide) f9 (fun _ h9 => h9) rfl (by decide +kernel) rfl rfl (Nat.le_of_ble_eq_true rfl) dJx4a65c_grow_92f84_41 (fun H locs hP hD hS => ?_)
    have hP : va_P K.1 vwCl (cW K o ad f d ft [.int md, .ref q5, .int (nI n)] ((T ++ ([(q5, .inl (K.2.1 3, k9, .inr (.inr (.inr (.inr (va_cpy fE (fun _ => none) 0 0 cap))))))] : va_W)) : va_W)) H := hP
    have hD : va_D A (cW K o ad f d ft [.int md, .ref q5, .int (nI n)] ((T ++ ([(q5, .inl (K.2.1 3, k9, .inr (.inr (.inr (.inr (va_cpy fE (fun _ => none) 0 0 cap))))))] : va_W)) : va_W)) := hD
    exact m_qret (r := some q5) hx hb hr (Or.inr ⟨_, rfl⟩) hlk hS (Nat.le_of_ble_eq_true rfl) (Nat.le_of_ble_eq_true rfl) dJx4a65c_grow_92f84_44 (⟨q5, rfl, hP, hD⟩)
  · exact absurd (by omega) c_7

set_option maxHeartbeats 4000000 in
set_option maxRecDepth 100000 in
theorem kGrowIC (l : Launch) (K : m_K) (A : Nat → Prop) (H0 : Heap) (o : Nat) (ad : Nat → Nat) (f : Nat → Nat → Int32) (d : Int32) (ft : Nat → Option Nat) (md : Int32) (n : Nat) (T : va_W) (hP : va_P K.1 vwCl (cW K o ad f d ft [.int md, .ref (K.2.2 0), .int (nI n)] T) H0) (hD : va_D A (cW K o ad f d ft [.int md, .ref (K.2.2 0), .int (nI n)] T)) (hA : ∀ q, H0.size ≤ q → A q) (hn : n = 0) : Met l yJx4a65c_grow_92f84 wsJx4a65c_grow_92f84 ({ frames := 3, cells := 1, slots := 22, locals := 84 } : Room) (m_Pc K A H0 [.ref (ad 8), .int (nI (n + 1))]) (va_Qq (fun r H1 => ∃ q, r = some q ∧ va_P K.1 vwCl (cW K o ad f d ft [.int md, .ref q, .int (nI n)] (T ++ [(q, .inl (K.2.1 3, 10, .inr (.inr (.inr (.inr (fun _ => none))))))])) H1 ∧ va_D A (cW K o ad f d ft [.int md, .ref q, .int (nI n)] (T ++ [(q, .inl (K.2.1 3, 10, .inr (.inr (.inr (.inr (fun _ => none))))))]))) m_B A) 1 22 A := by
  refine m_ofW (by decide) rfl (Nat.le_of_ble_eq_true rfl) ?_
  intro p e s m args below meth c ls hx hb hr hml hown hts hlk hnm hE hsz hS hl
  have hl : lv_has ls 4 [(0, .ref (ad 8)), (1, .int (nI (n + 1)))] := hl
  have hA0 : ∀ q, s.heap.size ≤ q → A q := fun q h => hA q (by rw [← hsz]; exact h)
  have iJx4a65c : ∀ w ∈ wsJx4a65c0, w ∈ wsJx4a65c_grow_92f84 := by decide +kernel
  have f9 := hts (.fieldLink RJx4a65c 9 "java/util/ArrayList" "elementData" "[Ljava/lang/Object;") (by decide +kernel)
  have gsl := hts (.fieldLink RJx4a65c 39 "java/util/ArrayList" "DEFAULTCAPACITY_EMPTY_ELEMENTDATA" "[Ljava/lang/Object;") (by decide +kernel)
  have mm79 := hts (.methodLink RJx4a65c 79 Lib.Math.max.name) (by decide +kernel)
  have msmax := hts (.static Lib.Math.max.name) (by decide +kernel)
  have mini := hts (.initialized "java/lang/Math") (by decide +kernel)
  have mcmax := hts (.code Lib.Math.max.name Lib.Math.max.code 2 (some .int)) (by decide +kernel)
  have cl7 := hts (.classLink RJx4a65c 7 "java/lang/Object") (by decide +kernel)
  refine lv_aload_n hx hb dJx4a65c_grow_92f84_0 rfl (lv_at hl 0 rfl) ?_
  refine va_get (D := K.1) (ci := 0) (v := .ref (K.2.2 0)) (C := RJx4a65c) (T := TJx4a65c) (N := 3) hx hb hts iJx4a65c hown hE.k hP 9 rfl rfl 1 (by decide) f9 (fun _ h9 => h9) rfl dJx4a65c_grow_92f84_1 ?_
  refine va_tlen (v := nI 0) hx hb hE.2.2.2.2.2.2.2.2.1 hS rfl dJx4a65c_grow_92f84_4 ?_
  refine lv_istore_n (lv' := [(2, .int (nI 0)), (0, .ref (ad 8)), (1, .int (nI (n + 1)))]) hx hb dJx4a65c_grow_92f84_5 rfl hl (by decide) rfl (fun ls hl => ?_)
  refine lv_iload_n hx hb dJx4a65c_grow_92f84_6 rfl (lv_at hl 0 rfl) ?_
  refine m_if_gt (tgt := 20) hx hb (by omega) dJx4a65c_grow_92f84_7 (by decide) (fun c_7 => ?_) (fun c_7 => ?_)
  · exact absurd c_7 (by decide)
  · refine lv_aload_n hx hb dJx4a65c_grow_92f84_10 rfl (lv_at hl 1 rfl) ?_
    refine va_get (D := K.1) (ci := 0) (v := .ref (K.2.2 0)) (C := RJx4a65c) (T := TJx4a65c) (N := 3) hx hb hts iJx4a65c hown hE.k hP 9 rfl rfl 1 (by decide) f9 (fun _ h9 => h9) rfl dJx4a65c_grow_92f84_11 ?_
    refine va_gets hx hb hE.2.2.2.2.2.2.2.1 hS hown gsl (fun _ h9 => h9) dJx4a65c_grow_92f84_14 ?_
    refine lv_acmp_eq (rx := some (K.2.2 0)) (ry := some (K.2.2 0)) (tgt := 45) hx hb dJx4a65c_grow_92f84_17 (by decide) (fun _ => ?_) (fun z => absurd rfl z)
    refine lv_aload_n hx hb dJx4a65c_grow_92f84_45 rfl (lv_at hl 1 rfl) ?_
    refine lv_bipush (v := nI 10) hx hb dJx4a65c_grow_92f84_46 (by decide) ?_
    refine lv_iload_n hx hb dJx4a65c_grow_92f84_48 rfl (lv_at hl 2 rfl) ?_
    refine m_mmax hx hb (hml.trans hl.1.symm) hown mm79 msmax mini mcmax (Nat.le_of_ble_eq_true rfl) (Nat.le_of_ble_eq_true rfl) (Nat.le_of_ble_eq_true rfl) (Nat.le_of_ble_eq_true rfl) (by omega) (by omega) dJx4a65c_grow_92f84_49 ?_
    rw [show max 10 (n + 1) = 10 by omega]
    refine m_newq3 hx hb hE.k hP hD hS hA0 hown cl7 hE.2.2.2.2.2.2.2.2.2.2.1 (by omega) (Nat.le_of_ble_eq_true rfl) (by show 0 + 10 ≤ 22; omega) dJx4a65c_grow_92f84_52 (fun q5 H hq5 hs5 hP hD hS => ?_)
    have hP : va_P K.1 vwCl (cW K o ad f d ft [.int md, .ref (K.2.2 0), .int (nI n)] ((T ++ ([(q5, .inl (K.2.1 3, 10, .inr (.inr (.inr (.inr (fun _ => none))))))] : va_W)) : va_W)) H := hP
    have hD : va_D A (cW K o ad f d ft [.int md, .ref (K.2.2 0), .int (nI n)] ((T ++ ([(q5, .inl (K.2.1 3, 10, .inr (.inr (.inr (.inr (fun _ => none))))))] : va_W)) : va_W)) := hD
    refine W.widen (k := 1) (n := 22) (by omega) (by omega) ?_
    refine lv_dup_x1 hx hb dJx4a65c_grow_92f84_55 rfl rfl ?_
    refine va_put (D := K.1) (ci := 0) (v := .ref q5) (ty := .array (.object "java/lang/Object")) (C := RJx4a65c) (T := TJx4a65c) (N := 3) hx hb hts iJx4a65c tyJx4a65c tyJx4a65c_ok nmJx4a65c hown hE.k hP hD hS 9 rfl rfl 1 (by decide) f9 (fun _ h9 => h9) rfl (by decide +kernel) rfl rfl (Nat.le_of_ble_eq_true rfl) dJx4a65c_grow_92f84_56 (fun H locs hP hD hS => ?_)
    have hP : va_P K.1 vwCl (cW K o ad f d ft [.int md, .ref q5, .int (nI n)] ((T ++ ([(q5, .inl (K.2.1 3, 10, .inr (.inr (.inr (.inr (fun _ => none))))))] : va_W)) : va_W)) H := hP
    have hD : va_D A (cW K o ad f d ft [.int md, .ref q5, .int (nI n)] ((T ++ ([(q5, .inl (K.2.1 3, 10, .inr (.inr (.inr (.inr (fun _ => none))))))] : va_W)) : va_W)) := hD
    exact m_qret (r := some q5) hx hb hr (Or.inr ⟨_, rfl⟩) hlk hS (Nat.le_of_ble_eq_true rfl) (Nat.le_of_ble_eq_true rfl) dJx4a65c_grow_92f84_59 (⟨q5, rfl, hP, hD⟩)

set_option maxHeartbeats 4000000 in
set_option maxRecDepth 100000 in
theorem kGrowB (l : Launch) (K : m_K) (A : Nat → Prop) (H0 : Heap) (o : Nat) (ad : Nat → Nat) (f : Nat → Nat → Int32) (d : Int32) (ft : Nat → Option Nat) (md : Int32) (n : Nat) (T : va_W) (ie aE cap : Nat) (fE : Nat → Option Nat) (hie : T[ie]? = some (aE, .inl (K.2.1 3, cap, .inr (.inr (.inr (.inr fE)))))) (hP : va_P K.1 vwCl (cW K o ad f d ft [.int md, .ref aE, .int (nI n)] T) H0) (hD : va_D A (cW K o ad f d ft [.int md, .ref aE, .int (nI n)] T)) (hA : ∀ q, H0.size ≤ q → A q) (hel : ∀ i, i < n → ∀ y, fE i = some y → ∃ (j : Nat) (vs : List Value), T[j]? = some (y, .inr (2, vs))) (k9 : Nat) (hn : n = cap) (hc : 2 ≤ cap) (hc2 : cap ≤ 15) (hk9 : cap + cap / 2 = k9) (hk8 : k9 ≤ 22) : Met l yJx4a65c_grow_d5877 wsJx4a65c_grow_d5877 ({ frames := 4, cells := 1, slots := 22, locals := 107 } : Room) (m_Pc K A H0 [.ref (ad 8)]) (va_Qq (fun r H1 => ∃ q, r = some q ∧ va_P K.1 vwCl (cW K o ad f d ft [.int md, .ref q, .int (nI n)] (T ++ [(q, .inl (K.2.1 3, k9, .inr (.inr (.inr (.inr (va_cpy fE (fun _ => none) 0 0 cap))))))])) H1 ∧ va_D A (cW K o ad f d ft [.int md, .ref q, .int (nI n)] (T ++ [(q, .inl (K.2.1 3, k9, .inr (.inr (.inr (.inr (va_cpy fE (fun _ => none) 0 0 cap))))))]))) m_B A) 1 22 A := by
  refine m_ofW (by decide) rfl (Nat.le_of_ble_eq_true rfl) ?_
  intro p e s m args below meth c ls hx hb hr hml hown hts hlk hnm hE hsz hS hl
  have hl : lv_has ls 1 [(0, .ref (ad 8))] := hl
  have iJx4a65c : ∀ w ∈ wsJx4a65c0, w ∈ wsJx4a65c_grow_d5877 := by decide +kernel
  have f48 := hts (.fieldLink RJx4a65c 48 "java/util/ArrayList" "size" "I") (by decide +kernel)
  refine lv_aload_n hx hb dJx4a65c_grow_d5877_0 rfl (lv_at hl 0 rfl) ?_
  refine lv_aload_n hx hb dJx4a65c_grow_d5877_1 rfl (lv_at hl 0 rfl) ?_
  refine va_get (D := K.1) (ci := 0) (v := .int (nI n)) (C := RJx4a65c) (T := TJx4a65c) (N := 3) hx hb hts iJx4a65c hown hE.k hP 9 rfl rfl 2 (by decide) f48 (fun _ h9 => h9) rfl dJx4a65c_grow_d5877_2 ?_
  refine lv_iconst (v := nI 1) hx hb dJx4a65c_grow_d5877_5 (by decide) ?_
  refine m_iadd hx hb dJx4a65c_grow_d5877_6 ?_
  refine m_cVq (rest := []) ⟨hx, hb, hml, hown, hts⟩ hE hS (fun _ h => h) (kGrowIB l K A H0 o ad f d ft md n T ie aE cap fE hie hP hD hA hel k9 hn hc hc2 hk9 hk8) (cwV 1 hts gJx4a65c_grow_d5877_Jx4a65c_grow_92f84 rfl rfl rfl (by decide +kernel) ⟨Nat.le_of_ble_eq_true rfl, Nat.le_of_ble_eq_true rfl⟩) (va_recv hE.k hP (ci := 0) (q0 := 9) rfl rfl) rfl rfl hl.1 rfl (Nat.le_of_ble_eq_true rfl) dJx4a65c_grow_d5877_7 ⟨Nat.le_of_ble_eq_true rfl, Nat.le_of_ble_eq_true rfl⟩ (fun r H locs hp hS hk => ?_)
  obtain ⟨q5, rfl, hP, hD⟩ := hp
  exact m_qret (r := some q5) hx hb hr (Or.inr ⟨_, rfl⟩) hlk hS (Nat.le_of_ble_eq_true rfl) (Nat.le_of_ble_eq_true rfl) dJx4a65c_grow_d5877_10 (⟨q5, rfl, hP, hD⟩)

set_option maxHeartbeats 4000000 in
set_option maxRecDepth 100000 in
theorem kGrowC (l : Launch) (K : m_K) (A : Nat → Prop) (H0 : Heap) (o : Nat) (ad : Nat → Nat) (f : Nat → Nat → Int32) (d : Int32) (ft : Nat → Option Nat) (md : Int32) (n : Nat) (T : va_W) (hP : va_P K.1 vwCl (cW K o ad f d ft [.int md, .ref (K.2.2 0), .int (nI n)] T) H0) (hD : va_D A (cW K o ad f d ft [.int md, .ref (K.2.2 0), .int (nI n)] T)) (hA : ∀ q, H0.size ≤ q → A q) (hn : n = 0) : Met l yJx4a65c_grow_d5877 wsJx4a65c_grow_d5877 ({ frames := 4, cells := 1, slots := 22, locals := 107 } : Room) (m_Pc K A H0 [.ref (ad 8)]) (va_Qq (fun r H1 => ∃ q, r = some q ∧ va_P K.1 vwCl (cW K o ad f d ft [.int md, .ref q, .int (nI n)] (T ++ [(q, .inl (K.2.1 3, 10, .inr (.inr (.inr (.inr (fun _ => none))))))])) H1 ∧ va_D A (cW K o ad f d ft [.int md, .ref q, .int (nI n)] (T ++ [(q, .inl (K.2.1 3, 10, .inr (.inr (.inr (.inr (fun _ => none))))))]))) m_B A) 1 22 A := by
  refine m_ofW (by decide) rfl (Nat.le_of_ble_eq_true rfl) ?_
  intro p e s m args below meth c ls hx hb hr hml hown hts hlk hnm hE hsz hS hl
  have hl : lv_has ls 1 [(0, .ref (ad 8))] := hl
  have iJx4a65c : ∀ w ∈ wsJx4a65c0, w ∈ wsJx4a65c_grow_d5877 := by decide +kernel
  have f48 := hts (.fieldLink RJx4a65c 48 "java/util/ArrayList" "size" "I") (by decide +kernel)
  refine lv_aload_n hx hb dJx4a65c_grow_d5877_0 rfl (lv_at hl 0 rfl) ?_
  refine lv_aload_n hx hb dJx4a65c_grow_d5877_1 rfl (lv_at hl 0 rfl) ?_
  refine va_get (D := K.1) (ci := 0) (v := .int (nI n)) (C := RJx4a65c) (T := TJx4a65c) (N := 3) hx hb hts iJx4a65c hown hE.k hP 9 rfl rfl 2 (by decide) f48 (fun _ h9 => h9) rfl dJx4a65c_grow_d5877_2 ?_
  refine lv_iconst (v := nI 1) hx hb dJx4a65c_grow_d5877_5 (by decide) ?_
  refine m_iadd hx hb dJx4a65c_grow_d5877_6 ?_
  refine m_cVq (rest := []) ⟨hx, hb, hml, hown, hts⟩ hE hS (fun _ h => h) (kGrowIC l K A H0 o ad f d ft md n T hP hD hA hn) (cwV 1 hts gJx4a65c_grow_d5877_Jx4a65c_grow_92f84 rfl rfl rfl (by decide +kernel) ⟨Nat.le_of_ble_eq_true rfl, Nat.le_of_ble_eq_true rfl⟩) (va_recv hE.k hP (ci := 0) (q0 := 9) rfl rfl) rfl rfl hl.1 rfl (Nat.le_of_ble_eq_true rfl) dJx4a65c_grow_d5877_7 ⟨Nat.le_of_ble_eq_true rfl, Nat.le_of_ble_eq_true rfl⟩ (fun r H locs hp hS hk => ?_)
  obtain ⟨q5, rfl, hP, hD⟩ := hp
  exact m_qret (r := some q5) hx hb hr (Or.inr ⟨_, rfl⟩) hlk hS (Nat.le_of_ble_eq_true rfl) (Nat.le_of_ble_eq_true rfl) dJx4a65c_grow_d5877_10 (⟨q5, rfl, hP, hD⟩)

theorem lrow_up {fE r9 : Nat → Option Nat} {n : Nat} {x : Option Nat} (h : ∀ k, k < n → fE k = r9 k) : ∀ k, k < n + 1 → va_up fE n x k = va_up r9 n x k := fun k hk => by
  unfold va_up
  split
  · rfl
  · exact h k (by omega)
theorem lrow_cp {fE r9 : Nat → Option Nat} {n : Nat} (h : ∀ k, k < n → fE k = r9 k) : ∀ k, k < n → va_cpy fE (fun _ => none) 0 0 n k = r9 k := fun k hk => by
  unfold va_cpy
  rw [if_pos (by omega), Nat.zero_add, Nat.sub_zero]
  exact h k hk

set_option maxHeartbeats 4000000 in
set_option maxRecDepth 100000 in
theorem kAdd3A (l : Launch) (K : m_K) (A : Nat → Prop) (H0 : Heap) (o : Nat) (ad : Nat → Nat) (f : Nat → Nat → Int32) (d : Int32) (ft : Nat → Option Nat) (md : Int32) (n : Nat) (T : va_W) (ie aE cap : Nat) (fE : Nat → Option Nat) (hie : T[ie]? = some (aE, .inl (K.2.1 3, cap, .inr (.inr (.inr (.inr fE)))))) (ip pa : Nat) (vs : List Value) (hip : T[ip]? = some (pa, .inr (2, vs))) (hP : va_P K.1 vwCl (cW K o ad f d ft [.int md, .ref aE, .int (nI n)] T) H0) (hD : va_D A (cW K o ad f d ft [.int md, .ref aE, .int (nI n)] T)) (hA : ∀ q, H0.size ≤ q → A q) (hcap : cap = 10 ∨ cap = 15 ∨ cap = 22) (hlt : n < cap) (r9 : Nat → Option Nat) (hr9 : ∀ k, k < n → fE k = r9 k) : Met l yJx4a65c_add_72be8 wsJx4a65c_add_72be8 ({ frames := 5, cells := 1, slots := 22, locals := 127 } : Room) (m_Pc K A H0 [.ref (ad 8), .ref pa, .ref aE, .int (nI n)]) (va_Qv (fun H1 => ∃ (ed' : Value) (T' : va_W), va_P K.1 vwCl (cW K o ad f d ft [.int md, ed', .int (nI (n + 1))] T') H1 ∧ va_D A (cW K o ad f d ft [.int md, ed', .int (nI (n + 1))] T') ∧ LRow K T' ed' (n + 1) (va_up r9 n (some pa)) ∧ Ext T T') m_B A) 1 22 A := by
  refine m_ofW (by decide) rfl (Nat.le_of_ble_eq_true rfl) ?_
  intro p e s m args below meth c ls hx hb hr hml hown hts hlk hnm hE hsz hS hl
  have hl : lv_has ls 4 [(0, .ref (ad 8)), (1, .ref pa), (2, .ref aE), (3, .int (nI n))] := hl
  have iJx4a65c : ∀ w ∈ wsJx4a65c0, w ∈ wsJx4a65c_add_72be8 := by decide +kernel
  have f48 := hts (.fieldLink RJx4a65c 48 "java/util/ArrayList" "size" "I") (by decide +kernel)
  refine lv_iload_n hx hb dJx4a65c_add_72be8_0 rfl (lv_at hl 3 rfl) ?_
  refine lv_aload_n hx hb dJx4a65c_add_72be8_1 rfl (lv_at hl 2 rfl) ?_
  refine va_alen (v := nI cap) hx hb hE.k hP (ie + 10) 3 (cW_t hie) rfl rfl dJx4a65c_add_72be8_2 ?_
  refine m_icmp_ne (tgt := 11) hx hb (by omega) (by omega) dJx4a65c_add_72be8_3 (by decide) (fun c_3 => ?_) (fun c_3 => ?_)
  · refine lv_aload_n hx hb dJx4a65c_add_72be8_11 rfl (lv_at hl 2 rfl) ?_
    refine lv_iload_n hx hb dJx4a65c_add_72be8_12 rfl (lv_at hl 3 rfl) ?_
    refine lv_aload_n hx hb dJx4a65c_add_72be8_13 rfl (lv_at hl 1 rfl) ?_
    refine va_astqM (E := "java/lang/Object") hx hb hE.k hP hD hS (ie + 10) 3 (cW_t hie) rfl (va_rAny (ci := 2) (q0 := (ip + 10)) hE.k hP (cW_t hip) rfl (fun comp c0 e1 e2 => by
          obtain ⟨c3, t3, f1, f2, f3⟩ := Cond.castable_spec (va_Nw.use (A := args) rfl (hE.2.2.2.2.2.1 ("PhraseCatalogue$Pair", "java/lang/Object") (by simp [m_cas])))
          cases e1.symm.trans f2
          cases e2.symm.trans f1
          exact f3)) (vp_in_nI (by omega) (by omega)) dJx4a65c_add_72be8_14 (fun H locs hP hD hS => ?_)
    rw [nI_clamp (show n < 2 ^ 31 by omega)] at hP hD
    have hP : va_P K.1 vwCl (cW K o ad f d ft [.int md, .ref aE, .int (nI n)] (T.set ie (aE, .inl (K.2.1 3, cap, .inr (.inr (.inr (.inr (va_up fE n (some pa))))))))) H := hP
    have hD : va_D A (cW K o ad f d ft [.int md, .ref aE, .int (nI n)] (T.set ie (aE, .inl (K.2.1 3, cap, .inr (.inr (.inr (.inr (va_up fE n (some pa))))))))) := hD
    refine lv_aload_n hx hb dJx4a65c_add_72be8_15 rfl (lv_at hl 0 rfl) ?_
    refine lv_iload_n hx hb dJx4a65c_add_72be8_16 rfl (lv_at hl 3 rfl) ?_
    refine lv_iconst (v := nI 1) hx hb dJx4a65c_add_72be8_17 (by decide) ?_
    refine m_iadd hx hb dJx4a65c_add_72be8_18 ?_
    refine va_put (D := K.1) (ci := 0) (v := .int (nI (n + 1))) (ty := .int) (C := RJx4a65c) (T := TJx4a65c) (N := 3) hx hb hts iJx4a65c tyJx4a65c tyJx4a65c_ok nmJx4a65c hown hE.k hP hD hS 9 rfl rfl 2 (by decide) f48 (fun _ h9 => h9) rfl (by decide +kernel) rfl rfl (Nat.le_of_ble_eq_true rfl) dJx4a65c_add_72be8_19 (fun H locs hP hD hS => ?_)
    have hP : va_P K.1 vwCl (cW K o ad f d ft [.int md, .ref aE, .int (nI (n + 1))] (T.set ie (aE, .inl (K.2.1 3, cap, .inr (.inr (.inr (.inr (va_up fE n (some pa))))))))) H := hP
    have hD : va_D A (cW K o ad f d ft [.int md, .ref aE, .int (nI (n + 1))] (T.set ie (aE, .inl (K.2.1 3, cap, .inr (.inr (.inr (.inr (va_up fE n (some pa))))))))) := hD
    exact m_vret hx hb hr hlk hS (Nat.le_of_ble_eq_true rfl) (Nat.le_of_ble_eq_true rfl) dJx4a65c_add_72be8_22 (⟨_, _, hP, hD, Or.inr ⟨ie, aE, cap, _, rfl, m_sets hie, by omega, hcap, lrow_up hr9⟩, Ext.set hie⟩)
  · exact absurd c_3 (by omega)

set_option maxHeartbeats 4000000 in
set_option maxRecDepth 100000 in
theorem kAdd3B (l : Launch) (K : m_K) (A : Nat → Prop) (H0 : Heap) (o : Nat) (ad : Nat → Nat) (f : Nat → Nat → Int32) (d : Int32) (ft : Nat → Option Nat) (md : Int32) (n : Nat) (T : va_W) (ie aE cap : Nat) (fE : Nat → Option Nat) (hie : T[ie]? = some (aE, .inl (K.2.1 3, cap, .inr (.inr (.inr (.inr fE)))))) (ip pa : Nat) (vs : List Value) (hip : T[ip]? = some (pa, .inr (2, vs))) (hP : va_P K.1 vwCl (cW K o ad f d ft [.int md, .ref aE, .int (nI n)] T) H0) (hD : va_D A (cW K o ad f d ft [.int md, .ref aE, .int (nI n)] T)) (hA : ∀ q, H0.size ≤ q → A q) (hel : ∀ i, i < n → ∀ y, fE i = some y → ∃ (j : Nat) (vs : List Value), T[j]? = some (y, .inr (2, vs))) (k9 : Nat) (hn : n = cap) (hc : 2 ≤ cap) (hc2 : cap ≤ 15) (hk9 : cap + cap / 2 = k9) (hk8 : k9 = 15 ∨ k9 = 22) (r9 : Nat → Option Nat) (hr9 : ∀ k, k < n → fE k = r9 k) : Met l yJx4a65c_add_72be8 wsJx4a65c_add_72be8 ({ frames := 5, cells := 1, slots := 22, locals := 127 } : Room) (m_Pc K A H0 [.ref (ad 8), .ref pa, .ref aE, .int (nI n)]) (va_Qv (fun H1 => ∃ (ed' : Value) (T' : va_W), va_P K.1 vwCl (cW K o ad f d ft [.int md, ed', .int (nI (n + 1))] T') H1 ∧ va_D A (cW K o ad f d ft [.int md, ed', .int (nI (n + 1))] T') ∧ LRow K T' ed' (n + 1) (va_up r9 n (some pa)) ∧ Ext T T') m_B A) 1 22 A := by
  refine m_ofW (by decide) rfl (Nat.le_of_ble_eq_true rfl) ?_
  intro p e s m args below meth c ls hx hb hr hml hown hts hlk hnm hE hsz hS hl
  have hl : lv_has ls 4 [(0, .ref (ad 8)), (1, .ref pa), (2, .ref aE), (3, .int (nI n))] := hl
  have iJx4a65c : ∀ w ∈ wsJx4a65c0, w ∈ wsJx4a65c_add_72be8 := by decide +kernel
  have f48 := hts (.fieldLink RJx4a65c 48 "java/util/ArrayList" "size" "I") (by decide +kernel)
  refine lv_iload_n hx hb dJx4a65c_add_72be8_0 rfl (lv_at hl 3 rfl) ?_
  refine lv_aload_n hx hb dJx4a65c_add_72be8_1 rfl (lv_at hl 2 rfl) ?_
  refine va_alen (v := nI cap) hx hb hE.k hP (ie + 10) 3 (cW_t hie) rfl rfl dJx4a65c_add_72be8_2 ?_
  refine m_icmp_ne (tgt := 11) hx hb (by omega) (by omega) dJx4a65c_add_72be8_3 (by decide) (fun c_3 => ?_) (fun c_3 => ?_)
  · exact absurd hn c_3
  · refine lv_aload_n hx hb dJx4a65c_add_72be8_6 rfl (lv_at hl 0 rfl) ?_
    refine m_cVq (rest := []) ⟨hx, hb, hml, hown, hts⟩ hE hS (fun _ h => h) (kGrowB l K A H0 o ad f d ft md n T ie aE cap fE hie hP hD hA hel k9 hn hc hc2 hk9 (by omega)) (cwV 0 hts gJx4a65c_add_72be8_Jx4a65c_grow_d5877 rfl rfl rfl (by decide +kernel) ⟨Nat.le_of_ble_eq_true rfl, Nat.le_of_ble_eq_true rfl⟩) (va_recv hE.k hP (ci := 0) (q0 := 9) rfl rfl) rfl rfl hl.1 rfl (Nat.le_of_ble_eq_true rfl) dJx4a65c_add_72be8_7 ⟨Nat.le_of_ble_eq_true rfl, Nat.le_of_ble_eq_true rfl⟩ (fun r H locs hp hS hk => ?_)
    obtain ⟨q5, rfl, hP, hD⟩ := hp
    refine lv_astore_n (lv' := [(2, .ref q5), (0, .ref (ad 8)), (1, .ref pa), (3, .int (nI n))]) hx hb dJx4a65c_add_72be8_10 rfl hl (by decide) rfl (fun ls hl => ?_)
    refine lv_aload_n hx hb dJx4a65c_add_72be8_11 rfl (lv_at hl 0 rfl) ?_
    refine lv_iload_n hx hb dJx4a65c_add_72be8_12 rfl (lv_at hl 3 rfl) ?_
    refine lv_aload_n hx hb dJx4a65c_add_72be8_13 rfl (lv_at hl 2 rfl) ?_
    refine va_astqM (E := "java/lang/Object") hx hb hE.k hP hD hS (T.length + 10) 3 (cW_t m_apr) rfl (va_rAny (ci := 2) (q0 := (ip + 10)) hE.k hP (cW_t (m_apl hip)) rfl (fun comp c0 e1 e2 => by
          obtain ⟨c3, t3, f1, f2, f3⟩ := Cond.castable_spec (va_Nw.use (A := args) rfl (hE.2.2.2.2.2.1 ("PhraseCatalogue$Pair", "java/lang/Object") (by simp [m_cas])))
          cases e1.symm.trans f2
          cases e2.symm.trans f1
          exact f3)) (vp_in_nI (by omega) (by omega)) dJx4a65c_add_72be8_14 (fun H locs hP hD hS => ?_)
    rw [nI_clamp (show n < 2 ^ 31 by omega)] at hP hD
    have hP : va_P K.1 vwCl (cW K o ad f d ft [.int md, .ref q5, .int (nI n)] (((T ++ ([(q5, .inl (K.2.1 3, k9, .inr (.inr (.inr (.inr (va_cpy fE (fun _ => none) 0 0 cap))))))] : va_W)) : va_W).set T.length (q5, .inl (K.2.1 3, k9, .inr (.inr (.inr (.inr (va_up (va_cpy fE (fun _ => none) 0 0 cap) n (some pa))))))))) H := hP
    have hD : va_D A (cW K o ad f d ft [.int md, .ref q5, .int (nI n)] (((T ++ ([(q5, .inl (K.2.1 3, k9, .inr (.inr (.inr (.inr (va_cpy fE (fun _ => none) 0 0 cap))))))] : va_W)) : va_W).set T.length (q5, .inl (K.2.1 3, k9, .inr (.inr (.inr (.inr (va_up (va_cpy fE (fun _ => none) 0 0 cap) n (some pa))))))))) := hD
    refine lv_aload_n hx hb dJx4a65c_add_72be8_15 rfl (lv_at hl 1 rfl) ?_
    refine lv_iload_n hx hb dJx4a65c_add_72be8_16 rfl (lv_at hl 3 rfl) ?_
    refine lv_iconst (v := nI 1) hx hb dJx4a65c_add_72be8_17 (by decide) ?_
    refine m_iadd hx hb dJx4a65c_add_72be8_18 ?_
    refine va_put (D := K.1) (ci := 0) (v := .int (nI (n + 1))) (ty := .int) (C := RJx4a65c) (T := TJx4a65c) (N := 3) hx hb hts iJx4a65c tyJx4a65c tyJx4a65c_ok nmJx4a65c hown hE.k hP hD hS 9 rfl rfl 2 (by decide) f48 (fun _ h9 => h9) rfl (by decide +kernel) rfl rfl (Nat.le_of_ble_eq_true rfl) dJx4a65c_add_72be8_19 (fun H locs hP hD hS => ?_)
    have hP : va_P K.1 vwCl (cW K o ad f d ft [.int md, .ref q5, .int (nI (n + 1))] (((T ++ ([(q5, .inl (K.2.1 3, k9, .inr (.inr (.inr (.inr (va_cpy fE (fun _ => none) 0 0 cap))))))] : va_W)) : va_W).set T.length (q5, .inl (K.2.1 3, k9, .inr (.inr (.inr (.inr (va_up (va_cpy fE (fun _ => none) 0 0 cap) n (some pa))))))))) H := hP
    have hD : va_D A (cW K o ad f d ft [.int md, .ref q5, .int (nI (n + 1))] (((T ++ ([(q5, .inl (K.2.1 3, k9, .inr (.inr (.inr (.inr (va_cpy fE (fun _ => none) 0 0 cap))))))] : va_W)) : va_W).set T.length (q5, .inl (K.2.1 3, k9, .inr (.inr (.inr (.inr (va_up (va_cpy fE (fun _ => none) 0 0 cap) n (some pa))))))))) := hD
    exact m_vret hx hb hr hlk hS (Nat.le_of_ble_eq_true rfl) (Nat.le_of_ble_eq_true rfl) dJx4a65c_add_72be8_22 (⟨_, _, hP, hD, Or.inr ⟨_, q5, k9, _, rfl, m_sets m_apr, by omega, by omega, lrow_up (by rw [← hn]; exact lrow_cp hr9)⟩, Ext.push.trans (Ext.set m_apr)⟩)

set_option maxHeartbeats 4000000 in
set_option maxRecDepth 100000 in
theorem kAdd3C (l : Launch) (K : m_K) (A : Nat → Prop) (H0 : Heap) (o : Nat) (ad : Nat → Nat) (f : Nat → Nat → Int32) (d : Int32) (ft : Nat → Option Nat) (md : Int32) (n : Nat) (T : va_W) (ip pa : Nat) (vs : List Value) (hip : T[ip]? = some (pa, .inr (2, vs))) (hP : va_P K.1 vwCl (cW K o ad f d ft [.int md, .ref (K.2.2 0), .int (nI n)] T) H0) (hD : va_D A (cW K o ad f d ft [.int md, .ref (K.2.2 0), .int (nI n)] T)) (hA : ∀ q, H0.size ≤ q → A q) (hn : n = 0) (r9 : Nat → Option Nat) : Met l yJx4a65c_add_72be8 wsJx4a65c_add_72be8 ({ frames := 5, cells := 1, slots := 22, locals := 127 } : Room) (m_Pc K A H0 [.ref (ad 8), .ref pa, .ref (K.2.2 0), .int (nI n)]) (va_Qv (fun H1 => ∃ (ed' : Value) (T' : va_W), va_P K.1 vwCl (cW K o ad f d ft [.int md, ed', .int (nI (n + 1))] T') H1 ∧ va_D A (cW K o ad f d ft [.int md, ed', .int (nI (n + 1))] T') ∧ LRow K T' ed' (n + 1) (va_up r9 n (some pa)) ∧ Ext T T') m_B A) 1 22 A := by
  refine m_ofW (by decide) rfl (Nat.le_of_ble_eq_true rfl) ?_
  intro p e s m args below meth c ls hx hb hr hml hown hts hlk hnm hE hsz hS hl
  have hl : lv_has ls 4 [(0, .ref (ad 8)), (1, .ref pa), (2, .ref (K.2.2 0)), (3, .int (nI n))] := hl
  have iJx4a65c : ∀ w ∈ wsJx4a65c0, w ∈ wsJx4a65c_add_72be8 := by decide +kernel
  have f48 := hts (.fieldLink RJx4a65c 48 "java/util/ArrayList" "size" "I") (by decide +kernel)
  refine lv_iload_n hx hb dJx4a65c_add_72be8_0 rfl (lv_at hl 3 rfl) ?_
  refine lv_aload_n hx hb dJx4a65c_add_72be8_1 rfl (lv_at hl 2 rfl) ?_
  refine va_tlen (v := nI 0) hx hb hE.2.2.2.2.2.2.2.2.1 hS rfl dJx4a65c_add_72be8_2 ?_
  refine m_icmp_ne (tgt := 11) hx hb (by omega) (by omega) dJx4a65c_add_72be8_3 (by decide) (fun c_3 => ?_) (fun c_3 => ?_)
  · exact absurd hn c_3
  · refine lv_aload_n hx hb dJx4a65c_add_72be8_6 rfl (lv_at hl 0 rfl) ?_
    refine m_cVq (rest := []) ⟨hx, hb, hml, hown, hts⟩ hE hS (fun _ h => h) (kGrowC l K A H0 o ad f d ft md n T hP hD hA hn) (cwV 0 hts gJx4a65c_add_72be8_Jx4a65c_grow_d5877 rfl rfl rfl (by decide +kernel) ⟨Nat.le_of_ble_eq_true rfl, Nat.le_of_ble_eq_true rfl⟩) (va_recv hE.k hP (ci := 0) (q0 := 9) rfl rfl) rfl rfl hl.1 rfl (Nat.le_of_ble_eq_true rfl) dJx4a65c_add_72be8_7 ⟨Nat.le_of_ble_eq_true rfl, Nat.le_of_ble_eq_true rfl⟩ (fun r H locs hp hS hk => ?_)
    obtain ⟨q5, rfl, hP, hD⟩ := hp
    refine lv_astore_n (lv' := [(2, .ref q5), (0, .ref (ad 8)), (1, .ref pa), (3, .int (nI n))]) hx hb dJx4a65c_add_72be8_10 rfl hl (by decide) rfl (fun ls hl => ?_)
    refine lv_aload_n hx hb dJx4a65c_add_72be8_11 rfl (lv_at hl 0 rfl) ?_
    refine lv_iload_n hx hb dJx4a65c_add_72be8_12 rfl (lv_at hl 3 rfl) ?_
    refine lv_aload_n hx hb dJx4a65c_add_72be8_13 rfl (lv_at hl 2 rfl) ?_
    refine va_astqM (E := "java/lang/Object") hx hb hE.k hP hD hS (T.length + 10) 3 (cW_t m_apr) rfl (va_rAny (ci := 2) (q0 := (ip + 10)) hE.k hP (cW_t (m_apl hip)) rfl (fun comp c0 e1 e2 => by
          obtain ⟨c3, t3, f1, f2, f3⟩ := Cond.castable_spec (va_Nw.use (A := args) rfl (hE.2.2.2.2.2.1 ("PhraseCatalogue$Pair", "java/lang/Object") (by simp [m_cas])))
          cases e1.symm.trans f2
          cases e2.symm.trans f1
          exact f3)) (vp_in_nI (by omega) (by omega)) dJx4a65c_add_72be8_14 (fun H locs hP hD hS => ?_)
    rw [nI_clamp (show n < 2 ^ 31 by omega)] at hP hD
    have hP : va_P K.1 vwCl (cW K o ad f d ft [.int md, .ref q5, .int (nI n)] (((T ++ ([(q5, .inl (K.2.1 3, 10, .inr (.inr (.inr (.inr (fun _ => none))))))] : va_W)) : va_W).set T.length (q5, .inl (K.2.1 3, 10, .inr (.inr (.inr (.inr (va_up (fun _ => none) n (some pa))))))))) H := hP
    have hD : va_D A (cW K o ad f d ft [.int md, .ref q5, .int (nI n)] (((T ++ ([(q5, .inl (K.2.1 3, 10, .inr (.inr (.inr (.inr (fun _ => none))))))] : va_W)) : va_W).set T.length (q5, .inl (K.2.1 3, 10, .inr (.inr (.inr (.inr (va_up (fun _ => none) n (some pa))))))))) := hD
    refine lv_aload_n hx hb dJx4a65c_add_72be8_15 rfl (lv_at hl 1 rfl) ?_
    refine lv_iload_n hx hb dJx4a65c_add_72be8_16 rfl (lv_at hl 3 rfl) ?_
    refine lv_iconst (v := nI 1) hx hb dJx4a65c_add_72be8_17 (by decide) ?_
    refine m_iadd hx hb dJx4a65c_add_72be8_18 ?_
    refine va_put (D := K.1) (ci := 0) (v := .int (nI (n + 1))) (ty := .int) (C := RJx4a65c) (T := TJx4a65c) (N := 3) hx hb hts iJx4a65c tyJx4a65c tyJx4a65c_ok nmJx4a65c hown hE.k hP hD hS 9 rfl rfl 2 (by decide) f48 (fun _ h9 => h9) rfl (by decide +kernel) rfl rfl (Nat.le_of_ble_eq_true rfl) dJx4a65c_add_72be8_19 (fun H locs hP hD hS => ?_)
    have hP : va_P K.1 vwCl (cW K o ad f d ft [.int md, .ref q5, .int (nI (n + 1))] (((T ++ ([(q5, .inl (K.2.1 3, 10, .inr (.inr (.inr (.inr (fun _ => none))))))] : va_W)) : va_W).set T.length (q5, .inl (K.2.1 3, 10, .inr (.inr (.inr (.inr (va_up (fun _ => none) n (some pa))))))))) H := hP
    have hD : va_D A (cW K o ad f d ft [.int md, .ref q5, .int (nI (n + 1))] (((T ++ ([(q5, .inl (K.2.1 3, 10, .inr (.inr (.inr (.inr (fun _ => none))))))] : va_W)) : va_W).set T.length (q5, .inl (K.2.1 3, 10, .inr (.inr (.inr (.inr (va_up (fun _ => none) n (some pa))))))))) := hD
    exact m_vret hx hb hr hlk hS (Nat.le_of_ble_eq_true rfl) (Nat.le_of_ble_eq_true rfl) dJx4a65c_add_72be8_22 (⟨_, _, hP, hD, Or.inr ⟨_, q5, 10, _, rfl, m_sets m_apr, by omega, by omega, lrow_up (fun k hk => by omega)⟩, Ext.push.trans (Ext.set m_apr)⟩)

set_option maxHeartbeats 4000000 in
set_option maxRecDepth 100000 in
theorem kAddA (l : Launch) (K : m_K) (A : Nat → Prop) (H0 : Heap) (o : Nat) (ad : Nat → Nat) (f : Nat → Nat → Int32) (d : Int32) (ft : Nat → Option Nat) (md : Int32) (n : Nat) (T : va_W) (ie aE cap : Nat) (fE : Nat → Option Nat) (hie : T[ie]? = some (aE, .inl (K.2.1 3, cap, .inr (.inr (.inr (.inr fE)))))) (ip pa : Nat) (vs : List Value) (hip : T[ip]? = some (pa, .inr (2, vs))) (hP : va_P K.1 vwCl (cW K o ad f d ft [.int md, .ref aE, .int (nI n)] T) H0) (hD : va_D A (cW K o ad f d ft [.int md, .ref aE, .int (nI n)] T)) (hA : ∀ q, H0.size ≤ q → A q) (hcap : cap = 10 ∨ cap = 15 ∨ cap = 22) (hlt : n < cap) (r9 : Nat → Option Nat) (hr9 : ∀ k, k < n → fE k = r9 k) : Met l yJx4a65c_add_9ea2d wsJx4a65c_add_9ea2d ({ frames := 6, cells := 1, slots := 22, locals := 150 } : Room) (m_Pc K A H0 [.ref (ad 8), .ref pa]) (va_Qi (fun (r : Int32) H1 => ∃ (ed' : Value) (T' : va_W), va_P K.1 vwCl (cW K o ad f d ft [.int (md + nI 1), ed', .int (nI (n + 1))] T') H1 ∧ va_D A (cW K o ad f d ft [.int (md + nI 1), ed', .int (nI (n + 1))] T') ∧ LRow K T' ed' (n + 1) (va_up r9 n (some pa)) ∧ Ext T T') m_B A) 1 22 A := by
  refine m_ofW (by decide) rfl (Nat.le_of_ble_eq_true rfl) ?_
  intro p e s m args below meth c ls hx hb hr hml hown hts hlk hnm hE hsz hS hl
  have hl : lv_has ls 2 [(0, .ref (ad 8)), (1, .ref pa)] := hl
  have hA0 : ∀ q, s.heap.size ≤ q → A q := fun q h => hA q (by rw [← hsz]; exact h)
  have sf63 := hts (.sameField "java/util/ArrayList" "java/util/AbstractList" "modCount" "I") (by decide +kernel)
  have iJx4a65c : ∀ w ∈ wsJx4a65c0, w ∈ wsJx4a65c_add_9ea2d := by decide +kernel
  have f63 := hts (.fieldLink RJx4a65c 63 "java/util/ArrayList" "modCount" "I") (by decide +kernel)
  have f9 := hts (.fieldLink RJx4a65c 9 "java/util/ArrayList" "elementData" "[Ljava/lang/Object;") (by decide +kernel)
  have f48 := hts (.fieldLink RJx4a65c 48 "java/util/ArrayList" "size" "I") (by decide +kernel)
  refine lv_aload_n hx hb dJx4a65c_add_9ea2d_0 rfl (lv_at hl 0 rfl) ?_
  refine lv_dup hx hb dJx4a65c_add_9ea2d_1 rfl ?_
  refine va_get (D := K.1) (ci := 0) (v := .int md) (C := RJx4a65c) (T := TJx4a65c) (N := 3) hx hb hts iJx4a65c hown hE.k hP 9 rfl rfl 0 (by decide) f63 (fun x9 h9 => u_same sf63 x9 h9) rfl dJx4a65c_add_9ea2d_2 ?_
  refine lv_iconst (v := nI 1) hx hb dJx4a65c_add_9ea2d_5 (by decide) ?_
  refine lv_iadd hx hb dJx4a65c_add_9ea2d_6 ?_
  refine va_put (D := K.1) (ci := 0) (v := .int (md + (nI 1))) (ty := .int) (C := RJx4a65c) (T := TJx4a65c) (N := 3) hx hb hts iJx4a65c tyJx4a65c tyJx4a65c_ok nmJx4a65c hown hE.k hP hD hS 9 rfl rfl 0 (by decide) f63 (fun x9 h9 => u_same sf63 x9 h9) rfl (by decide +kernel) rfl rfl (Nat.le_of_ble_eq_true rfl) dJx4a65c_add_9ea2d_7 (fun H locs hP hD hS => ?_)
  have hP : va_P K.1 vwCl (cW K o ad f d ft [.int (md + (nI 1)), .ref aE, .int (nI n)] T) H := hP
  have hD : va_D A (cW K o ad f d ft [.int (md + (nI 1)), .ref aE, .int (nI n)] T) := hD
  refine lv_aload_n hx hb dJx4a65c_add_9ea2d_10 rfl (lv_at hl 0 rfl) ?_
  refine lv_aload_n hx hb dJx4a65c_add_9ea2d_11 rfl (lv_at hl 1 rfl) ?_
  refine lv_aload_n hx hb dJx4a65c_add_9ea2d_12 rfl (lv_at hl 0 rfl) ?_
  refine va_get (D := K.1) (ci := 0) (v := .ref aE) (C := RJx4a65c) (T := TJx4a65c) (N := 3) hx hb hts iJx4a65c hown hE.k hP 9 rfl rfl 1 (by decide) f9 (fun _ h9 => h9) rfl dJx4a65c_add_9ea2d_13 ?_
  refine lv_aload_n hx hb dJx4a65c_add_9ea2d_16 rfl (lv_at hl 0 rfl) ?_
  refine va_get (D := K.1) (ci := 0) (v := .int (nI n)) (C := RJx4a65c) (T := TJx4a65c) (N := 3) hx hb hts iJx4a65c hown hE.k hP 9 rfl rfl 2 (by decide) f48 (fun _ h9 => h9) rfl dJx4a65c_add_9ea2d_17 ?_
  have hA1 : ∀ q, H.size ≤ q → A q := fun q h => hA0 q (Nat.le_trans hS.1 h)
  refine m_cVv (rest := []) ⟨hx, hb, hml, hown, hts⟩ hE hS (fun _ h => h) (kAdd3A l K A H o ad f d ft (md + nI 1) n T ie aE cap fE hie ip pa vs hip hP hD hA1 hcap hlt r9 hr9) (cwV 3 hts gJx4a65c_add_9ea2d_Jx4a65c_add_72be8 rfl rfl rfl (by decide +kernel) ⟨Nat.le_of_ble_eq_true rfl, Nat.le_of_ble_eq_true rfl⟩) (va_recv hE.k hP (ci := 0) (q0 := 9) rfl rfl) rfl rfl hl.1 rfl (Nat.le_of_ble_eq_true rfl) dJx4a65c_add_9ea2d_20 ⟨Nat.le_of_ble_eq_true rfl, Nat.le_of_ble_eq_true rfl⟩ (fun H locs hp hS hk => ?_)
  obtain ⟨ed', T', hP, hD, hL, hX⟩ := hp
  refine lv_iconst (v := nI 1) hx hb dJx4a65c_add_9ea2d_23 (by decide) ?_
  refine W.eq (g2 := F0 m 24 ls [.int (bI true)]) (by rfl) ?_
  exact m_zret hx hb hr hlk hS (Nat.le_of_ble_eq_true rfl) (Nat.le_of_ble_eq_true rfl) dJx4a65c_add_9ea2d_24 (⟨_, _, hP, hD, hL, hX⟩)

set_option maxHeartbeats 4000000 in
set_option maxRecDepth 100000 in
theorem kAddB (l : Launch) (K : m_K) (A : Nat → Prop) (H0 : Heap) (o : Nat) (ad : Nat → Nat) (f : Nat → Nat → Int32) (d : Int32) (ft : Nat → Option Nat) (md : Int32) (n : Nat) (T : va_W) (ie aE cap : Nat) (fE : Nat → Option Nat) (hie : T[ie]? = some (aE, .inl (K.2.1 3, cap, .inr (.inr (.inr (.inr fE)))))) (ip pa : Nat) (vs : List Value) (hip : T[ip]? = some (pa, .inr (2, vs))) (hP : va_P K.1 vwCl (cW K o ad f d ft [.int md, .ref aE, .int (nI n)] T) H0) (hD : va_D A (cW K o ad f d ft [.int md, .ref aE, .int (nI n)] T)) (hA : ∀ q, H0.size ≤ q → A q) (hel : ∀ i, i < n → ∀ y, fE i = some y → ∃ (j : Nat) (vs : List Value), T[j]? = some (y, .inr (2, vs))) (k9 : Nat) (hn : n = cap) (hc : 2 ≤ cap) (hc2 : cap ≤ 15) (hk9 : cap + cap / 2 = k9) (hk8 : k9 = 15 ∨ k9 = 22) (r9 : Nat → Option Nat) (hr9 : ∀ k, k < n → fE k = r9 k) : Met l yJx4a65c_add_9ea2d wsJx4a65c_add_9ea2d ({ frames := 6, cells := 1, slots := 22, locals := 150 } : Room) (m_Pc K A H0 [.ref (ad 8), .ref pa]) (va_Qi (fun (r : Int32) H1 => ∃ (ed' : Value) (T' : va_W), va_P K.1 vwCl (cW K o ad f d ft [.int (md + nI 1), ed', .int (nI (n + 1))] T') H1 ∧ va_D A (cW K o ad f d ft [.int (md + nI 1), ed', .int (nI (n + 1))] T') ∧ LRow K T' ed' (n + 1) (va_up r9 n (some pa)) ∧ Ext T T') m_B A) 1 22 A := by
  refine m_ofW (by decide) rfl (Nat.le_of_ble_eq_true rfl) ?_
  intro p e s m args below meth c ls hx hb hr hml hown hts hlk hnm hE hsz hS hl
  have hl : lv_has ls 2 [(0, .ref (ad 8)), (1, .ref pa)] := hl
  have hA0 : ∀ q, s.heap.size ≤ q → A q := fun q h => hA q (by rw [← hsz]; exact h)
  have sf63 := hts (.sameField "java/util/ArrayList" "java/util/AbstractList" "modCount" "I") (by decide +kernel)
  have iJx4a65c : ∀ w ∈ wsJx4a65c0, w ∈ wsJx4a65c_add_9ea2d := by decide +kernel
  have f63 := hts (.fieldLink RJx4a65c 63 "java/util/ArrayList" "modCount" "I") (by decide +kernel)
  have f9 := hts (.fieldLink RJx4a65c 9 "java/util/ArrayList" "elementData" "[Ljava/lang/Object;") (by decide +kernel)
  have f48 := hts (.fieldLink RJx4a65c 48 "java/util/ArrayList" "size" "I") (by decide +kernel)
  refine lv_aload_n hx hb dJx4a65c_add_9ea2d_0 rfl (lv_at hl 0 rfl) ?_
  refine lv_dup hx hb dJx4a65c_add_9ea2d_1 rfl ?_
  refine va_get (D := K.1) (ci := 0) (v := .int md) (C := RJx4a65c) (T := TJx4a65c) (N := 3) hx hb hts iJx4a65c hown hE.k hP 9 rfl rfl 0 (by decide) f63 (fun x9 h9 => u_same sf63 x9 h9) rfl dJx4a65c_add_9ea2d_2 ?_
  refine lv_iconst (v := nI 1) hx hb dJx4a65c_add_9ea2d_5 (by decide) ?_
  refine lv_iadd hx hb dJx4a65c_add_9ea2d_6 ?_
  refine va_put (D := K.1) (ci := 0) (v := .int (md + (nI 1))) (ty := .int) (C := RJx4a65c) (T := TJx4a65c) (N := 3) hx hb hts iJx4a65c tyJx4a65c tyJx4a65c_ok nmJx4a65c hown hE.k hP hD hS 9 rfl rfl 0 (by decide) f63 (fun x9 h9 => u_same sf63 x9 h9) rfl (by decide +kernel) rfl rfl (Nat.le_of_ble_eq_true rfl) dJx4a65c_add_9ea2d_7 (fun H locs hP hD hS => ?_)
  have hP : va_P K.1 vwCl (cW K o ad f d ft [.int (md + (nI 1)), .ref aE, .int (nI n)] T) H := hP
  have hD : va_D A (cW K o ad f d ft [.int (md + (nI 1)), .ref aE, .int (nI n)] T) := hD
  refine lv_aload_n hx hb dJx4a65c_add_9ea2d_10 rfl (lv_at hl 0 rfl) ?_
  refine lv_aload_n hx hb dJx4a65c_add_9ea2d_11 rfl (lv_at hl 1 rfl) ?_
  refine lv_aload_n hx hb dJx4a65c_add_9ea2d_12 rfl (lv_at hl 0 rfl) ?_
  refine va_get (D := K.1) (ci := 0) (v := .ref aE) (C := RJx4a65c) (T := TJx4a65c) (N := 3) hx hb hts iJx4a65c hown hE.k hP 9 rfl rfl 1 (by decide) f9 (fun _ h9 => h9) rfl dJx4a65c_add_9ea2d_13 ?_
  refine lv_aload_n hx hb dJx4a65c_add_9ea2d_16 rfl (lv_at hl 0 rfl) ?_
  refine va_get (D := K.1) (ci := 0) (v := .int (nI n)) (C := RJx4a65c) (T := TJx4a65c) (N := 3) hx hb hts iJx4a65c hown hE.k hP 9 rfl rfl 2 (by decide) f48 (fun _ h9 => h9) rfl dJx4a65c_add_9ea2d_17 ?_
  have hA1 : ∀ q, H.size ≤ q → A q := fun q h => hA0 q (Nat.le_trans hS.1 h)
  refine m_cVv (rest := []) ⟨hx, hb, hml, hown, hts⟩ hE hS (fun _ h => h) (kAdd3B l K A H o ad f d ft (md + nI 1) n T ie aE cap fE hie ip pa vs hip hP hD hA1 hel k9 hn hc hc2 hk9 hk8 r9 hr9) (cwV 3 hts gJx4a65c_add_9ea2d_Jx4a65c_add_72be8 rfl rfl rfl (by decide +kernel) ⟨Nat.le_of_ble_eq_true rfl, Nat.le_of_ble_eq_true rfl⟩) (va_recv hE.k hP (ci := 0) (q0 := 9) rfl rfl) rfl rfl hl.1 rfl (Nat.le_of_ble_eq_true rfl) dJx4a65c_add_9ea2d_20 ⟨Nat.le_of_ble_eq_true rfl, Nat.le_of_ble_eq_true rfl⟩ (fun H locs hp hS hk => ?_)
  obtain ⟨ed', T', hP, hD, hL, hX⟩ := hp
  refine lv_iconst (v := nI 1) hx hb dJx4a65c_add_9ea2d_23 (by decide) ?_
  refine W.eq (g2 := F0 m 24 ls [.int (bI true)]) (by rfl) ?_
  exact m_zret hx hb hr hlk hS (Nat.le_of_ble_eq_true rfl) (Nat.le_of_ble_eq_true rfl) dJx4a65c_add_9ea2d_24 (⟨_, _, hP, hD, hL, hX⟩)

set_option maxHeartbeats 4000000 in
set_option maxRecDepth 100000 in
theorem kAddC (l : Launch) (K : m_K) (A : Nat → Prop) (H0 : Heap) (o : Nat) (ad : Nat → Nat) (f : Nat → Nat → Int32) (d : Int32) (ft : Nat → Option Nat) (md : Int32) (n : Nat) (T : va_W) (ip pa : Nat) (vs : List Value) (hip : T[ip]? = some (pa, .inr (2, vs))) (hP : va_P K.1 vwCl (cW K o ad f d ft [.int md, .ref (K.2.2 0), .int (nI n)] T) H0) (hD : va_D A (cW K o ad f d ft [.int md, .ref (K.2.2 0), .int (nI n)] T)) (hA : ∀ q, H0.size ≤ q → A q) (hn : n = 0) (r9 : Nat → Option Nat) : Met l yJx4a65c_add_9ea2d wsJx4a65c_add_9ea2d ({ frames := 6, cells := 1, slots := 22, locals := 150 } : Room) (m_Pc K A H0 [.ref (ad 8), .ref pa]) (va_Qi (fun (r : Int32) H1 => ∃ (ed' : Value) (T' : va_W), va_P K.1 vwCl (cW K o ad f d ft [.int (md + nI 1), ed', .int (nI (n + 1))] T') H1 ∧ va_D A (cW K o ad f d ft [.int (md + nI 1), ed', .int (nI (n + 1))] T') ∧ LRow K T' ed' (n + 1) (va_up r9 n (some pa)) ∧ Ext T T') m_B A) 1 22 A := by
  refine m_ofW (by decide) rfl (Nat.le_of_ble_eq_true rfl) ?_
  intro p e s m args below meth c ls hx hb hr hml hown hts hlk hnm hE hsz hS hl
  have hl : lv_has ls 2 [(0, .ref (ad 8)), (1, .ref pa)] := hl
  have hA0 : ∀ q, s.heap.size ≤ q → A q := fun q h => hA q (by rw [← hsz]; exact h)
  have sf63 := hts (.sameField "java/util/ArrayList" "java/util/AbstractList" "modCount" "I") (by decide +kernel)
  have iJx4a65c : ∀ w ∈ wsJx4a65c0, w ∈ wsJx4a65c_add_9ea2d := by decide +kernel
  have f63 := hts (.fieldLink RJx4a65c 63 "java/util/ArrayList" "modCount" "I") (by decide +kernel)
  have f9 := hts (.fieldLink RJx4a65c 9 "java/util/ArrayList" "elementData" "[Ljava/lang/Object;") (by decide +kernel)
  have f48 := hts (.fieldLink RJx4a65c 48 "java/util/ArrayList" "size" "I") (by decide +kernel)
  refine lv_aload_n hx hb dJx4a65c_add_9ea2d_0 rfl (lv_at hl 0 rfl) ?_
  refine lv_dup hx hb dJx4a65c_add_9ea2d_1 rfl ?_
  refine va_get (D := K.1) (ci := 0) (v := .int md) (C := RJx4a65c) (T := TJx4a65c) (N := 3) hx hb hts iJx4a65c hown hE.k hP 9 rfl rfl 0 (by decide) f63 (fun x9 h9 => u_same sf63 x9 h9) rfl dJx4a65c_add_9ea2d_2 ?_
  refine lv_iconst (v := nI 1) hx hb dJx4a65c_add_9ea2d_5 (by decide) ?_
  refine lv_iadd hx hb dJx4a65c_add_9ea2d_6 ?_
  refine va_put (D := K.1) (ci := 0) (v := .int (md + (nI 1))) (ty := .int) (C := RJx4a65c) (T := TJx4a65c) (N := 3) hx hb hts iJx4a65c tyJx4a65c tyJx4a65c_ok nmJx4a65c hown hE.k hP hD hS 9 rfl rfl 0 (by decide) f63 (fun x9 h9 => u_same sf63 x9 h9) rfl (by decide +kernel) rfl rfl (Nat.le_of_ble_eq_true rfl) dJx4a65c_add_9ea2d_7 (fun H locs hP hD hS => ?_)
  have hP : va_P K.1 vwCl (cW K o ad f d ft [.int (md + (nI 1)), .ref (K.2.2 0), .int (nI n)] T) H := hP
  have hD : va_D A (cW K o ad f d ft [.int (md + (nI 1)), .ref (K.2.2 0), .int (nI n)] T) := hD
  refine lv_aload_n hx hb dJx4a65c_add_9ea2d_10 rfl (lv_at hl 0 rfl) ?_
  refine lv_aload_n hx hb dJx4a65c_add_9ea2d_11 rfl (lv_at hl 1 rfl) ?_
  refine lv_aload_n hx hb dJx4a65c_add_9ea2d_12 rfl (lv_at hl 0 rfl) ?_
  refine va_get (D := K.1) (ci := 0) (v := .ref (K.2.2 0)) (C := RJx4a65c) (T := TJx4a65c) (N := 3) hx hb hts iJx4a65c hown hE.k hP 9 rfl rfl 1 (by decide) f9 (fun _ h9 => h9) rfl dJx4a65c_add_9ea2d_13 ?_
  refine lv_aload_n hx hb dJx4a65c_add_9ea2d_16 rfl (lv_at hl 0 rfl) ?_
  refine va_get (D := K.1) (ci := 0) (v := .int (nI n)) (C := RJx4a65c) (T := TJx4a65c) (N := 3) hx hb hts iJx4a65c hown hE.k hP 9 rfl rfl 2 (by decide) f48 (fun _ h9 => h9) rfl dJx4a65c_add_9ea2d_17 ?_
  have hA1 : ∀ q, H.size ≤ q → A q := fun q h => hA0 q (Nat.le_trans hS.1 h)
  refine m_cVv (rest := []) ⟨hx, hb, hml, hown, hts⟩ hE hS (fun _ h => h) (kAdd3C l K A H o ad f d ft (md + nI 1) n T ip pa vs hip hP hD hA1 hn r9) (cwV 3 hts gJx4a65c_add_9ea2d_Jx4a65c_add_72be8 rfl rfl rfl (by decide +kernel) ⟨Nat.le_of_ble_eq_true rfl, Nat.le_of_ble_eq_true rfl⟩) (va_recv hE.k hP (ci := 0) (q0 := 9) rfl rfl) rfl rfl hl.1 rfl (Nat.le_of_ble_eq_true rfl) dJx4a65c_add_9ea2d_20 ⟨Nat.le_of_ble_eq_true rfl, Nat.le_of_ble_eq_true rfl⟩ (fun H locs hp hS hk => ?_)
  obtain ⟨ed', T', hP, hD, hL, hX⟩ := hp
  refine lv_iconst (v := nI 1) hx hb dJx4a65c_add_9ea2d_23 (by decide) ?_
  refine W.eq (g2 := F0 m 24 ls [.int (bI true)]) (by rfl) ?_
  exact m_zret hx hb hr hlk hS (Nat.le_of_ble_eq_true rfl) (Nat.le_of_ble_eq_true rfl) dJx4a65c_add_9ea2d_24 (⟨_, _, hP, hD, hL, hX⟩)

theorem rm_cp {fE : Nat → Option Nat} {n : Nat} : ∀ k, k < n - 1 → va_up (va_cpy fE fE (0 + 1) 0 (n - 1 - 0)) (n - 1) none k = fE (k + 1) := fun k hk => by
  unfold va_up va_cpy
  rw [if_neg (by omega), if_pos (by omega)]
  congr 1
  omega

set_option maxHeartbeats 4000000 in
set_option maxRecDepth 100000 in
theorem kFastRemove (l : Launch) (K : m_K) (A : Nat → Prop) (H0 : Heap) (o : Nat) (ad : Nat → Nat) (f : Nat → Nat → Int32) (d : Int32) (ft : Nat → Option Nat) (md : Int32) (n : Nat) (T : va_W) (ie aE cap : Nat) (fE : Nat → Option Nat) (hie : T[ie]? = some (aE, .inl (K.2.1 3, cap, .inr (.inr (.inr (.inr fE)))))) (hP : va_P K.1 vwCl (cW K o ad f d ft [.int md, .ref aE, .int (nI n)] T) H0) (hD : va_D A (cW K o ad f d ft [.int md, .ref aE, .int (nI n)] T)) (hA : ∀ q, H0.size ≤ q → A q) (hel : ∀ i, i < n → ∀ y, fE i = some y → ∃ (j : Nat) (vs : List Value), T[j]? = some (y, .inr (2, vs))) (hn2 : 2 ≤ n) (hnc : n ≤ cap) (hc : cap ≤ 22) : Met l yJx4a65c_fastRemove_b59b0 wsJx4a65c_fastRemove_b59b0 ({ frames := 1, cells := 0, slots := 0, locals := 40 } : Room) (m_Pc K A H0 [.ref (ad 8), .ref aE, .int (nI 0)]) (va_Qv (fun H1 => ∃ g : Nat → Option Nat, va_P K.1 vwCl (cW K o ad f d ft [.int (md + nI 1), .ref aE, .int (nI (n - 1))] (T.set ie (aE, .inl (K.2.1 3, cap, .inr (.inr (.inr (.inr g))))))) H1 ∧ va_D A (cW K o ad f d ft [.int (md + nI 1), .ref aE, .int (nI (n - 1))] (T.set ie (aE, .inl (K.2.1 3, cap, .inr (.inr (.inr (.inr g))))))) ∧ ∀ k, k < n - 1 → g k = fE (k + 1)) m_B A) 0 0 A := by
  refine m_ofW (by decide) rfl (Nat.le_of_ble_eq_true rfl) ?_
  intro p e s m args below meth c ls hx hb hr hml hown hts hlk hnm hE hsz hS hl
  have hl : lv_has ls 4 [(0, .ref (ad 8)), (1, .ref aE), (2, .int (nI 0))] := hl
  have sf63 := hts (.sameField "java/util/ArrayList" "java/util/AbstractList" "modCount" "I") (by decide +kernel)
  have iJx4a65c : ∀ w ∈ wsJx4a65c0, w ∈ wsJx4a65c_fastRemove_b59b0 := by decide +kernel
  have f63 := hts (.fieldLink RJx4a65c 63 "java/util/ArrayList" "modCount" "I") (by decide +kernel)
  have f48 := hts (.fieldLink RJx4a65c 48 "java/util/ArrayList" "size" "I") (by decide +kernel)
  have ac112 := hts (.methodLink RJx4a65c 112 arraycopyName) (by decide +kernel)
  have acn := hts (.native arraycopyName) (by decide +kernel)
  have acs := hts (.static arraycopyName) (by decide +kernel)
  have aci := hts (.initialized "java/lang/System") (by decide +kernel)
  refine lv_aload_n hx hb dJx4a65c_fastRemove_b59b0_0 rfl (lv_at hl 0 rfl) ?_
  refine lv_dup hx hb dJx4a65c_fastRemove_b59b0_1 rfl ?_
  refine va_get (D := K.1) (ci := 0) (v := .int md) (C := RJx4a65c) (T := TJx4a65c) (N := 3) hx hb hts iJx4a65c hown hE.k hP 9 rfl rfl 0 (by decide) f63 (fun x9 h9 => u_same sf63 x9 h9) rfl dJx4a65c_fastRemove_b59b0_2 ?_
  refine lv_iconst (v := nI 1) hx hb dJx4a65c_fastRemove_b59b0_5 (by decide) ?_
  refine lv_iadd hx hb dJx4a65c_fastRemove_b59b0_6 ?_
  refine va_put (D := K.1) (ci := 0) (v := .int (md + (nI 1))) (ty := .int) (C := RJx4a65c) (T := TJx4a65c) (N := 3) hx hb hts iJx4a65c tyJx4a65c tyJx4a65c_ok nmJx4a65c hown hE.k hP hD hS 9 rfl rfl 0 (by decide) f63 (fun x9 h9 => u_same sf63 x9 h9) rfl (by decide +kernel) rfl rfl (Nat.le_of_ble_eq_true rfl) dJx4a65c_fastRemove_b59b0_7 (fun H locs hP hD hS => ?_)
  have hP : va_P K.1 vwCl (cW K o ad f d ft [.int (md + (nI 1)), .ref aE, .int (nI n)] T) H := hP
  have hD : va_D A (cW K o ad f d ft [.int (md + (nI 1)), .ref aE, .int (nI n)] T) := hD
  refine lv_aload_n hx hb dJx4a65c_fastRemove_b59b0_10 rfl (lv_at hl 0 rfl) ?_
  refine va_get (D := K.1) (ci := 0) (v := .int (nI n)) (C := RJx4a65c) (T := TJx4a65c) (N := 3) hx hb hts iJx4a65c hown hE.k hP 9 rfl rfl 2 (by decide) f48 (fun _ h9 => h9) rfl dJx4a65c_fastRemove_b59b0_11 ?_
  refine lv_iconst (v := nI 1) hx hb dJx4a65c_fastRemove_b59b0_14 (by decide) ?_
  refine m_isub hx hb (by omega) dJx4a65c_fastRemove_b59b0_15 ?_
  refine lv_dup hx hb dJx4a65c_fastRemove_b59b0_16 rfl ?_
  refine lv_istore_n (lv' := [(3, .int (nI (n - 1))), (0, .ref (ad 8)), (1, .ref aE), (2, .int (nI 0))]) hx hb dJx4a65c_fastRemove_b59b0_17 rfl hl (by decide) rfl (fun ls hl => ?_)
  refine lv_iload_n hx hb dJx4a65c_fastRemove_b59b0_18 rfl (lv_at hl 3 rfl) ?_
  refine m_icmp_le (tgt := 34) hx hb (by omega) (by omega) dJx4a65c_fastRemove_b59b0_19 (by decide) (fun c_19 => ?_) (fun c_19 => ?_)
  · exact absurd c_19 (by omega)
  · refine lv_aload_n hx hb dJx4a65c_fastRemove_b59b0_22 rfl (lv_at hl 2 rfl) ?_
    refine lv_iload_n hx hb dJx4a65c_fastRemove_b59b0_23 rfl (lv_at hl 3 rfl) ?_
    refine lv_iconst (v := nI 1) hx hb dJx4a65c_fastRemove_b59b0_24 (by decide) ?_
    refine m_iadd hx hb dJx4a65c_fastRemove_b59b0_25 ?_
    refine lv_aload_n hx hb dJx4a65c_fastRemove_b59b0_26 rfl (lv_at hl 2 rfl) ?_
    refine lv_iload_n hx hb dJx4a65c_fastRemove_b59b0_27 rfl (lv_at hl 3 rfl) ?_
    refine lv_iload_n hx hb dJx4a65c_fastRemove_b59b0_28 rfl (lv_at hl 0 rfl) ?_
    refine lv_iload_n hx hb dJx4a65c_fastRemove_b59b0_29 rfl (lv_at hl 3 rfl) ?_
    refine m_isub hx hb (by omega) dJx4a65c_fastRemove_b59b0_30 ?_
    refine va_copyM (E0 := "java/lang/Object") (E1 := "java/lang/Object") hx hb (hml.trans hl.1.symm) hown ac112 acn acs aci hE.k hP hD hS (ie + 10) (ie + 10) 3 3 (cW_t hie) (cW_t hie) rfl rfl (nI_pos (by omega)) (nI_pos (by omega)) (nI_pos (by omega)) (by rw [nI_clamp (by omega), nI_clamp (by omega)]; omega) (by rw [nI_clamp (by omega), nI_clamp (by omega)]; omega) (fun i hi y hy => by
          rw [nI_clamp (by omega)] at hi hy
          obtain ⟨j, vs, hv⟩ := hel (0 + 1 + i) (by omega) y hy
          exact va_rAny (ci := 2) (q0 := j + 10) hE.k hP (cW_t hv) rfl (fun comp c0 e1 e2 => by
            obtain ⟨c3, t3, f1, f2, f3⟩ := Cond.castable_spec (va_Nw.use (A := args) rfl (hE.2.2.2.2.2.1 ("PhraseCatalogue$Pair", "java/lang/Object") (by simp [m_cas])))
            cases e1.symm.trans f2
            cases e2.symm.trans f1
            exact f3)) (Nat.le_of_ble_eq_true rfl) (Nat.le_of_ble_eq_true rfl) dJx4a65c_fastRemove_b59b0_31 (fun H locs hP hD hS => ?_)
    rw [nI_clamp (show 0 + 1 < 2 ^ 31 by omega), nI_clamp (show 0 < 2 ^ 31 by omega), nI_clamp (show n - 1 - 0 < 2 ^ 31 by omega)] at hP hD
    have hP : va_P K.1 vwCl (cW K o ad f d ft [.int (md + (nI 1)), .ref aE, .int (nI n)] (T.set ie (aE, .inl (K.2.1 3, cap, .inr (.inr (.inr (.inr (va_cpy fE fE (0 + 1) 0 (n - 1 - 0))))))))) H := hP
    have hD : va_D A (cW K o ad f d ft [.int (md + (nI 1)), .ref aE, .int (nI n)] (T.set ie (aE, .inl (K.2.1 3, cap, .inr (.inr (.inr (.inr (va_cpy fE fE (0 + 1) 0 (n - 1 - 0))))))))) := hD
    refine lv_aload_n hx hb dJx4a65c_fastRemove_b59b0_34 rfl (lv_at hl 2 rfl) ?_
    refine lv_aload_n hx hb dJx4a65c_fastRemove_b59b0_35 rfl (lv_at hl 1 rfl) ?_
    refine lv_iload_n hx hb dJx4a65c_fastRemove_b59b0_36 rfl (lv_at hl 0 rfl) ?_
    refine lv_dup_x1 hx hb dJx4a65c_fastRemove_b59b0_37 rfl rfl ?_
    refine va_put (D := K.1) (ci := 0) (v := .int (nI (n - 1))) (ty := .int) (C := RJx4a65c) (T := TJx4a65c) (N := 3) hx hb hts iJx4a65c tyJx4a65c tyJx4a65c_ok nmJx4a65c hown hE.k hP hD hS 9 rfl rfl 2 (by decide) f48 (fun _ h9 => h9) rfl (by decide +kernel) rfl rfl (Nat.le_of_ble_eq_true rfl) dJx4a65c_fastRemove_b59b0_38 (fun H locs hP hD hS => ?_)
    have hP : va_P K.1 vwCl (cW K o ad f d ft [.int (md + (nI 1)), .ref aE, .int (nI (n - 1))] (T.set ie (aE, .inl (K.2.1 3, cap, .inr (.inr (.inr (.inr (va_cpy fE fE (0 + 1) 0 (n - 1 - 0))))))))) H := hP
    have hD : va_D A (cW K o ad f d ft [.int (md + (nI 1)), .ref aE, .int (nI (n - 1))] (T.set ie (aE, .inl (K.2.1 3, cap, .inr (.inr (.inr (.inr (va_cpy fE fE (0 + 1) 0 (n - 1 - 0))))))))) := hD
    refine lv_null hx hb dJx4a65c_fastRemove_b59b0_41 ?_
    refine m_aastN3 hx hb hE.k hP hD hS (ie + 10) (cW_t (m_sets hie)) (by omega) (by omega) dJx4a65c_fastRemove_b59b0_42 (fun H locs hP hD hS => ?_)
    have hP : va_P K.1 vwCl (cW K o ad f d ft [.int (md + (nI 1)), .ref aE, .int (nI (n - 1))] ((T.set ie (aE, .inl (K.2.1 3, cap, .inr (.inr (.inr (.inr (va_cpy fE fE (0 + 1) 0 (n - 1 - 0)))))))).set ie (aE, .inl (K.2.1 3, cap, .inr (.inr (.inr (.inr (va_up (va_cpy fE fE (0 + 1) 0 (n - 1 - 0)) (n - 1) none)))))))) H := hP
    have hD : va_D A (cW K o ad f d ft [.int (md + (nI 1)), .ref aE, .int (nI (n - 1))] ((T.set ie (aE, .inl (K.2.1 3, cap, .inr (.inr (.inr (.inr (va_cpy fE fE (0 + 1) 0 (n - 1 - 0)))))))).set ie (aE, .inl (K.2.1 3, cap, .inr (.inr (.inr (.inr (va_up (va_cpy fE fE (0 + 1) 0 (n - 1 - 0)) (n - 1) none)))))))) := hD
    simp only [List.set_set] at hP hD
    exact m_vret hx hb hr hlk hS (Nat.le_of_ble_eq_true rfl) (Nat.le_of_ble_eq_true rfl) dJx4a65c_fastRemove_b59b0_43 (⟨_, hP, hD, rm_cp⟩)

set_option maxHeartbeats 4000000 in
set_option maxRecDepth 100000 in
theorem kRemove0 (l : Launch) (K : m_K) (A : Nat → Prop) (H0 : Heap) (o : Nat) (ad : Nat → Nat) (f : Nat → Nat → Int32) (d : Int32) (ft : Nat → Option Nat) (md : Int32) (n : Nat) (T : va_W) (ie aE cap : Nat) (fE : Nat → Option Nat) (hie : T[ie]? = some (aE, .inl (K.2.1 3, cap, .inr (.inr (.inr (.inr fE)))))) (hP : va_P K.1 vwCl (cW K o ad f d ft [.int md, .ref aE, .int (nI n)] T) H0) (hD : va_D A (cW K o ad f d ft [.int md, .ref aE, .int (nI n)] T)) (hA : ∀ q, H0.size ≤ q → A q) (hel : ∀ i, i < n → ∀ y, fE i = some y → ∃ (j : Nat) (vs : List Value), T[j]? = some (y, .inr (2, vs))) (hn2 : 2 ≤ n) (hnc : n ≤ cap) (hc : cap ≤ 22) : Met l yJx4a65c_remove_915e3 wsJx4a65c_remove_915e3 ({ frames := 2, cells := 0, slots := 0, locals := 63 } : Room) (m_Pc K A H0 [.ref (ad 8), .int (nI 0)]) (va_Qq (fun (r : Option Nat) H1 => ∃ g : Nat → Option Nat, va_P K.1 vwCl (cW K o ad f d ft [.int (md + nI 1), .ref aE, .int (nI (n - 1))] (T.set ie (aE, .inl (K.2.1 3, cap, .inr (.inr (.inr (.inr g))))))) H1 ∧ va_D A (cW K o ad f d ft [.int (md + nI 1), .ref aE, .int (nI (n - 1))] (T.set ie (aE, .inl (K.2.1 3, cap, .inr (.inr (.inr (.inr g))))))) ∧ ∀ k, k < n - 1 → g k = fE (k + 1)) m_B A) 0 0 A := by
  refine m_ofW (by decide) rfl (Nat.le_of_ble_eq_true rfl) ?_
  intro p e s m args below meth c ls hx hb hr hml hown hts hlk hnm hE hsz hS hl
  have hl : lv_has ls 4 [(0, .ref (ad 8)), (1, .int (nI 0))] := hl
  have iJx4a65c : ∀ w ∈ wsJx4a65c0, w ∈ wsJx4a65c_remove_915e3 := by decide +kernel
  have f48 := hts (.fieldLink RJx4a65c 48 "java/util/ArrayList" "size" "I") (by decide +kernel)
  have f9 := hts (.fieldLink RJx4a65c 9 "java/util/ArrayList" "elementData" "[Ljava/lang/Object;") (by decide +kernel)
  refine lv_iload_n hx hb dJx4a65c_remove_915e3_0 rfl (lv_at hl 1 rfl) ?_
  refine lv_aload_n hx hb dJx4a65c_remove_915e3_1 rfl (lv_at hl 0 rfl) ?_
  refine va_get (D := K.1) (ci := 0) (v := .int (nI n)) (C := RJx4a65c) (T := TJx4a65c) (N := 3) hx hb hts iJx4a65c hown hE.k hP 9 rfl rfl 2 (by decide) f48 (fun _ h9 => h9) rfl dJx4a65c_remove_915e3_2 ?_
  refine m_cSi (rest := []) ⟨hx, hb, hml, hown, hts⟩ hE hS (fun _ h => h) (kJ15_checkIndex_7cf53 l K A H0 0 n (by omega) (by omega)) (va_cwS 2 hts gJx4a65c_remove_915e3_J15_checkIndex_7cf53 rfl rfl rfl (by decide +kernel) ⟨Nat.le_of_ble_eq_true rfl, Nat.le_of_ble_eq_true rfl⟩) rfl rfl hl.1 rfl (Nat.le_of_ble_eq_true rfl) dJx4a65c_remove_915e3_5 ⟨Nat.le_of_ble_eq_true rfl, Nat.le_of_ble_eq_true rfl⟩ (fun r H1 locs hp hS hk => ?_)
  obtain ⟨rfl, rfl⟩ := hp
  refine lv_pop hx hb dJx4a65c_remove_915e3_8 rfl ?_
  refine lv_aload_n hx hb dJx4a65c_remove_915e3_9 rfl (lv_at hl 0 rfl) ?_
  refine va_get (D := K.1) (ci := 0) (v := .ref aE) (C := RJx4a65c) (T := TJx4a65c) (N := 3) hx hb hts iJx4a65c hown hE.k hP 9 rfl rfl 1 (by decide) f9 (fun _ h9 => h9) rfl dJx4a65c_remove_915e3_10 ?_
  refine lv_astore_n (lv' := [(2, .ref aE), (0, .ref (ad 8)), (1, .int (nI 0))]) hx hb dJx4a65c_remove_915e3_13 rfl hl (by decide) rfl (fun ls hl => ?_)
  refine lv_aload_n hx hb dJx4a65c_remove_915e3_14 rfl (lv_at hl 0 rfl) ?_
  refine lv_iload_n hx hb dJx4a65c_remove_915e3_15 rfl (lv_at hl 2 rfl) ?_
  refine m_aald3 hx hb hE.k hP (ie + 10) (cW_t hie) (by omega) (by omega) rfl dJx4a65c_remove_915e3_16 ?_
  refine m_astore_nq (lv' := [(2, .ref aE), (0, .ref (ad 8)), (1, .int (nI 0))]) hx hb dJx4a65c_remove_915e3_17 rfl hl (by decide) (fun v9 hv9 => rfl) (fun ls hl => ?_)
  refine lv_aload_n hx hb dJx4a65c_remove_915e3_18 rfl (lv_at hl 2 rfl) ?_
  refine lv_aload_n hx hb dJx4a65c_remove_915e3_19 rfl (lv_at hl 1 rfl) ?_
  refine lv_iload_n hx hb dJx4a65c_remove_915e3_20 rfl (lv_at hl 3 rfl) ?_
  refine m_cVv (rest := []) ⟨hx, hb, hml, hown, hts⟩ hE hS (fun _ h => h) (kFastRemove l K A H0 o ad f d ft md n T ie aE cap fE hie hP hD hA hel hn2 hnc hc) (cwV 2 hts gJx4a65c_remove_915e3_Jx4a65c_fastRemove_b59b0 rfl rfl rfl (by decide +kernel) ⟨Nat.le_of_ble_eq_true rfl, Nat.le_of_ble_eq_true rfl⟩) (va_recv hE.k hP (ci := 0) (q0 := 9) rfl rfl) rfl rfl hl.1 rfl (Nat.le_of_ble_eq_true rfl) dJx4a65c_remove_915e3_21 ⟨Nat.le_of_ble_eq_true rfl, Nat.le_of_ble_eq_true rfl⟩ (fun H locs hp hS hk => ?_)
  obtain ⟨g9, hP, hD, hg9⟩ := hp
  refine m_aload_nq hx hb dJx4a65c_remove_915e3_24 rfl (lv_at hl 0 rfl) ?_
  exact m_qret (r := fE 0) hx hb hr (Or.inl ⟨_, rfl⟩) hlk hS (Nat.le_of_ble_eq_true rfl) (Nat.le_of_ble_eq_true rfl) dJx4a65c_remove_915e3_25 (⟨g9, hP, hD, hg9⟩)
