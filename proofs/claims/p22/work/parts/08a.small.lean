/-! THE LAW: its small methods -/
theorem and_max (x : Int32) : ∃ j, j < 2147483648 ∧ x &&& 2147483647 = nI j := by
  refine nI_of (fun h => ?_)
  have h1 := Int32.lt_iff_toInt_lt.mp h
  have h2 : (x &&& 2147483647).toBitVec.toInt < 0 := h1
  have h3 : (x &&& 2147483647).toBitVec.msb = true := by rw [BitVec.msb_eq_toInt]; exact decide_eq_true h2
  rw [Int32.toBitVec_and, BitVec.msb_and, show (2147483647 : Int32).toBitVec.msb = false by decide, Bool.and_false] at h3
  cases h3

set_option maxHeartbeats 4000000 in
set_option maxRecDepth 100000 in
theorem kL_from (l : Launch) (K : m_K) (A : Nat → Prop) (H0 : Heap) (hL : K.2.2 3 ≤ 260) (k b : Nat) (hk2 : k < 2147483648) (hb9 : 0 < b) (hb2 : b < 2147483648) : Met l yL_from wsL_from ({ frames := 0, cells := 0, slots := 0, locals := 0 } : Room) (m_Pc K A H0 [.ref (K.2.2 2), .int (nI k), .int (nI b)]) (va_Qi (fun r H1 => ∃ j, j < b ∧ r = nI j ∧ H0 = H1) m_B A) 0 0 A := by
  refine m_ofW (by decide) rfl (Nat.le_of_ble_eq_true rfl) ?_
  intro p e s m args below meth c ls hx hb hr hml hown hts hlk hnm hE hsz hS hl
  have hl : lv_has ls 4 [(0, .ref (K.2.2 2)), (1, .int (nI k)), (2, .int (nI b))] := hl
  obtain ⟨xs, hX⟩ := hE.2.2.2.2.2.2.2.2.2.2.2.2.1
  have hXA := hE.2.2.2.2.2.2.2.2.2.2.2.2.2
  have hS2 := hS
  rw [hsz] at hX hS2
  have hXl := va_Xlt hX
  have k7 := hts (.constant RL 7 159319) (by decide +kernel)
  have k8 := hts (.constant RL 8 2147483647) (by decide +kernel)
  refine lv_aload_n hx hb dL_from_0 rfl (lv_at hl 0 rfl) ?_
  refine va_slen hx hb hX hXl hXA hS2 dL_from_1 ?_
  rw [show Int32.ofNat (K.2.2 3) = nI (K.2.2 3) from rfl]
  refine m_if_ne (tgt := 17) hx hb (by omega) dL_from_2 (by decide) (fun c_2 => ?_) (fun c_2 => ?_)
  · refine lv_aload_n hx hb dL_from_17 rfl (lv_at hl 0 rfl) ?_
    refine lv_iload_n hx hb dL_from_18 rfl (lv_at hl 1 rfl) ?_
    refine lv_aload_n hx hb dL_from_19 rfl (lv_at hl 0 rfl) ?_
    refine va_slen hx hb hX hXl hXA hS2 dL_from_20 ?_
    rw [show Int32.ofNat (K.2.2 3) = nI (K.2.2 3) from rfl]
    refine m_irem hx hb (by omega) (by omega) (by omega) dL_from_21 ?_
    refine va_sld hx hb hX hXl hXA hS2 (vp_in_nI (Nat.mod_lt _ (by omega)) (by omega)) dL_from_22 ?_
    generalize xs _ = y9
    refine lv_ldc hx hb hown k7 dL_from_23 ?_
    refine lv_iload_n hx hb dL_from_25 rfl (lv_at hl 1 rfl) ?_
    refine lv_imul hx hb dL_from_26 ?_
    refine lv_ixor hx hb dL_from_27 ?_
    generalize (y9 ^^^ (159319 * (nI k))) = t9
    refine lv_istore_n (lv' := [(3, .int t9), (0, .ref (K.2.2 2)), (1, .int (nI k)), (2, .int (nI b))]) hx hb dL_from_28 rfl hl (by decide) rfl (fun ls hl => ?_)
    refine lv_iload_n hx hb dL_from_29 rfl (lv_at hl 0 rfl) ?_
    refine lv_ldc hx hb hown k8 dL_from_30 ?_
    refine lv_iand hx hb dL_from_32 ?_
    obtain ⟨j9, hj9, e9⟩ := and_max t9
    rw [e9]
    refine lv_iload_n hx hb dL_from_33 rfl (lv_at hl 3 rfl) ?_
    refine m_irem hx hb (by omega) (by omega) (by omega) dL_from_34 ?_
    exact m_iret hx hb hr hlk hS (Nat.le_of_ble_eq_true rfl) (Nat.le_of_ble_eq_true rfl) dL_from_35 (⟨j9 % b, Nat.mod_lt _ hb9, rfl, rfl⟩)
  · refine lv_sipush (v := nI 191) hx hb dL_from_5 (by decide) ?_
    refine lv_iload_n hx hb dL_from_8 rfl (lv_at hl 1 rfl) ?_
    refine m_imul hx hb dL_from_9 ?_
    refine lv_sipush (v := nI 163) hx hb dL_from_10 (by decide) ?_
    refine m_iadd hx hb dL_from_13 ?_
    refine lv_goto (tgt := 28) hx hb dL_from_14 (by decide) ?_
    generalize nI ((191 * k) + 163) = t9
    refine lv_istore_n (lv' := [(3, .int t9), (0, .ref (K.2.2 2)), (1, .int (nI k)), (2, .int (nI b))]) hx hb dL_from_28 rfl hl (by decide) rfl (fun ls hl => ?_)
    refine lv_iload_n hx hb dL_from_29 rfl (lv_at hl 0 rfl) ?_
    refine lv_ldc hx hb hown k8 dL_from_30 ?_
    refine lv_iand hx hb dL_from_32 ?_
    obtain ⟨j9, hj9, e9⟩ := and_max t9
    rw [e9]
    refine lv_iload_n hx hb dL_from_33 rfl (lv_at hl 3 rfl) ?_
    refine m_irem hx hb (by omega) (by omega) (by omega) dL_from_34 ?_
    exact m_iret hx hb hr hlk hS (Nat.le_of_ble_eq_true rfl) (Nat.le_of_ble_eq_true rfl) dL_from_35 (⟨j9 % b, Nat.mod_lt _ hb9, rfl, rfl⟩)

set_option maxHeartbeats 4000000 in
set_option maxRecDepth 100000 in
theorem kL_size (l : Launch) (K : m_K) (A : Nat → Prop) (H0 : Heap) (R : List Nat) (hR : gR R) : Met l yL_size wsL_size ({ frames := 0, cells := 0, slots := 0, locals := 0 } : Room) (m_Pc K A H0 [.int (nI (enR R))]) (va_Qi (fun r H1 => r = nI R.length ∧ H0 = H1) m_B A) 0 0 A := by
  refine m_ofW (by decide) rfl (Nat.le_of_ble_eq_true rfl) ?_
  intro p e s m args below meth c ls hx hb hr hml hown hts hlk hnm hE hsz hS hl
  have hl : lv_has ls 3 [(0, .int (nI (enR R)))] := hl
  refine lv_iconst (v := nI 0) hx hb dL_size_0 (by decide) ?_
  refine lv_istore_n (lv' := [(1, .int (nI 0)), (0, .int (nI (enR R)))]) hx hb dL_size_1 rfl hl (by decide) rfl (fun ls hl => ?_)
  refine lv_iload_n hx hb dL_size_2 rfl (lv_at hl 1 rfl) ?_
  refine lv_istore_n (lv' := [(2, .int (nI (enR R))), (1, .int (nI 0)), (0, .int (nI (enR R)))]) hx hb dL_size_3 rfl hl (by decide) rfl (fun ls hl => ?_)
  refine (?_ : ∀ (n9 : Nat) (c9 : Nat) (locs : List Loc) (ls : Array Slot), c9 ≤ R.length → R.length < c9 + n9 → va_S A s.heap H0 locs → lv_has ls 3 [(2, .int (nI (enR (R.drop c9)))), (1, .int (nI c9)), (0, .int (nI (enR R)))] → W p l e _ s m args below meth c H0 locs 0 0 _ (F0 m 4 ls [])) (R.length + 1) 0 _ ls (by omega) (by omega)  hS (lv_sub hl [0, 1, 2] rfl)
  clear hS hl
  intro n9
  induction n9 with
  | zero => intro c9 locs ls hi9 hn9; exact absurd hn9 (by omega)
  | succ n9 ih =>
    intro c9 locs ls hi9 hn9 hS hl
    refine lv_iload_n hx hb dL_size_4 rfl (lv_at hl 0 rfl) ?_
    have hb9 := hR.lt c9
    refine m_if_le (tgt := 20) hx hb (by omega) dL_size_5 (by decide) (fun c_5 => ?_) (fun c_5 => ?_)
    · have hc9 := enR_z hR hi9 c_5
      refine lv_iload_n hx hb dL_size_20 rfl (lv_at hl 1 rfl) ?_
      exact m_iret hx hb hr hlk hS (Nat.le_of_ble_eq_true rfl) (Nat.le_of_ble_eq_true rfl) dL_size_21 (⟨by rw [hc9], rfl⟩)
    · have hc9 : c9 < R.length := enR_p (R := R) (by omega)
      refine lv_iinc (v := nI (c9 + 1)) (lv' := [(1, .int (nI (c9 + 1))), (2, .int (nI (enR (R.drop c9)))), (0, .int (nI (enR R)))]) hx hb dL_size_8 hl (k := 1) rfl (m_inc _) (by decide) rfl (fun ls hl => ?_)
      refine lv_iload_n hx hb dL_size_11 rfl (lv_at hl 1 rfl) ?_
      refine lv_sipush (v := nI 128) hx hb dL_size_12 (by decide) ?_
      refine m_idiv hx hb (by omega) (by omega) (by omega) dL_size_15 ?_
      rw [enR_div hR hc9]
      refine lv_istore_n (lv' := [(2, .int (nI (enR (R.drop (c9 + 1))))), (1, .int (nI (c9 + 1))), (0, .int (nI (enR R)))]) hx hb dL_size_16 rfl hl (by decide) rfl (fun ls hl => ?_)
      refine lv_goto (tgt := 4) hx hb dL_size_17 (by decide) ?_
      exact ih (c9 + 1) _ ls (by omega) (by omega)  hS (lv_sub hl [0, 1, 2] rfl)

set_option maxHeartbeats 4000000 in
set_option maxRecDepth 100000 in
theorem kL_has (l : Launch) (K : m_K) (A : Nat → Prop) (H0 : Heap) (R : List Nat) (hR : gR R) (s9 : Nat) (hs9 : s9 < 128) : Met l yL_has wsL_has ({ frames := 0, cells := 0, slots := 0, locals := 0 } : Room) (m_Pc K A H0 [.int (nI (enR R)), .int (nI s9)]) (va_Qi (fun r H1 => r = bI (hasR R s9) ∧ H0 = H1) m_B A) 0 0 A := by
  refine m_ofW (by decide) rfl (Nat.le_of_ble_eq_true rfl) ?_
  intro p e s m args below meth c ls hx hb hr hml hown hts hlk hnm hE hsz hS hl
  have hl : lv_has ls 4 [(0, .int (nI (enR R))), (1, .int (nI s9))] := hl
  refine lv_iconst (v := nI 0) hx hb dL_has_0 (by decide) ?_
  refine W.eq (g2 := F0 m 1 ls [.int (bI false)]) (by rfl) ?_
  refine lv_istore_n (lv' := [(2, .int (bI false)), (0, .int (nI (enR R))), (1, .int (nI s9))]) hx hb dL_has_1 rfl hl (by decide) rfl (fun ls hl => ?_)
  refine lv_iload_n hx hb dL_has_2 rfl (lv_at hl 1 rfl) ?_
  refine lv_istore_n (lv' := [(3, .int (nI (enR R))), (2, .int (bI false)), (0, .int (nI (enR R))), (1, .int (nI s9))]) hx hb dL_has_3 rfl hl (by decide) rfl (fun ls hl => ?_)
  refine (?_ : ∀ (n9 : Nat) (c9 : Nat) (b : Bool) (locs : List Loc) (ls : Array Slot), c9 ≤ R.length → R.length < c9 + n9 → b = anyC R s9 c9 → va_S A s.heap H0 locs → lv_has ls 4 [(3, .int (nI (enR (R.drop c9)))), (2, .int (bI b)), (0, .int (nI (enR R))), (1, .int (nI s9))] → W p l e _ s m args below meth c H0 locs 0 0 _ (F0 m 4 ls [])) (R.length + 1) 0 false _ ls (by omega) (by omega) rfl hS (lv_sub hl [0, 1, 2, 3] rfl)
  clear hS hl
  intro n9
  induction n9 with
  | zero => intro c9 b locs ls hi9 hn9; exact absurd hn9 (by omega)
  | succ n9 ih =>
    intro c9 b locs ls hi9 hn9 hb9 hS hl
    refine lv_iload_n hx hb dL_has_4 rfl (lv_at hl 0 rfl) ?_
    have hb8 := hR.lt c9
    refine m_if_le (tgt := 36) hx hb (by omega) dL_has_5 (by decide) (fun c_5 => ?_) (fun c_5 => ?_)
    · have hc9 := enR_z hR hi9 c_5
      refine lv_iload_n hx hb dL_has_36 rfl (lv_at hl 1 rfl) ?_
      exact m_zret hx hb hr hlk hS (Nat.le_of_ble_eq_true rfl) (Nat.le_of_ble_eq_true rfl) dL_has_37 (⟨by rw [hb9, hc9]; rfl, rfl⟩)
    · have hc9 : c9 < R.length := enR_p (R := R) (by omega)
      have hd9 := hR.d hc9
      refine lv_iload_n hx hb dL_has_8 rfl (lv_at hl 1 rfl) ?_
      refine m_if_ne_b (tgt := 21) hx hb dL_has_9 (by decide) (fun c_9 => ?_) (fun c_9 => ?_)
      · refine lv_iconst (v := nI 1) hx hb dL_has_21 (by decide) ?_
        refine lv_goto (tgt := 26) hx hb dL_has_22 (by decide) ?_
        refine W.eq (g2 := F0 m 26 ls [.int (bI true)]) (by rfl) ?_
        refine lv_istore_n (lv' := [(2, .int (bI true)), (3, .int (nI (enR (R.drop c9)))), (0, .int (nI (enR R))), (1, .int (nI s9))]) hx hb dL_has_26 rfl hl (by decide) rfl (fun ls hl => ?_)
        refine lv_iload_n hx hb dL_has_27 rfl (lv_at hl 1 rfl) ?_
        refine lv_sipush (v := nI 128) hx hb dL_has_28 (by decide) ?_
        refine m_idiv hx hb (by omega) (by omega) (by omega) dL_has_31 ?_
        rw [enR_div hR hc9]
        refine lv_istore_n (lv' := [(3, .int (nI (enR (R.drop (c9 + 1))))), (2, .int (bI true)), (0, .int (nI (enR R))), (1, .int (nI s9))]) hx hb dL_has_32 rfl hl (by decide) rfl (fun ls hl => ?_)
        refine lv_goto (tgt := 4) hx hb dL_has_33 (by decide) ?_
        exact ih (c9 + 1) true _ ls (by omega) (by omega) (by rw [anyC, ← hb9, c_9]; rfl) hS (lv_sub hl [0, 1, 2, 3] rfl)
      · refine lv_iload_n hx hb dL_has_12 rfl (lv_at hl 0 rfl) ?_
        refine lv_sipush (v := nI 128) hx hb dL_has_13 (by decide) ?_
        refine m_irem hx hb (by omega) (by omega) (by omega) dL_has_16 ?_
        rw [enR_mod hR hc9]
        refine lv_iload_n hx hb dL_has_17 rfl (lv_at hl 3 rfl) ?_
        refine m_icmp_ne (tgt := 25) hx hb (by omega) (by omega) dL_has_18 (by decide) (fun c_18 => ?_) (fun c_18 => ?_)
        · refine lv_iconst (v := nI 0) hx hb dL_has_25 (by decide) ?_
          refine W.eq (g2 := F0 m 26 ls [.int (bI false)]) (by rfl) ?_
          refine lv_istore_n (lv' := [(2, .int (bI false)), (3, .int (nI (enR (R.drop c9)))), (0, .int (nI (enR R))), (1, .int (nI s9))]) hx hb dL_has_26 rfl hl (by decide) rfl (fun ls hl => ?_)
          refine lv_iload_n hx hb dL_has_27 rfl (lv_at hl 1 rfl) ?_
          refine lv_sipush (v := nI 128) hx hb dL_has_28 (by decide) ?_
          refine m_idiv hx hb (by omega) (by omega) (by omega) dL_has_31 ?_
          rw [enR_div hR hc9]
          refine lv_istore_n (lv' := [(3, .int (nI (enR (R.drop (c9 + 1))))), (2, .int (bI false)), (0, .int (nI (enR R))), (1, .int (nI s9))]) hx hb dL_has_32 rfl hl (by decide) rfl (fun ls hl => ?_)
          refine lv_goto (tgt := 4) hx hb dL_has_33 (by decide) ?_
          exact ih (c9 + 1) false _ ls (by omega) (by omega) (by rw [anyC, ← hb9, c_9, beq_eq_false_iff_ne.mpr c_18]; rfl) hS (lv_sub hl [0, 1, 2, 3] rfl)
        · refine lv_iconst (v := nI 1) hx hb dL_has_21 (by decide) ?_
          refine lv_goto (tgt := 26) hx hb dL_has_22 (by decide) ?_
          refine W.eq (g2 := F0 m 26 ls [.int (bI true)]) (by rfl) ?_
          refine lv_istore_n (lv' := [(2, .int (bI true)), (3, .int (nI (enR (R.drop c9)))), (0, .int (nI (enR R))), (1, .int (nI s9))]) hx hb dL_has_26 rfl hl (by decide) rfl (fun ls hl => ?_)
          refine lv_iload_n hx hb dL_has_27 rfl (lv_at hl 1 rfl) ?_
          refine lv_sipush (v := nI 128) hx hb dL_has_28 (by decide) ?_
          refine m_idiv hx hb (by omega) (by omega) (by omega) dL_has_31 ?_
          rw [enR_div hR hc9]
          refine lv_istore_n (lv' := [(3, .int (nI (enR (R.drop (c9 + 1))))), (2, .int (bI true)), (0, .int (nI (enR R))), (1, .int (nI s9))]) hx hb dL_has_32 rfl hl (by decide) rfl (fun ls hl => ?_)
          refine lv_goto (tgt := 4) hx hb dL_has_33 (by decide) ?_
          exact ih (c9 + 1) true _ ls (by omega) (by omega) (by rw [anyC, beq_iff_eq.mpr c_18, Bool.or_true]) hS (lv_sub hl [0, 1, 2, 3] rfl)

set_option maxHeartbeats 4000000 in
set_option maxRecDepth 100000 in
theorem kL_signAt (l : Launch) (K : m_K) (A : Nat → Prop) (H0 : Heap) (R : List Nat) (hR : gR R) (p9 : Nat) (hp9 : p9 < R.length) : Met l yL_signAt wsL_signAt ({ frames := 1, cells := 0, slots := 0, locals := 22 } : Room) (m_Pc K A H0 [.int (nI (enR R)), .int (nI p9)]) (va_Qi (fun r H1 => r = nI (sgR R p9) ∧ H0 = H1) m_B A) 0 0 A := by
  refine m_ofW (by decide) rfl (Nat.le_of_ble_eq_true rfl) ?_
  intro p e s m args below meth c ls hx hb hr hml hown hts hlk hnm hE hsz hS hl
  have hl : lv_has ls 4 [(0, .int (nI (enR R))), (1, .int (nI p9))] := hl
  have hR4 := hR.2
  refine lv_iload_n hx hb dL_signAt_0 rfl (lv_at hl 0 rfl) ?_
  refine lv_istore_n (lv' := [(2, .int (nI (enR R))), (0, .int (nI (enR R))), (1, .int (nI p9))]) hx hb dL_signAt_1 rfl hl (by decide) rfl (fun ls hl => ?_)
  refine lv_iload_n hx hb dL_signAt_2 rfl (lv_at hl 1 rfl) ?_
  refine m_cSi (rest := []) ⟨hx, hb, hml, hown, hts⟩ hE hS (fun _ h => h) (kL_size l K A _ R hR) (va_cwS 1 hts gL_signAt_L_size rfl rfl rfl (by decide +kernel) ⟨Nat.le_of_ble_eq_true rfl, Nat.le_of_ble_eq_true rfl⟩) rfl rfl hl.1 rfl (Nat.le_of_ble_eq_true rfl) dL_signAt_3 ⟨Nat.le_of_ble_eq_true rfl, Nat.le_of_ble_eq_true rfl⟩ (fun r H1 locs hp hS hk => ?_)
  obtain ⟨rfl, rfl⟩ := hp
  refine lv_iconst (v := nI 1) hx hb dL_signAt_6 (by decide) ?_
  refine m_isub hx hb (by omega) dL_signAt_7 ?_
  refine lv_istore_n (lv' := [(3, .int (nI (R.length - 1))), (2, .int (nI (enR R))), (0, .int (nI (enR R))), (1, .int (nI p9))]) hx hb dL_signAt_8 rfl hl (by decide) rfl (fun ls hl => ?_)
  refine (?_ : ∀ (n9 : Nat) (c9 : Nat) (locs : List Loc) (ls : Array Slot), c9 ≤ R.length - 1 - p9 → R.length - 1 - p9 < c9 + n9 → va_S A s.heap H0 locs → lv_has ls 4 [(3, .int (nI (R.length - 1 - c9))), (2, .int (nI (enR (R.drop c9)))), (0, .int (nI (enR R))), (1, .int (nI p9))] → W p l e _ s m args below meth c H0 locs 0 0 _ (F0 m 9 ls [])) (R.length - 1 - p9 + 1) 0 _ ls (by omega) (by omega)  hS (lv_sub hl [0, 1, 2, 3] rfl)
  clear hS hl
  intro n9
  induction n9 with
  | zero => intro c9 locs ls hi9 hn9; exact absurd hn9 (by omega)
  | succ n9 ih =>
    intro c9 locs ls hi9 hn9 hS hl
    refine lv_iload_n hx hb dL_signAt_9 rfl (lv_at hl 0 rfl) ?_
    refine lv_iload_n hx hb dL_signAt_10 rfl (lv_at hl 3 rfl) ?_
    refine m_icmp_le (tgt := 26) hx hb (by omega) (by omega) dL_signAt_11 (by decide) (fun c_11 => ?_) (fun c_11 => ?_)
    · have hb8 := hR.lt c9
      refine lv_iload_n hx hb dL_signAt_26 rfl (lv_at hl 1 rfl) ?_
      refine lv_sipush (v := nI 128) hx hb dL_signAt_27 (by decide) ?_
      refine m_irem hx hb (by omega) (by omega) (by omega) dL_signAt_30 ?_
      rw [enR_mod hR (show c9 < R.length by omega), show R.getD c9 0 = sgR R p9 by rw [sgR, show R.length - 1 - p9 = c9 by omega]]
      exact m_iret hx hb hr hlk hS (Nat.le_of_ble_eq_true rfl) (Nat.le_of_ble_eq_true rfl) dL_signAt_31 (⟨rfl, rfl⟩)
    · have hb8 := hR.lt c9
      refine lv_iload_n hx hb dL_signAt_14 rfl (lv_at hl 1 rfl) ?_
      refine lv_sipush (v := nI 128) hx hb dL_signAt_15 (by decide) ?_
      refine m_idiv hx hb (by omega) (by omega) (by omega) dL_signAt_18 ?_
      rw [enR_div hR (show c9 < R.length by omega)]
      refine lv_istore_n (lv' := [(2, .int (nI (enR (R.drop (c9 + 1))))), (3, .int (nI (R.length - 1 - c9))), (0, .int (nI (enR R))), (1, .int (nI p9))]) hx hb dL_signAt_19 rfl hl (by decide) rfl (fun ls hl => ?_)
      refine lv_iinc (v := nI (R.length - 1 - (c9 + 1))) (lv' := [(3, .int (nI (R.length - 1 - (c9 + 1)))), (2, .int (nI (enR (R.drop (c9 + 1))))), (0, .int (nI (enR R))), (1, .int (nI p9))]) hx hb dL_signAt_20 hl (k := 1) rfl ((m_decr (by omega)).trans (congrArg nI (by omega))) (by decide) rfl (fun ls hl => ?_)
      refine lv_goto (tgt := 9) hx hb dL_signAt_23 (by decide) ?_
      exact ih (c9 + 1) _ ls (by omega) (by omega)  hS (lv_sub hl [0, 1, 2, 3] rfl)

set_option maxHeartbeats 4000000 in
set_option maxRecDepth 100000 in
theorem kL_kind (l : Launch) (K : m_K) (A : Nat → Prop) (H0 : Heap) (a4 : Nat) (w4 : Nat → Int32) (hP : va_P K.1 vwCl [(a4, .inl (K.2.1 0, 9, .inl w4))] H0) (fb : Nat → Nat) (on fw : Nat → Int32) (hn : nRep w4 fb on fw) (g : Nat) (hg9 : g < 3) (x : Int32) : Met l yL_kind wsL_kind ({ frames := 0, cells := 0, slots := 0, locals := 0 } : Room) (m_Pc K A H0 [.ref a4, .int (nI g), .int x]) (va_Qi (fun r H1 => r = nI (kindF on fw g x) ∧ H0 = H1) m_B A) 0 0 A := by
  refine m_ofW (by decide) rfl (Nat.le_of_ble_eq_true rfl) ?_
  intro p e s m args below meth c ls hx hb hr hml hown hts hlk hnm hE hsz hS hl
  have hl : lv_has ls 3 [(0, .ref a4), (1, .int (nI g)), (2, .int x)] := hl
  refine lv_iload_n hx hb dL_kind_0 rfl (lv_at hl 2 rfl) ?_
  refine lv_if_eq (tgt := 23) hx hb dL_kind_1 (by decide) (fun c_1 => ?_) (fun c_1 => ?_)
  · refine lv_iconst (v := nI 2) hx hb dL_kind_23 (by decide) ?_
    exact m_iret hx hb hr hlk hS (Nat.le_of_ble_eq_true rfl) (Nat.le_of_ble_eq_true rfl) dL_kind_24 (⟨by rw [kindF, if_pos c_1], rfl⟩)
  · refine lv_iload_n hx hb dL_kind_4 rfl (lv_at hl 2 rfl) ?_
    refine lv_aload_n hx hb dL_kind_5 rfl (lv_at hl 0 rfl) ?_
    refine lv_iconst (v := nI 3) hx hb dL_kind_6 (by decide) ?_
    refine lv_iload_n hx hb dL_kind_7 rfl (lv_at hl 1 rfl) ?_
    refine m_iadd hx hb dL_kind_8 ?_
    refine m_iald hx hb hE.k hP 0 rfl (by omega) (by omega) ((hn g hg9).2.1) dL_kind_9 ?_
    refine lv_icmp_le (tgt := 25) hx hb dL_kind_10 (by decide) (fun c_10 => ?_) (fun c_10 => ?_)
    · refine lv_iload_n hx hb dL_kind_25 rfl (lv_at hl 2 rfl) ?_
      refine lv_aload_n hx hb dL_kind_26 rfl (lv_at hl 0 rfl) ?_
      refine lv_iconst (v := nI 3) hx hb dL_kind_27 (by decide) ?_
      refine lv_iload_n hx hb dL_kind_28 rfl (lv_at hl 1 rfl) ?_
      refine m_iadd hx hb dL_kind_29 ?_
      refine m_iald hx hb hE.k hP 0 rfl (by omega) (by omega) ((hn g hg9).2.1) dL_kind_30 ?_
      refine lv_icmp_gt (tgt := 38) hx hb dL_kind_31 (by decide) (fun c_31 => ?_) (fun c_31 => ?_)
      · exact absurd c_10 (Int32.not_le.mpr c_31)
      · refine lv_iconst (v := nI 0) hx hb dL_kind_34 (by decide) ?_
        refine lv_goto (tgt := 39) hx hb dL_kind_35 (by decide) ?_
        exact m_iret hx hb hr hlk hS (Nat.le_of_ble_eq_true rfl) (Nat.le_of_ble_eq_true rfl) dL_kind_39 (⟨by rw [kindF, if_neg c_1, if_pos c_10], rfl⟩)
    · refine lv_iload_n hx hb dL_kind_13 rfl (lv_at hl 2 rfl) ?_
      refine lv_aload_n hx hb dL_kind_14 rfl (lv_at hl 0 rfl) ?_
      refine lv_bipush (v := nI 6) hx hb dL_kind_15 (by decide) ?_
      refine lv_iload_n hx hb dL_kind_17 rfl (lv_at hl 1 rfl) ?_
      refine m_iadd hx hb dL_kind_18 ?_
      refine m_iald hx hb hE.k hP 0 rfl (by omega) (by omega) ((hn g hg9).2.2) dL_kind_19 ?_
      refine lv_icmp_le (tgt := 25) hx hb dL_kind_20 (by decide) (fun c_20 => ?_) (fun c_20 => ?_)
      · refine lv_iload_n hx hb dL_kind_25 rfl (lv_at hl 2 rfl) ?_
        refine lv_aload_n hx hb dL_kind_26 rfl (lv_at hl 0 rfl) ?_
        refine lv_iconst (v := nI 3) hx hb dL_kind_27 (by decide) ?_
        refine lv_iload_n hx hb dL_kind_28 rfl (lv_at hl 1 rfl) ?_
        refine m_iadd hx hb dL_kind_29 ?_
        refine m_iald hx hb hE.k hP 0 rfl (by omega) (by omega) ((hn g hg9).2.1) dL_kind_30 ?_
        refine lv_icmp_gt (tgt := 38) hx hb dL_kind_31 (by decide) (fun c_31 => ?_) (fun c_31 => ?_)
        · refine lv_iconst (v := nI 1) hx hb dL_kind_38 (by decide) ?_
          exact m_iret hx hb hr hlk hS (Nat.le_of_ble_eq_true rfl) (Nat.le_of_ble_eq_true rfl) dL_kind_39 (⟨by rw [kindF, if_neg c_1, if_neg c_10, if_pos c_20], rfl⟩)
        · exact absurd (Int32.not_lt.mp c_31) c_10
      · refine lv_iconst (v := nI 2) hx hb dL_kind_23 (by decide) ?_
        exact m_iret hx hb hr hlk hS (Nat.le_of_ble_eq_true rfl) (Nat.le_of_ble_eq_true rfl) dL_kind_24 (⟨by rw [kindF, if_neg c_1, if_neg c_10, if_neg c_20], rfl⟩)

theorem lax_bit {w1 : Nat → Int32} {fm : Nat → Option Frm} {k g j i : Nat} {b : Bool} (hx : xRep w1 fm) (hk : k < 2) (hg : g < 3) (hj : j < 9) (hb : b = fitC fm k (fm (54 * k + 9 * g + j)) i) : b = true → laxF (fm (54 * k + 9 * g + j)) = bitX (w1 (3 * k + g)) j := fun h => by
  cases e : fm (54 * k + 9 * g + j) with
  | none =>
    rw [e, fitC_n] at hb
    rw [hb] at h
    cases h
  | some F => exact (hx k g j F hk hg hj e).symm

set_option maxHeartbeats 4000000 in
set_option maxRecDepth 100000 in
theorem kL_fits (l : Launch) (K : m_K) (A : Nat → Prop) (H0 : Heap) (a0 a1 : Nat) (w0 w1 : Nat → Int32) (hP : va_P K.1 vwCl [(a0, .inl (K.2.1 0, 54, .inl w0)), (a1, .inl (K.2.1 0, 6, .inl w1))] H0) (fm : Nat → Option Frm) (hfm : fmOK fm) (hf : fRep w0 fm) (hx1 : xRep w1 fm) (k g j : Nat) (hk9 : k < 2) (hg9 : g < 3) (hj9 : j < 9) : Met l yL_fits wsL_fits ({ frames := 1, cells := 0, slots := 0, locals := 23 } : Room) (m_Pc K A H0 [.ref a0, .ref a1, .int (nI k), .int (nI g), .int (nI j)]) (va_Qi (fun r H1 => r = bI (fitF fm k (fm (54 * k + 9 * g + j))) ∧ H0 = H1) m_B A) 0 0 A := by
  refine m_ofW (by decide) rfl (Nat.le_of_ble_eq_true rfl) ?_
  intro p e s m args below meth c ls hx hb hr hml hown hts hlk hnm hE hsz hS hl
  have hl : lv_has ls 11 [(0, .ref a0), (1, .ref a1), (2, .int (nI k)), (3, .int (nI g)), (4, .int (nI j))] := hl
  refine lv_aload_n hx hb dL_fits_0 rfl (lv_at hl 0 rfl) ?_
  refine lv_bipush (v := nI 27) hx hb dL_fits_1 (by decide) ?_
  refine lv_iload_n hx hb dL_fits_3 rfl (lv_at hl 2 rfl) ?_
  refine m_imul hx hb dL_fits_4 ?_
  refine lv_bipush (v := nI 9) hx hb dL_fits_5 (by decide) ?_
  refine lv_iload_n hx hb dL_fits_7 rfl (lv_at hl 3 rfl) ?_
  refine m_imul hx hb dL_fits_8 ?_
  refine m_iadd hx hb dL_fits_9 ?_
  refine lv_iload hx hb dL_fits_10 (lv_at hl 4 rfl) ?_
  refine m_iadd hx hb dL_fits_12 ?_
  refine m_iald hx hb hE.k hP 0 rfl (by omega) (by omega) (hf k g j hk9 hg9 hj9) dL_fits_13 ?_
  refine lv_istore (lv' := [(5, .int (nI (enR (foR (fm (54 * k + 9 * g + j)))))), (0, .ref a0), (1, .ref a1), (2, .int (nI k)), (3, .int (nI g)), (4, .int (nI j))]) hx hb dL_fits_14 hl (by decide) rfl (fun ls hl => ?_)
  have hbF := (hfm.1 (54 * k + 9 * g + j)).g.lt0
  refine lv_iload hx hb dL_fits_16 (lv_at hl 0 rfl) ?_
  refine m_if_le (tgt := 25) hx hb (by omega) dL_fits_18 (by decide) (fun c_18 => ?_) (fun c_18 => ?_)
  · refine lv_iconst (v := nI 0) hx hb dL_fits_25 (by decide) ?_
    refine W.eq (g2 := F0 m 26 ls [.int (bI false)]) (by rfl) ?_
    refine lv_istore (lv' := [(6, .int (bI false)), (5, .int (nI (enR (foR (fm (54 * k + 9 * g + j)))))), (0, .ref a0), (1, .ref a1), (2, .int (nI k)), (3, .int (nI g)), (4, .int (nI j))]) hx hb dL_fits_26 hl (by decide) rfl (fun ls hl => ?_)
    refine lv_bipush (v := nI 101) hx hb dL_fits_28 (by decide) ?_
    refine lv_istore (lv' := [(7, .int (nI 101)), (6, .int (bI false)), (5, .int (nI (enR (foR (fm (54 * k + 9 * g + j)))))), (0, .ref a0), (1, .ref a1), (2, .int (nI k)), (3, .int (nI g)), (4, .int (nI j))]) hx hb dL_fits_30 hl (by decide) rfl (fun ls hl => ?_)
    refine (?_ : ∀ (n9a : Nat) (i : Nat) (b : Bool) (locs : List Loc) (ls : Array Slot), i ≤ 4 → 4 < i + n9a → b = fitC fm k (fm (54 * k + 9 * g + j)) i → va_S A s.heap H0 locs → lv_has ls 11 [(7, .int (nI (101 + i))), (6, .int (bI b)), (5, .int (nI (enR (foR (fm (54 * k + 9 * g + j)))))), (4, .int (nI j)), (0, .ref a0), (1, .ref a1), (2, .int (nI k)), (3, .int (nI g))] → W p l e _ s m args below meth c H0 locs 0 0 _ (F0 m 32 ls [])) (4 + 1) 0 false _ ls (by omega) (by omega) (by rw [(hfm.1 _).zero c_18]; rfl) hS (lv_sub hl [0, 1, 2, 7, 3, 4, 5, 6] rfl)
    clear hS hl
    intro n9a
    induction n9a with
    | zero => intro i b locs ls hi9 hn9; exact absurd hn9 (by omega)
    | succ n9a iha =>
      intro i b locs ls hi9a hn9a hb9 hS hl
      refine lv_iload hx hb dL_fits_32 (lv_at hl 0 rfl) ?_
      refine lv_bipush (v := nI 105) hx hb dL_fits_34 (by decide) ?_
      refine m_icmp_ge (tgt := 173) hx hb (by omega) (by omega) dL_fits_36 (by decide) (fun c_36 => ?_) (fun c_36 => ?_)
      · refine lv_iload hx hb dL_fits_173 (lv_at hl 1 rfl) ?_
        exact m_zret hx hb hr hlk hS (Nat.le_of_ble_eq_true rfl) (Nat.le_of_ble_eq_true rfl) dL_fits_175 (⟨by rw [hb9, show i = 4 by omega, fitC_4], rfl⟩)
      · refine lv_iconst (v := nI 0) hx hb dL_fits_39 (by decide) ?_
        refine lv_istore (lv' := [(8, .int (nI 0)), (7, .int (nI (101 + i))), (6, .int (bI b)), (5, .int (nI (enR (foR (fm (54 * k + 9 * g + j)))))), (4, .int (nI j)), (0, .ref a0), (1, .ref a1), (2, .int (nI k)), (3, .int (nI g))]) hx hb dL_fits_40 hl (by decide) rfl (fun ls hl => ?_)
        refine lv_iconst (v := nI 0) hx hb dL_fits_42 (by decide) ?_
        refine lv_istore (lv' := [(9, .int (nI 0)), (8, .int (nI 0)), (7, .int (nI (101 + i))), (6, .int (bI b)), (5, .int (nI (enR (foR (fm (54 * k + 9 * g + j)))))), (4, .int (nI j)), (0, .ref a0), (1, .ref a1), (2, .int (nI k)), (3, .int (nI g))]) hx hb dL_fits_43 hl (by decide) rfl (fun ls hl => ?_)
        refine (?_ : ∀ (n9b : Nat) (c9 : Nat) (t : Nat) (locs : List Loc) (ls : Array Slot), c9 ≤ 9 → 9 < c9 + n9b → t = cntN (fun k9 => hasF (fm (54 * k + k9)) i) c9 → va_S A s.heap H0 locs → lv_has ls 11 [(9, .int (nI c9)), (8, .int (nI t)), (7, .int (nI (101 + i))), (6, .int (bI b)), (5, .int (nI (enR (foR (fm (54 * k + 9 * g + j)))))), (4, .int (nI j)), (0, .ref a0), (1, .ref a1), (2, .int (nI k)), (3, .int (nI g))] → W p l e _ s m args below meth c H0 locs 0 0 _ (F0 m 45 ls [])) (9 + 1) 0 0 _ ls (by omega) (by omega) rfl hS (lv_sub hl [0, 1, 2, 3, 4, 5, 6, 7, 8, 9] rfl)
        clear hS hl
        intro n9b
        induction n9b with
        | zero => intro c9 t locs ls hi9 hn9; exact absurd hn9 (by omega)
        | succ n9b ihb =>
          intro c9 t locs ls hi9b hn9b ht9 hS hl
          refine lv_iload hx hb dL_fits_45 (lv_at hl 0 rfl) ?_
          refine lv_bipush (v := nI 9) hx hb dL_fits_47 (by decide) ?_
          have htl := cntN_le (fun k9 => hasF (fm (54 * k + k9)) i) c9
          refine m_icmp_ge (tgt := 85) hx hb (by omega) (by omega) dL_fits_49 (by decide) (fun c_49 => ?_) (fun c_49 => ?_)
          · have hdu : due fm k i = decide (0 < t) := by rw [ht9, show c9 = 9 by omega]; exact cnt_any 9
            refine lv_iload hx hb dL_fits_85 (lv_at hl 1 rfl) ?_
            refine m_if_ne (tgt := 104) hx hb (by omega) dL_fits_87 (by decide) (fun c_87 => ?_) (fun c_87 => ?_)
            · refine lv_iconst (v := nI 0) hx hb dL_fits_104 (by decide) ?_
              refine lv_istore (lv' := [(9, .int (nI 0)), (8, .int (nI t)), (7, .int (nI (101 + i))), (6, .int (bI b)), (5, .int (nI (enR (foR (fm (54 * k + 9 * g + j)))))), (4, .int (nI j)), (0, .ref a0), (1, .ref a1), (2, .int (nI k)), (3, .int (nI g))]) hx hb dL_fits_105 hl (by decide) rfl (fun ls hl => ?_)
              refine lv_iload hx hb dL_fits_107 (lv_at hl 1 rfl) ?_
              refine m_if_le (tgt := 126) hx hb (by omega) dL_fits_109 (by decide) (fun c_109 => ?_) (fun c_109 => ?_)
              · omega
              · refine lv_iload hx hb dL_fits_112 (lv_at hl 4 rfl) ?_
                refine lv_iload hx hb dL_fits_114 (lv_at hl 2 rfl) ?_
                refine m_cSi (rest := []) ⟨hx, hb, hml, hown, hts⟩ hE hS (fun _ h => h) (kL_has l K A _ (foR (fm (54 * k + 9 * g + j))) (hfm.1 _).g (101 + i) (by omega)) (va_cwS 2 hts gL_fits_L_has rfl rfl rfl (by decide +kernel) ⟨Nat.le_of_ble_eq_true rfl, Nat.le_of_ble_eq_true rfl⟩) rfl rfl hl.1 rfl (Nat.le_of_ble_eq_true rfl) dL_fits_116 ⟨Nat.le_of_ble_eq_true rfl, Nat.le_of_ble_eq_true rfl⟩ (fun r H1 locs hp hS hk => ?_)
                obtain ⟨rfl, rfl⟩ := hp
                refine m_if_ne_b (tgt := 126) hx hb dL_fits_119 (by decide) (fun c_119 => ?_) (fun c_119 => ?_)
                · refine lv_iconst (v := nI 0) hx hb dL_fits_126 (by decide) ?_
                  refine lv_istore (lv' := [(10, .int (nI 0)), (9, .int (nI 0)), (8, .int (nI t)), (7, .int (nI (101 + i))), (6, .int (bI b)), (5, .int (nI (enR (foR (fm (54 * k + 9 * g + j)))))), (4, .int (nI j)), (0, .ref a0), (1, .ref a1), (2, .int (nI k)), (3, .int (nI g))]) hx hb dL_fits_127 hl (by decide) rfl (fun ls hl => ?_)
                  refine lv_iload hx hb dL_fits_129 (lv_at hl 4 rfl) ?_
                  refine m_if_eq_b (tgt := 164) hx hb dL_fits_131 (by decide) (fun c_131 => ?_) (fun c_131 => ?_)
                  · refine lv_iconst (v := nI 0) hx hb dL_fits_164 (by decide) ?_
                    refine W.eq (g2 := F0 m 165 ls [.int (bI false)]) (by rfl) ?_
                    refine lv_istore (lv' := [(6, .int (bI false)), (10, .int (nI 0)), (9, .int (nI 0)), (8, .int (nI t)), (7, .int (nI (101 + i))), (5, .int (nI (enR (foR (fm (54 * k + 9 * g + j)))))), (4, .int (nI j)), (0, .ref a0), (1, .ref a1), (2, .int (nI k)), (3, .int (nI g))]) hx hb dL_fits_165 hl (by decide) rfl (fun ls hl => ?_)
                    refine lv_iinc (v := nI ((101 + i) + 1)) (lv' := [(7, .int (nI ((101 + i) + 1))), (6, .int (bI false)), (10, .int (nI 0)), (9, .int (nI 0)), (8, .int (nI t)), (5, .int (nI (enR (foR (fm (54 * k + 9 * g + j)))))), (4, .int (nI j)), (0, .ref a0), (1, .ref a1), (2, .int (nI k)), (3, .int (nI g))]) hx hb dL_fits_167 hl (k := 4) rfl (m_inc _) (by decide) rfl (fun ls hl => ?_)
                    refine lv_goto (tgt := 32) hx hb dL_fits_170 (by decide) ?_
                    exact iha (i + 1) false _ ls (by omega) (by omega) (by rw [fitC_st (l := laxF (fm (54 * k + 9 * g + j))) hb9 (hdu.trans (decide_eq_true (by omega))) ((hasF_eq (hfm.1 _) (by omega)).symm.trans c_119) (fun _ => rfl), c_131]; rfl) hS (lv_sub hl [0, 1, 5, 6, 7, 8, 9, 10] rfl)
                  · refine lv_iload hx hb dL_fits_134 (lv_at hl 1 rfl) ?_
                    refine m_if_ne (tgt := 164) hx hb (by omega) dL_fits_136 (by decide) (fun c_136 => ?_) (fun c_136 => ?_)
                    · exact absurd c_136 (by first | decide | exact (show ¬ false = true by decide) | exact (show ¬ true = false by decide))
                    · refine lv_iload hx hb dL_fits_139 (lv_at hl 0 rfl) ?_
                      refine m_if_eq (tgt := 160) hx hb (by omega) dL_fits_141 (by decide) (fun c_141 => ?_) (fun c_141 => ?_)
                      · refine lv_iconst (v := nI 1) hx hb dL_fits_160 (by decide) ?_
                        refine lv_goto (tgt := 165) hx hb dL_fits_161 (by decide) ?_
                        refine W.eq (g2 := F0 m 165 ls [.int (bI true)]) (by rfl) ?_
                        refine lv_istore (lv' := [(6, .int (bI true)), (10, .int (nI 0)), (9, .int (nI 0)), (8, .int (nI t)), (7, .int (nI (101 + i))), (5, .int (nI (enR (foR (fm (54 * k + 9 * g + j)))))), (4, .int (nI j)), (0, .ref a0), (1, .ref a1), (2, .int (nI k)), (3, .int (nI g))]) hx hb dL_fits_165 hl (by decide) rfl (fun ls hl => ?_)
                        refine lv_iinc (v := nI ((101 + i) + 1)) (lv' := [(7, .int (nI ((101 + i) + 1))), (6, .int (bI true)), (10, .int (nI 0)), (9, .int (nI 0)), (8, .int (nI t)), (5, .int (nI (enR (foR (fm (54 * k + 9 * g + j)))))), (4, .int (nI j)), (0, .ref a0), (1, .ref a1), (2, .int (nI k)), (3, .int (nI g))]) hx hb dL_fits_167 hl (k := 4) rfl (m_inc _) (by decide) rfl (fun ls hl => ?_)
                        refine lv_goto (tgt := 32) hx hb dL_fits_170 (by decide) ?_
                        exact iha (i + 1) true _ ls (by omega) (by omega) (by rw [fitC_st (l := laxF (fm (54 * k + 9 * g + j))) hb9 (hdu.trans (decide_eq_true (by omega))) ((hasF_eq (hfm.1 _) (by omega)).symm.trans c_119) (fun _ => rfl), c_131]; rfl) hS (lv_sub hl [0, 1, 5, 6, 7, 8, 9, 10] rfl)
                      · exact absurd c_141 (by first | decide | exact (show ¬ false = true by decide) | exact (show ¬ true = false by decide))
                · refine lv_iconst (v := nI 1) hx hb dL_fits_122 (by decide) ?_
                  refine lv_goto (tgt := 127) hx hb dL_fits_123 (by decide) ?_
                  refine lv_istore (lv' := [(10, .int (nI 1)), (9, .int (nI 0)), (8, .int (nI t)), (7, .int (nI (101 + i))), (6, .int (bI b)), (5, .int (nI (enR (foR (fm (54 * k + 9 * g + j)))))), (4, .int (nI j)), (0, .ref a0), (1, .ref a1), (2, .int (nI k)), (3, .int (nI g))]) hx hb dL_fits_127 hl (by decide) rfl (fun ls hl => ?_)
                  refine lv_iload hx hb dL_fits_129 (lv_at hl 4 rfl) ?_
                  refine m_if_eq_b (tgt := 164) hx hb dL_fits_131 (by decide) (fun c_131 => ?_) (fun c_131 => ?_)
                  · refine lv_iconst (v := nI 0) hx hb dL_fits_164 (by decide) ?_
                    refine W.eq (g2 := F0 m 165 ls [.int (bI false)]) (by rfl) ?_
                    refine lv_istore (lv' := [(6, .int (bI false)), (10, .int (nI 1)), (9, .int (nI 0)), (8, .int (nI t)), (7, .int (nI (101 + i))), (5, .int (nI (enR (foR (fm (54 * k + 9 * g + j)))))), (4, .int (nI j)), (0, .ref a0), (1, .ref a1), (2, .int (nI k)), (3, .int (nI g))]) hx hb dL_fits_165 hl (by decide) rfl (fun ls hl => ?_)
                    refine lv_iinc (v := nI ((101 + i) + 1)) (lv' := [(7, .int (nI ((101 + i) + 1))), (6, .int (bI false)), (10, .int (nI 1)), (9, .int (nI 0)), (8, .int (nI t)), (5, .int (nI (enR (foR (fm (54 * k + 9 * g + j)))))), (4, .int (nI j)), (0, .ref a0), (1, .ref a1), (2, .int (nI k)), (3, .int (nI g))]) hx hb dL_fits_167 hl (k := 4) rfl (m_inc _) (by decide) rfl (fun ls hl => ?_)
                    refine lv_goto (tgt := 32) hx hb dL_fits_170 (by decide) ?_
                    exact iha (i + 1) false _ ls (by omega) (by omega) (by rw [fitC_st (l := laxF (fm (54 * k + 9 * g + j))) hb9 (hdu.trans (decide_eq_true (by omega))) ((hasF_eq (hfm.1 _) (by omega)).symm.trans c_119) (fun _ => rfl), c_131]; rfl) hS (lv_sub hl [0, 1, 5, 6, 7, 8, 9, 10] rfl)
                  · refine lv_iload hx hb dL_fits_134 (lv_at hl 1 rfl) ?_
                    refine m_if_ne (tgt := 164) hx hb (by omega) dL_fits_136 (by decide) (fun c_136 => ?_) (fun c_136 => ?_)
                    · exact absurd c_136 (by first | decide | exact (show ¬ false = true by decide) | exact (show ¬ true = false by decide))
                    · refine lv_iload hx hb dL_fits_139 (lv_at hl 0 rfl) ?_
                      refine m_if_eq (tgt := 160) hx hb (by omega) dL_fits_141 (by decide) (fun c_141 => ?_) (fun c_141 => ?_)
                      · exact absurd c_141 (by first | decide | exact (show ¬ false = true by decide) | exact (show ¬ true = false by decide))
                      · refine lv_aload_n hx hb dL_fits_144 rfl (lv_at hl 8 rfl) ?_
                        refine lv_iconst (v := nI 3) hx hb dL_fits_145 (by decide) ?_
                        refine lv_iload_n hx hb dL_fits_146 rfl (lv_at hl 9 rfl) ?_
                        refine m_imul hx hb dL_fits_147 ?_
                        refine lv_iload_n hx hb dL_fits_148 rfl (lv_at hl 10 rfl) ?_
                        refine m_iadd hx hb dL_fits_149 ?_
                        refine m_iald hx hb hE.k hP 1 rfl (by omega) (by omega) rfl dL_fits_150 ?_
                        refine lv_iload hx hb dL_fits_151 (lv_at hl 6 rfl) ?_
                        refine lv_ishr hx hb dL_fits_153 ?_
                        refine lv_iconst (v := nI 1) hx hb dL_fits_154 (by decide) ?_
                        refine lv_iand hx hb dL_fits_155 ?_
                        refine lv_iconst (v := nI 1) hx hb dL_fits_156 (by decide) ?_
                        refine lv_icmp_ne (tgt := 164) hx hb dL_fits_157 (by decide) (fun c_157 => ?_) (fun c_157 => ?_)
                        · refine lv_iconst (v := nI 0) hx hb dL_fits_164 (by decide) ?_
                          refine W.eq (g2 := F0 m 165 ls [.int (bI false)]) (by rfl) ?_
                          refine lv_istore (lv' := [(6, .int (bI false)), (10, .int (nI 1)), (9, .int (nI 0)), (8, .int (nI t)), (7, .int (nI (101 + i))), (5, .int (nI (enR (foR (fm (54 * k + 9 * g + j)))))), (4, .int (nI j)), (0, .ref a0), (1, .ref a1), (2, .int (nI k)), (3, .int (nI g))]) hx hb dL_fits_165 hl (by decide) rfl (fun ls hl => ?_)
                          refine lv_iinc (v := nI ((101 + i) + 1)) (lv' := [(7, .int (nI ((101 + i) + 1))), (6, .int (bI false)), (10, .int (nI 1)), (9, .int (nI 0)), (8, .int (nI t)), (5, .int (nI (enR (foR (fm (54 * k + 9 * g + j)))))), (4, .int (nI j)), (0, .ref a0), (1, .ref a1), (2, .int (nI k)), (3, .int (nI g))]) hx hb dL_fits_167 hl (k := 4) rfl (m_inc _) (by decide) rfl (fun ls hl => ?_)
                          refine lv_goto (tgt := 32) hx hb dL_fits_170 (by decide) ?_
                          exact iha (i + 1) false _ ls (by omega) (by omega) (by rw [fitC_st hb9 (hdu.trans (decide_eq_true (by omega))) ((hasF_eq (hfm.1 _) (by omega)).symm.trans c_119) (lax_bit hx1 hk9 hg9 hj9 hb9), c_131, Bool.eq_false_iff.mpr (fun z => c_157 ((bit_rd hj9).mpr z))]; rfl) hS (lv_sub hl [0, 1, 5, 6, 7, 8, 9, 10] rfl)
                        · refine lv_iconst (v := nI 1) hx hb dL_fits_160 (by decide) ?_
                          refine lv_goto (tgt := 165) hx hb dL_fits_161 (by decide) ?_
                          refine W.eq (g2 := F0 m 165 ls [.int (bI true)]) (by rfl) ?_
                          refine lv_istore (lv' := [(6, .int (bI true)), (10, .int (nI 1)), (9, .int (nI 0)), (8, .int (nI t)), (7, .int (nI (101 + i))), (5, .int (nI (enR (foR (fm (54 * k + 9 * g + j)))))), (4, .int (nI j)), (0, .ref a0), (1, .ref a1), (2, .int (nI k)), (3, .int (nI g))]) hx hb dL_fits_165 hl (by decide) rfl (fun ls hl => ?_)
                          refine lv_iinc (v := nI ((101 + i) + 1)) (lv' := [(7, .int (nI ((101 + i) + 1))), (6, .int (bI true)), (10, .int (nI 1)), (9, .int (nI 0)), (8, .int (nI t)), (5, .int (nI (enR (foR (fm (54 * k + 9 * g + j)))))), (4, .int (nI j)), (0, .ref a0), (1, .ref a1), (2, .int (nI k)), (3, .int (nI g))]) hx hb dL_fits_167 hl (k := 4) rfl (m_inc _) (by decide) rfl (fun ls hl => ?_)
                          refine lv_goto (tgt := 32) hx hb dL_fits_170 (by decide) ?_
                          exact iha (i + 1) true _ ls (by omega) (by omega) (by rw [fitC_st hb9 (hdu.trans (decide_eq_true (by omega))) ((hasF_eq (hfm.1 _) (by omega)).symm.trans c_119) (lax_bit hx1 hk9 hg9 hj9 hb9), c_131, (bit_rd hj9).mp c_157]; rfl) hS (lv_sub hl [0, 1, 5, 6, 7, 8, 9, 10] rfl)
            · refine lv_iload hx hb dL_fits_90 (lv_at hl 4 rfl) ?_
              refine lv_iload hx hb dL_fits_92 (lv_at hl 2 rfl) ?_
              refine m_cSi (rest := []) ⟨hx, hb, hml, hown, hts⟩ hE hS (fun _ h => h) (kL_has l K A _ (foR (fm (54 * k + 9 * g + j))) (hfm.1 _).g (101 + i) (by omega)) (va_cwS 2 hts gL_fits_L_has rfl rfl rfl (by decide +kernel) ⟨Nat.le_of_ble_eq_true rfl, Nat.le_of_ble_eq_true rfl⟩) rfl rfl hl.1 rfl (Nat.le_of_ble_eq_true rfl) dL_fits_94 ⟨Nat.le_of_ble_eq_true rfl, Nat.le_of_ble_eq_true rfl⟩ (fun r H1 locs hp hS hk => ?_)
              obtain ⟨rfl, rfl⟩ := hp
              refine m_if_eq_b (tgt := 104) hx hb dL_fits_97 (by decide) (fun c_97 => ?_) (fun c_97 => ?_)
              · refine lv_iconst (v := nI 0) hx hb dL_fits_104 (by decide) ?_
                refine lv_istore (lv' := [(9, .int (nI 0)), (8, .int (nI t)), (7, .int (nI (101 + i))), (6, .int (bI b)), (5, .int (nI (enR (foR (fm (54 * k + 9 * g + j)))))), (4, .int (nI j)), (0, .ref a0), (1, .ref a1), (2, .int (nI k)), (3, .int (nI g))]) hx hb dL_fits_105 hl (by decide) rfl (fun ls hl => ?_)
                refine lv_iload hx hb dL_fits_107 (lv_at hl 1 rfl) ?_
                refine m_if_le (tgt := 126) hx hb (by omega) dL_fits_109 (by decide) (fun c_109 => ?_) (fun c_109 => ?_)
                · refine lv_iconst (v := nI 0) hx hb dL_fits_126 (by decide) ?_
                  refine lv_istore (lv' := [(10, .int (nI 0)), (9, .int (nI 0)), (8, .int (nI t)), (7, .int (nI (101 + i))), (6, .int (bI b)), (5, .int (nI (enR (foR (fm (54 * k + 9 * g + j)))))), (4, .int (nI j)), (0, .ref a0), (1, .ref a1), (2, .int (nI k)), (3, .int (nI g))]) hx hb dL_fits_127 hl (by decide) rfl (fun ls hl => ?_)
                  refine lv_iload hx hb dL_fits_129 (lv_at hl 4 rfl) ?_
                  refine m_if_eq_b (tgt := 164) hx hb dL_fits_131 (by decide) (fun c_131 => ?_) (fun c_131 => ?_)
                  · refine lv_iconst (v := nI 0) hx hb dL_fits_164 (by decide) ?_
                    refine W.eq (g2 := F0 m 165 ls [.int (bI false)]) (by rfl) ?_
                    refine lv_istore (lv' := [(6, .int (bI false)), (10, .int (nI 0)), (9, .int (nI 0)), (8, .int (nI t)), (7, .int (nI (101 + i))), (5, .int (nI (enR (foR (fm (54 * k + 9 * g + j)))))), (4, .int (nI j)), (0, .ref a0), (1, .ref a1), (2, .int (nI k)), (3, .int (nI g))]) hx hb dL_fits_165 hl (by decide) rfl (fun ls hl => ?_)
                    refine lv_iinc (v := nI ((101 + i) + 1)) (lv' := [(7, .int (nI ((101 + i) + 1))), (6, .int (bI false)), (10, .int (nI 0)), (9, .int (nI 0)), (8, .int (nI t)), (5, .int (nI (enR (foR (fm (54 * k + 9 * g + j)))))), (4, .int (nI j)), (0, .ref a0), (1, .ref a1), (2, .int (nI k)), (3, .int (nI g))]) hx hb dL_fits_167 hl (k := 4) rfl (m_inc _) (by decide) rfl (fun ls hl => ?_)
                    refine lv_goto (tgt := 32) hx hb dL_fits_170 (by decide) ?_
                    exact iha (i + 1) false _ ls (by omega) (by omega) (by rw [fitC_st (l := laxF (fm (54 * k + 9 * g + j))) hb9 (hdu.trans (decide_eq_false (by omega))) ((hasF_eq (hfm.1 _) (by omega)).symm.trans c_97) (fun _ => rfl), c_131]; rfl) hS (lv_sub hl [0, 1, 5, 6, 7, 8, 9, 10] rfl)
                  · refine lv_iload hx hb dL_fits_134 (lv_at hl 1 rfl) ?_
                    refine m_if_ne (tgt := 164) hx hb (by omega) dL_fits_136 (by decide) (fun c_136 => ?_) (fun c_136 => ?_)
                    · exact absurd c_136 (by first | decide | exact (show ¬ false = true by decide) | exact (show ¬ true = false by decide))
                    · refine lv_iload hx hb dL_fits_139 (lv_at hl 0 rfl) ?_
                      refine m_if_eq (tgt := 160) hx hb (by omega) dL_fits_141 (by decide) (fun c_141 => ?_) (fun c_141 => ?_)
                      · refine lv_iconst (v := nI 1) hx hb dL_fits_160 (by decide) ?_
                        refine lv_goto (tgt := 165) hx hb dL_fits_161 (by decide) ?_
                        refine W.eq (g2 := F0 m 165 ls [.int (bI true)]) (by rfl) ?_
                        refine lv_istore (lv' := [(6, .int (bI true)), (10, .int (nI 0)), (9, .int (nI 0)), (8, .int (nI t)), (7, .int (nI (101 + i))), (5, .int (nI (enR (foR (fm (54 * k + 9 * g + j)))))), (4, .int (nI j)), (0, .ref a0), (1, .ref a1), (2, .int (nI k)), (3, .int (nI g))]) hx hb dL_fits_165 hl (by decide) rfl (fun ls hl => ?_)
                        refine lv_iinc (v := nI ((101 + i) + 1)) (lv' := [(7, .int (nI ((101 + i) + 1))), (6, .int (bI true)), (10, .int (nI 0)), (9, .int (nI 0)), (8, .int (nI t)), (5, .int (nI (enR (foR (fm (54 * k + 9 * g + j)))))), (4, .int (nI j)), (0, .ref a0), (1, .ref a1), (2, .int (nI k)), (3, .int (nI g))]) hx hb dL_fits_167 hl (k := 4) rfl (m_inc _) (by decide) rfl (fun ls hl => ?_)
                        refine lv_goto (tgt := 32) hx hb dL_fits_170 (by decide) ?_
                        exact iha (i + 1) true _ ls (by omega) (by omega) (by rw [fitC_st (l := laxF (fm (54 * k + 9 * g + j))) hb9 (hdu.trans (decide_eq_false (by omega))) ((hasF_eq (hfm.1 _) (by omega)).symm.trans c_97) (fun _ => rfl), c_131]; rfl) hS (lv_sub hl [0, 1, 5, 6, 7, 8, 9, 10] rfl)
                      · exact absurd c_141 (by first | decide | exact (show ¬ false = true by decide) | exact (show ¬ true = false by decide))
                · omega
              · refine lv_iconst (v := nI 1) hx hb dL_fits_100 (by decide) ?_
                refine lv_goto (tgt := 105) hx hb dL_fits_101 (by decide) ?_
                refine lv_istore (lv' := [(9, .int (nI 1)), (8, .int (nI t)), (7, .int (nI (101 + i))), (6, .int (bI b)), (5, .int (nI (enR (foR (fm (54 * k + 9 * g + j)))))), (4, .int (nI j)), (0, .ref a0), (1, .ref a1), (2, .int (nI k)), (3, .int (nI g))]) hx hb dL_fits_105 hl (by decide) rfl (fun ls hl => ?_)
                refine lv_iload hx hb dL_fits_107 (lv_at hl 1 rfl) ?_
                refine m_if_le (tgt := 126) hx hb (by omega) dL_fits_109 (by decide) (fun c_109 => ?_) (fun c_109 => ?_)
                · refine lv_iconst (v := nI 0) hx hb dL_fits_126 (by decide) ?_
                  refine lv_istore (lv' := [(10, .int (nI 0)), (9, .int (nI 1)), (8, .int (nI t)), (7, .int (nI (101 + i))), (6, .int (bI b)), (5, .int (nI (enR (foR (fm (54 * k + 9 * g + j)))))), (4, .int (nI j)), (0, .ref a0), (1, .ref a1), (2, .int (nI k)), (3, .int (nI g))]) hx hb dL_fits_127 hl (by decide) rfl (fun ls hl => ?_)
                  refine lv_iload hx hb dL_fits_129 (lv_at hl 4 rfl) ?_
                  refine m_if_eq_b (tgt := 164) hx hb dL_fits_131 (by decide) (fun c_131 => ?_) (fun c_131 => ?_)
                  · refine lv_iconst (v := nI 0) hx hb dL_fits_164 (by decide) ?_
                    refine W.eq (g2 := F0 m 165 ls [.int (bI false)]) (by rfl) ?_
                    refine lv_istore (lv' := [(6, .int (bI false)), (10, .int (nI 0)), (9, .int (nI 1)), (8, .int (nI t)), (7, .int (nI (101 + i))), (5, .int (nI (enR (foR (fm (54 * k + 9 * g + j)))))), (4, .int (nI j)), (0, .ref a0), (1, .ref a1), (2, .int (nI k)), (3, .int (nI g))]) hx hb dL_fits_165 hl (by decide) rfl (fun ls hl => ?_)
                    refine lv_iinc (v := nI ((101 + i) + 1)) (lv' := [(7, .int (nI ((101 + i) + 1))), (6, .int (bI false)), (10, .int (nI 0)), (9, .int (nI 1)), (8, .int (nI t)), (5, .int (nI (enR (foR (fm (54 * k + 9 * g + j)))))), (4, .int (nI j)), (0, .ref a0), (1, .ref a1), (2, .int (nI k)), (3, .int (nI g))]) hx hb dL_fits_167 hl (k := 4) rfl (m_inc _) (by decide) rfl (fun ls hl => ?_)
                    refine lv_goto (tgt := 32) hx hb dL_fits_170 (by decide) ?_
                    exact iha (i + 1) false _ ls (by omega) (by omega) (by rw [fitC_st (l := laxF (fm (54 * k + 9 * g + j))) hb9 (hdu.trans (decide_eq_false (by omega))) ((hasF_eq (hfm.1 _) (by omega)).symm.trans c_97) (fun _ => rfl), c_131]; rfl) hS (lv_sub hl [0, 1, 5, 6, 7, 8, 9, 10] rfl)
                  · refine lv_iload hx hb dL_fits_134 (lv_at hl 1 rfl) ?_
                    refine m_if_ne (tgt := 164) hx hb (by omega) dL_fits_136 (by decide) (fun c_136 => ?_) (fun c_136 => ?_)
                    · refine lv_iconst (v := nI 0) hx hb dL_fits_164 (by decide) ?_
                      refine W.eq (g2 := F0 m 165 ls [.int (bI false)]) (by rfl) ?_
                      refine lv_istore (lv' := [(6, .int (bI false)), (10, .int (nI 0)), (9, .int (nI 1)), (8, .int (nI t)), (7, .int (nI (101 + i))), (5, .int (nI (enR (foR (fm (54 * k + 9 * g + j)))))), (4, .int (nI j)), (0, .ref a0), (1, .ref a1), (2, .int (nI k)), (3, .int (nI g))]) hx hb dL_fits_165 hl (by decide) rfl (fun ls hl => ?_)
                      refine lv_iinc (v := nI ((101 + i) + 1)) (lv' := [(7, .int (nI ((101 + i) + 1))), (6, .int (bI false)), (10, .int (nI 0)), (9, .int (nI 1)), (8, .int (nI t)), (5, .int (nI (enR (foR (fm (54 * k + 9 * g + j)))))), (4, .int (nI j)), (0, .ref a0), (1, .ref a1), (2, .int (nI k)), (3, .int (nI g))]) hx hb dL_fits_167 hl (k := 4) rfl (m_inc _) (by decide) rfl (fun ls hl => ?_)
                      refine lv_goto (tgt := 32) hx hb dL_fits_170 (by decide) ?_
                      exact iha (i + 1) false _ ls (by omega) (by omega) (by rw [fitC_st (l := laxF (fm (54 * k + 9 * g + j))) hb9 (hdu.trans (decide_eq_false (by omega))) ((hasF_eq (hfm.1 _) (by omega)).symm.trans c_97) (fun _ => rfl), c_131]; rfl) hS (lv_sub hl [0, 1, 5, 6, 7, 8, 9, 10] rfl)
                    · exact absurd c_136 (by first | decide | exact (show ¬ false = true by decide) | exact (show ¬ true = false by decide))
                · omega
          · refine lv_iload hx hb dL_fits_52 (lv_at hl 1 rfl) ?_
            refine lv_aload_n hx hb dL_fits_54 rfl (lv_at hl 6 rfl) ?_
            refine lv_bipush (v := nI 27) hx hb dL_fits_55 (by decide) ?_
            refine lv_iload_n hx hb dL_fits_57 rfl (lv_at hl 8 rfl) ?_
            refine m_imul hx hb dL_fits_58 ?_
            refine lv_iload hx hb dL_fits_59 (lv_at hl 0 rfl) ?_
            refine m_iadd hx hb dL_fits_61 ?_
            refine m_iald hx hb hE.k hP 0 rfl (by omega) (by omega) (hf.r0 hk9 (by omega)) dL_fits_62 ?_
            refine lv_iload hx hb dL_fits_63 (lv_at hl 2 rfl) ?_
            have hbC := (hfm.1 (54 * k + c9)).g.lt0
            refine m_cSi (rest := [.int (nI t)]) ⟨hx, hb, hml, hown, hts⟩ hE hS (fun _ h => h) (kL_has l K A _ (foR (fm (54 * k + c9))) (hfm.1 _).g (101 + i) (by omega)) (va_cwS 2 hts gL_fits_L_has rfl rfl rfl (by decide +kernel) ⟨Nat.le_of_ble_eq_true rfl, Nat.le_of_ble_eq_true rfl⟩) rfl rfl hl.1 rfl (Nat.le_of_ble_eq_true rfl) dL_fits_65 ⟨Nat.le_of_ble_eq_true rfl, Nat.le_of_ble_eq_true rfl⟩ (fun r H1 locs hp hS hk => ?_)
            obtain ⟨rfl, rfl⟩ := hp
            refine m_if_eq_b (tgt := 75) hx hb dL_fits_68 (by decide) (fun c_68 => ?_) (fun c_68 => ?_)
            · refine lv_iconst (v := nI 0) hx hb dL_fits_75 (by decide) ?_
              refine m_iadd hx hb dL_fits_76 ?_
              refine lv_istore (lv' := [(8, .int (nI (t + 0))), (9, .int (nI c9)), (7, .int (nI (101 + i))), (6, .int (bI b)), (5, .int (nI (enR (foR (fm (54 * k + 9 * g + j)))))), (4, .int (nI j)), (0, .ref a0), (1, .ref a1), (2, .int (nI k)), (3, .int (nI g))]) hx hb dL_fits_77 hl (by decide) rfl (fun ls hl => ?_)
              refine lv_iinc (v := nI (c9 + 1)) (lv' := [(9, .int (nI (c9 + 1))), (8, .int (nI (t + 0))), (7, .int (nI (101 + i))), (6, .int (bI b)), (5, .int (nI (enR (foR (fm (54 * k + 9 * g + j)))))), (4, .int (nI j)), (0, .ref a0), (1, .ref a1), (2, .int (nI k)), (3, .int (nI g))]) hx hb dL_fits_79 hl (k := 1) rfl (m_inc _) (by decide) rfl (fun ls hl => ?_)
              refine lv_goto (tgt := 45) hx hb dL_fits_82 (by decide) ?_
              exact ihb (c9 + 1) (t + 0) _ ls (by omega) (by omega) (by show _ = cntN (fun k9 => hasF (fm (54 * k + k9)) i) c9 + (if hasF (fm (54 * k + c9)) i = true then 1 else 0); rw [← ht9, ← hasF_eq (hfm.1 _) (by omega), c_68]; rfl) hS (lv_sub hl [0, 1, 2, 3, 4, 5, 6, 7, 8, 9] rfl)
            · refine lv_iconst (v := nI 1) hx hb dL_fits_71 (by decide) ?_
              refine lv_goto (tgt := 76) hx hb dL_fits_72 (by decide) ?_
              refine m_iadd hx hb dL_fits_76 ?_
              refine lv_istore (lv' := [(8, .int (nI (t + 1))), (9, .int (nI c9)), (7, .int (nI (101 + i))), (6, .int (bI b)), (5, .int (nI (enR (foR (fm (54 * k + 9 * g + j)))))), (4, .int (nI j)), (0, .ref a0), (1, .ref a1), (2, .int (nI k)), (3, .int (nI g))]) hx hb dL_fits_77 hl (by decide) rfl (fun ls hl => ?_)
              refine lv_iinc (v := nI (c9 + 1)) (lv' := [(9, .int (nI (c9 + 1))), (8, .int (nI (t + 1))), (7, .int (nI (101 + i))), (6, .int (bI b)), (5, .int (nI (enR (foR (fm (54 * k + 9 * g + j)))))), (4, .int (nI j)), (0, .ref a0), (1, .ref a1), (2, .int (nI k)), (3, .int (nI g))]) hx hb dL_fits_79 hl (k := 1) rfl (m_inc _) (by decide) rfl (fun ls hl => ?_)
              refine lv_goto (tgt := 45) hx hb dL_fits_82 (by decide) ?_
              exact ihb (c9 + 1) (t + 1) _ ls (by omega) (by omega) (by show _ = cntN (fun k9 => hasF (fm (54 * k + k9)) i) c9 + (if hasF (fm (54 * k + c9)) i = true then 1 else 0); rw [← ht9, ← hasF_eq (hfm.1 _) (by omega), c_68]; rfl) hS (lv_sub hl [0, 1, 2, 3, 4, 5, 6, 7, 8, 9] rfl)
  · refine lv_iconst (v := nI 1) hx hb dL_fits_21 (by decide) ?_
    refine lv_goto (tgt := 26) hx hb dL_fits_22 (by decide) ?_
    refine W.eq (g2 := F0 m 26 ls [.int (bI true)]) (by rfl) ?_
    refine lv_istore (lv' := [(6, .int (bI true)), (5, .int (nI (enR (foR (fm (54 * k + 9 * g + j)))))), (0, .ref a0), (1, .ref a1), (2, .int (nI k)), (3, .int (nI g)), (4, .int (nI j))]) hx hb dL_fits_26 hl (by decide) rfl (fun ls hl => ?_)
    refine lv_bipush (v := nI 101) hx hb dL_fits_28 (by decide) ?_
    refine lv_istore (lv' := [(7, .int (nI 101)), (6, .int (bI true)), (5, .int (nI (enR (foR (fm (54 * k + 9 * g + j)))))), (0, .ref a0), (1, .ref a1), (2, .int (nI k)), (3, .int (nI g)), (4, .int (nI j))]) hx hb dL_fits_30 hl (by decide) rfl (fun ls hl => ?_)
    refine (?_ : ∀ (n9a : Nat) (i : Nat) (b : Bool) (locs : List Loc) (ls : Array Slot), i ≤ 4 → 4 < i + n9a → b = fitC fm k (fm (54 * k + 9 * g + j)) i → va_S A s.heap H0 locs → lv_has ls 11 [(7, .int (nI (101 + i))), (6, .int (bI b)), (5, .int (nI (enR (foR (fm (54 * k + 9 * g + j)))))), (4, .int (nI j)), (0, .ref a0), (1, .ref a1), (2, .int (nI k)), (3, .int (nI g))] → W p l e _ s m args below meth c H0 locs 0 0 _ (F0 m 32 ls [])) (4 + 1) 0 true _ ls (by omega) (by omega) (((hfm.1 _).pos.mp (by omega)).symm) hS (lv_sub hl [0, 1, 2, 7, 3, 4, 5, 6] rfl)
    clear hS hl
    intro n9a
    induction n9a with
    | zero => intro i b locs ls hi9 hn9; exact absurd hn9 (by omega)
    | succ n9a iha =>
      intro i b locs ls hi9a hn9a hb9 hS hl
      refine lv_iload hx hb dL_fits_32 (lv_at hl 0 rfl) ?_
      refine lv_bipush (v := nI 105) hx hb dL_fits_34 (by decide) ?_
      refine m_icmp_ge (tgt := 173) hx hb (by omega) (by omega) dL_fits_36 (by decide) (fun c_36 => ?_) (fun c_36 => ?_)
      · refine lv_iload hx hb dL_fits_173 (lv_at hl 1 rfl) ?_
        exact m_zret hx hb hr hlk hS (Nat.le_of_ble_eq_true rfl) (Nat.le_of_ble_eq_true rfl) dL_fits_175 (⟨by rw [hb9, show i = 4 by omega, fitC_4], rfl⟩)
      · refine lv_iconst (v := nI 0) hx hb dL_fits_39 (by decide) ?_
        refine lv_istore (lv' := [(8, .int (nI 0)), (7, .int (nI (101 + i))), (6, .int (bI b)), (5, .int (nI (enR (foR (fm (54 * k + 9 * g + j)))))), (4, .int (nI j)), (0, .ref a0), (1, .ref a1), (2, .int (nI k)), (3, .int (nI g))]) hx hb dL_fits_40 hl (by decide) rfl (fun ls hl => ?_)
        refine lv_iconst (v := nI 0) hx hb dL_fits_42 (by decide) ?_
        refine lv_istore (lv' := [(9, .int (nI 0)), (8, .int (nI 0)), (7, .int (nI (101 + i))), (6, .int (bI b)), (5, .int (nI (enR (foR (fm (54 * k + 9 * g + j)))))), (4, .int (nI j)), (0, .ref a0), (1, .ref a1), (2, .int (nI k)), (3, .int (nI g))]) hx hb dL_fits_43 hl (by decide) rfl (fun ls hl => ?_)
        refine (?_ : ∀ (n9b : Nat) (c9 : Nat) (t : Nat) (locs : List Loc) (ls : Array Slot), c9 ≤ 9 → 9 < c9 + n9b → t = cntN (fun k9 => hasF (fm (54 * k + k9)) i) c9 → va_S A s.heap H0 locs → lv_has ls 11 [(9, .int (nI c9)), (8, .int (nI t)), (7, .int (nI (101 + i))), (6, .int (bI b)), (5, .int (nI (enR (foR (fm (54 * k + 9 * g + j)))))), (4, .int (nI j)), (0, .ref a0), (1, .ref a1), (2, .int (nI k)), (3, .int (nI g))] → W p l e _ s m args below meth c H0 locs 0 0 _ (F0 m 45 ls [])) (9 + 1) 0 0 _ ls (by omega) (by omega) rfl hS (lv_sub hl [0, 1, 2, 3, 4, 5, 6, 7, 8, 9] rfl)
        clear hS hl
        intro n9b
        induction n9b with
        | zero => intro c9 t locs ls hi9 hn9; exact absurd hn9 (by omega)
        | succ n9b ihb =>
          intro c9 t locs ls hi9b hn9b ht9 hS hl
          refine lv_iload hx hb dL_fits_45 (lv_at hl 0 rfl) ?_
          refine lv_bipush (v := nI 9) hx hb dL_fits_47 (by decide) ?_
          have htl := cntN_le (fun k9 => hasF (fm (54 * k + k9)) i) c9
          refine m_icmp_ge (tgt := 85) hx hb (by omega) (by omega) dL_fits_49 (by decide) (fun c_49 => ?_) (fun c_49 => ?_)
          · have hdu : due fm k i = decide (0 < t) := by rw [ht9, show c9 = 9 by omega]; exact cnt_any 9
            refine lv_iload hx hb dL_fits_85 (lv_at hl 1 rfl) ?_
            refine m_if_ne (tgt := 104) hx hb (by omega) dL_fits_87 (by decide) (fun c_87 => ?_) (fun c_87 => ?_)
            · refine lv_iconst (v := nI 0) hx hb dL_fits_104 (by decide) ?_
              refine lv_istore (lv' := [(9, .int (nI 0)), (8, .int (nI t)), (7, .int (nI (101 + i))), (6, .int (bI b)), (5, .int (nI (enR (foR (fm (54 * k + 9 * g + j)))))), (4, .int (nI j)), (0, .ref a0), (1, .ref a1), (2, .int (nI k)), (3, .int (nI g))]) hx hb dL_fits_105 hl (by decide) rfl (fun ls hl => ?_)
              refine lv_iload hx hb dL_fits_107 (lv_at hl 1 rfl) ?_
              refine m_if_le (tgt := 126) hx hb (by omega) dL_fits_109 (by decide) (fun c_109 => ?_) (fun c_109 => ?_)
              · omega
              · refine lv_iload hx hb dL_fits_112 (lv_at hl 4 rfl) ?_
                refine lv_iload hx hb dL_fits_114 (lv_at hl 2 rfl) ?_
                refine m_cSi (rest := []) ⟨hx, hb, hml, hown, hts⟩ hE hS (fun _ h => h) (kL_has l K A _ (foR (fm (54 * k + 9 * g + j))) (hfm.1 _).g (101 + i) (by omega)) (va_cwS 2 hts gL_fits_L_has rfl rfl rfl (by decide +kernel) ⟨Nat.le_of_ble_eq_true rfl, Nat.le_of_ble_eq_true rfl⟩) rfl rfl hl.1 rfl (Nat.le_of_ble_eq_true rfl) dL_fits_116 ⟨Nat.le_of_ble_eq_true rfl, Nat.le_of_ble_eq_true rfl⟩ (fun r H1 locs hp hS hk => ?_)
                obtain ⟨rfl, rfl⟩ := hp
                refine m_if_ne_b (tgt := 126) hx hb dL_fits_119 (by decide) (fun c_119 => ?_) (fun c_119 => ?_)
                · refine lv_iconst (v := nI 0) hx hb dL_fits_126 (by decide) ?_
                  refine lv_istore (lv' := [(10, .int (nI 0)), (9, .int (nI 0)), (8, .int (nI t)), (7, .int (nI (101 + i))), (6, .int (bI b)), (5, .int (nI (enR (foR (fm (54 * k + 9 * g + j)))))), (4, .int (nI j)), (0, .ref a0), (1, .ref a1), (2, .int (nI k)), (3, .int (nI g))]) hx hb dL_fits_127 hl (by decide) rfl (fun ls hl => ?_)
                  refine lv_iload hx hb dL_fits_129 (lv_at hl 4 rfl) ?_
                  refine m_if_eq_b (tgt := 164) hx hb dL_fits_131 (by decide) (fun c_131 => ?_) (fun c_131 => ?_)
                  · refine lv_iconst (v := nI 0) hx hb dL_fits_164 (by decide) ?_
                    refine W.eq (g2 := F0 m 165 ls [.int (bI false)]) (by rfl) ?_
                    refine lv_istore (lv' := [(6, .int (bI false)), (10, .int (nI 0)), (9, .int (nI 0)), (8, .int (nI t)), (7, .int (nI (101 + i))), (5, .int (nI (enR (foR (fm (54 * k + 9 * g + j)))))), (4, .int (nI j)), (0, .ref a0), (1, .ref a1), (2, .int (nI k)), (3, .int (nI g))]) hx hb dL_fits_165 hl (by decide) rfl (fun ls hl => ?_)
                    refine lv_iinc (v := nI ((101 + i) + 1)) (lv' := [(7, .int (nI ((101 + i) + 1))), (6, .int (bI false)), (10, .int (nI 0)), (9, .int (nI 0)), (8, .int (nI t)), (5, .int (nI (enR (foR (fm (54 * k + 9 * g + j)))))), (4, .int (nI j)), (0, .ref a0), (1, .ref a1), (2, .int (nI k)), (3, .int (nI g))]) hx hb dL_fits_167 hl (k := 4) rfl (m_inc _) (by decide) rfl (fun ls hl => ?_)
                    refine lv_goto (tgt := 32) hx hb dL_fits_170 (by decide) ?_
                    exact iha (i + 1) false _ ls (by omega) (by omega) (by rw [fitC_st (l := laxF (fm (54 * k + 9 * g + j))) hb9 (hdu.trans (decide_eq_true (by omega))) ((hasF_eq (hfm.1 _) (by omega)).symm.trans c_119) (fun _ => rfl), c_131]; rfl) hS (lv_sub hl [0, 1, 5, 6, 7, 8, 9, 10] rfl)
                  · refine lv_iload hx hb dL_fits_134 (lv_at hl 1 rfl) ?_
                    refine m_if_ne (tgt := 164) hx hb (by omega) dL_fits_136 (by decide) (fun c_136 => ?_) (fun c_136 => ?_)
                    · exact absurd c_136 (by first | decide | exact (show ¬ false = true by decide) | exact (show ¬ true = false by decide))
                    · refine lv_iload hx hb dL_fits_139 (lv_at hl 0 rfl) ?_
                      refine m_if_eq (tgt := 160) hx hb (by omega) dL_fits_141 (by decide) (fun c_141 => ?_) (fun c_141 => ?_)
                      · refine lv_iconst (v := nI 1) hx hb dL_fits_160 (by decide) ?_
                        refine lv_goto (tgt := 165) hx hb dL_fits_161 (by decide) ?_
                        refine W.eq (g2 := F0 m 165 ls [.int (bI true)]) (by rfl) ?_
                        refine lv_istore (lv' := [(6, .int (bI true)), (10, .int (nI 0)), (9, .int (nI 0)), (8, .int (nI t)), (7, .int (nI (101 + i))), (5, .int (nI (enR (foR (fm (54 * k + 9 * g + j)))))), (4, .int (nI j)), (0, .ref a0), (1, .ref a1), (2, .int (nI k)), (3, .int (nI g))]) hx hb dL_fits_165 hl (by decide) rfl (fun ls hl => ?_)
                        refine lv_iinc (v := nI ((101 + i) + 1)) (lv' := [(7, .int (nI ((101 + i) + 1))), (6, .int (bI true)), (10, .int (nI 0)), (9, .int (nI 0)), (8, .int (nI t)), (5, .int (nI (enR (foR (fm (54 * k + 9 * g + j)))))), (4, .int (nI j)), (0, .ref a0), (1, .ref a1), (2, .int (nI k)), (3, .int (nI g))]) hx hb dL_fits_167 hl (k := 4) rfl (m_inc _) (by decide) rfl (fun ls hl => ?_)
                        refine lv_goto (tgt := 32) hx hb dL_fits_170 (by decide) ?_
                        exact iha (i + 1) true _ ls (by omega) (by omega) (by rw [fitC_st (l := laxF (fm (54 * k + 9 * g + j))) hb9 (hdu.trans (decide_eq_true (by omega))) ((hasF_eq (hfm.1 _) (by omega)).symm.trans c_119) (fun _ => rfl), c_131]; rfl) hS (lv_sub hl [0, 1, 5, 6, 7, 8, 9, 10] rfl)
                      · exact absurd c_141 (by first | decide | exact (show ¬ false = true by decide) | exact (show ¬ true = false by decide))
                · refine lv_iconst (v := nI 1) hx hb dL_fits_122 (by decide) ?_
                  refine lv_goto (tgt := 127) hx hb dL_fits_123 (by decide) ?_
                  refine lv_istore (lv' := [(10, .int (nI 1)), (9, .int (nI 0)), (8, .int (nI t)), (7, .int (nI (101 + i))), (6, .int (bI b)), (5, .int (nI (enR (foR (fm (54 * k + 9 * g + j)))))), (4, .int (nI j)), (0, .ref a0), (1, .ref a1), (2, .int (nI k)), (3, .int (nI g))]) hx hb dL_fits_127 hl (by decide) rfl (fun ls hl => ?_)
                  refine lv_iload hx hb dL_fits_129 (lv_at hl 4 rfl) ?_
                  refine m_if_eq_b (tgt := 164) hx hb dL_fits_131 (by decide) (fun c_131 => ?_) (fun c_131 => ?_)
                  · refine lv_iconst (v := nI 0) hx hb dL_fits_164 (by decide) ?_
                    refine W.eq (g2 := F0 m 165 ls [.int (bI false)]) (by rfl) ?_
                    refine lv_istore (lv' := [(6, .int (bI false)), (10, .int (nI 1)), (9, .int (nI 0)), (8, .int (nI t)), (7, .int (nI (101 + i))), (5, .int (nI (enR (foR (fm (54 * k + 9 * g + j)))))), (4, .int (nI j)), (0, .ref a0), (1, .ref a1), (2, .int (nI k)), (3, .int (nI g))]) hx hb dL_fits_165 hl (by decide) rfl (fun ls hl => ?_)
                    refine lv_iinc (v := nI ((101 + i) + 1)) (lv' := [(7, .int (nI ((101 + i) + 1))), (6, .int (bI false)), (10, .int (nI 1)), (9, .int (nI 0)), (8, .int (nI t)), (5, .int (nI (enR (foR (fm (54 * k + 9 * g + j)))))), (4, .int (nI j)), (0, .ref a0), (1, .ref a1), (2, .int (nI k)), (3, .int (nI g))]) hx hb dL_fits_167 hl (k := 4) rfl (m_inc _) (by decide) rfl (fun ls hl => ?_)
                    refine lv_goto (tgt := 32) hx hb dL_fits_170 (by decide) ?_
                    exact iha (i + 1) false _ ls (by omega) (by omega) (by rw [fitC_st (l := laxF (fm (54 * k + 9 * g + j))) hb9 (hdu.trans (decide_eq_true (by omega))) ((hasF_eq (hfm.1 _) (by omega)).symm.trans c_119) (fun _ => rfl), c_131]; rfl) hS (lv_sub hl [0, 1, 5, 6, 7, 8, 9, 10] rfl)
                  · refine lv_iload hx hb dL_fits_134 (lv_at hl 1 rfl) ?_
                    refine m_if_ne (tgt := 164) hx hb (by omega) dL_fits_136 (by decide) (fun c_136 => ?_) (fun c_136 => ?_)
                    · exact absurd c_136 (by first | decide | exact (show ¬ false = true by decide) | exact (show ¬ true = false by decide))
                    · refine lv_iload hx hb dL_fits_139 (lv_at hl 0 rfl) ?_
                      refine m_if_eq (tgt := 160) hx hb (by omega) dL_fits_141 (by decide) (fun c_141 => ?_) (fun c_141 => ?_)
                      · exact absurd c_141 (by first | decide | exact (show ¬ false = true by decide) | exact (show ¬ true = false by decide))
                      · refine lv_aload_n hx hb dL_fits_144 rfl (lv_at hl 8 rfl) ?_
                        refine lv_iconst (v := nI 3) hx hb dL_fits_145 (by decide) ?_
                        refine lv_iload_n hx hb dL_fits_146 rfl (lv_at hl 9 rfl) ?_
                        refine m_imul hx hb dL_fits_147 ?_
                        refine lv_iload_n hx hb dL_fits_148 rfl (lv_at hl 10 rfl) ?_
                        refine m_iadd hx hb dL_fits_149 ?_
                        refine m_iald hx hb hE.k hP 1 rfl (by omega) (by omega) rfl dL_fits_150 ?_
                        refine lv_iload hx hb dL_fits_151 (lv_at hl 6 rfl) ?_
                        refine lv_ishr hx hb dL_fits_153 ?_
                        refine lv_iconst (v := nI 1) hx hb dL_fits_154 (by decide) ?_
                        refine lv_iand hx hb dL_fits_155 ?_
                        refine lv_iconst (v := nI 1) hx hb dL_fits_156 (by decide) ?_
                        refine lv_icmp_ne (tgt := 164) hx hb dL_fits_157 (by decide) (fun c_157 => ?_) (fun c_157 => ?_)
                        · refine lv_iconst (v := nI 0) hx hb dL_fits_164 (by decide) ?_
                          refine W.eq (g2 := F0 m 165 ls [.int (bI false)]) (by rfl) ?_
                          refine lv_istore (lv' := [(6, .int (bI false)), (10, .int (nI 1)), (9, .int (nI 0)), (8, .int (nI t)), (7, .int (nI (101 + i))), (5, .int (nI (enR (foR (fm (54 * k + 9 * g + j)))))), (4, .int (nI j)), (0, .ref a0), (1, .ref a1), (2, .int (nI k)), (3, .int (nI g))]) hx hb dL_fits_165 hl (by decide) rfl (fun ls hl => ?_)
                          refine lv_iinc (v := nI ((101 + i) + 1)) (lv' := [(7, .int (nI ((101 + i) + 1))), (6, .int (bI false)), (10, .int (nI 1)), (9, .int (nI 0)), (8, .int (nI t)), (5, .int (nI (enR (foR (fm (54 * k + 9 * g + j)))))), (4, .int (nI j)), (0, .ref a0), (1, .ref a1), (2, .int (nI k)), (3, .int (nI g))]) hx hb dL_fits_167 hl (k := 4) rfl (m_inc _) (by decide) rfl (fun ls hl => ?_)
                          refine lv_goto (tgt := 32) hx hb dL_fits_170 (by decide) ?_
                          exact iha (i + 1) false _ ls (by omega) (by omega) (by rw [fitC_st hb9 (hdu.trans (decide_eq_true (by omega))) ((hasF_eq (hfm.1 _) (by omega)).symm.trans c_119) (lax_bit hx1 hk9 hg9 hj9 hb9), c_131, Bool.eq_false_iff.mpr (fun z => c_157 ((bit_rd hj9).mpr z))]; rfl) hS (lv_sub hl [0, 1, 5, 6, 7, 8, 9, 10] rfl)
                        · refine lv_iconst (v := nI 1) hx hb dL_fits_160 (by decide) ?_
                          refine lv_goto (tgt := 165) hx hb dL_fits_161 (by decide) ?_
                          refine W.eq (g2 := F0 m 165 ls [.int (bI true)]) (by rfl) ?_
                          refine lv_istore (lv' := [(6, .int (bI true)), (10, .int (nI 1)), (9, .int (nI 0)), (8, .int (nI t)), (7, .int (nI (101 + i))), (5, .int (nI (enR (foR (fm (54 * k + 9 * g + j)))))), (4, .int (nI j)), (0, .ref a0), (1, .ref a1), (2, .int (nI k)), (3, .int (nI g))]) hx hb dL_fits_165 hl (by decide) rfl (fun ls hl => ?_)
                          refine lv_iinc (v := nI ((101 + i) + 1)) (lv' := [(7, .int (nI ((101 + i) + 1))), (6, .int (bI true)), (10, .int (nI 1)), (9, .int (nI 0)), (8, .int (nI t)), (5, .int (nI (enR (foR (fm (54 * k + 9 * g + j)))))), (4, .int (nI j)), (0, .ref a0), (1, .ref a1), (2, .int (nI k)), (3, .int (nI g))]) hx hb dL_fits_167 hl (k := 4) rfl (m_inc _) (by decide) rfl (fun ls hl => ?_)
                          refine lv_goto (tgt := 32) hx hb dL_fits_170 (by decide) ?_
                          exact iha (i + 1) true _ ls (by omega) (by omega) (by rw [fitC_st hb9 (hdu.trans (decide_eq_true (by omega))) ((hasF_eq (hfm.1 _) (by omega)).symm.trans c_119) (lax_bit hx1 hk9 hg9 hj9 hb9), c_131, (bit_rd hj9).mp c_157]; rfl) hS (lv_sub hl [0, 1, 5, 6, 7, 8, 9, 10] rfl)
            · refine lv_iload hx hb dL_fits_90 (lv_at hl 4 rfl) ?_
              refine lv_iload hx hb dL_fits_92 (lv_at hl 2 rfl) ?_
              refine m_cSi (rest := []) ⟨hx, hb, hml, hown, hts⟩ hE hS (fun _ h => h) (kL_has l K A _ (foR (fm (54 * k + 9 * g + j))) (hfm.1 _).g (101 + i) (by omega)) (va_cwS 2 hts gL_fits_L_has rfl rfl rfl (by decide +kernel) ⟨Nat.le_of_ble_eq_true rfl, Nat.le_of_ble_eq_true rfl⟩) rfl rfl hl.1 rfl (Nat.le_of_ble_eq_true rfl) dL_fits_94 ⟨Nat.le_of_ble_eq_true rfl, Nat.le_of_ble_eq_true rfl⟩ (fun r H1 locs hp hS hk => ?_)
              obtain ⟨rfl, rfl⟩ := hp
              refine m_if_eq_b (tgt := 104) hx hb dL_fits_97 (by decide) (fun c_97 => ?_) (fun c_97 => ?_)
              · refine lv_iconst (v := nI 0) hx hb dL_fits_104 (by decide) ?_
                refine lv_istore (lv' := [(9, .int (nI 0)), (8, .int (nI t)), (7, .int (nI (101 + i))), (6, .int (bI b)), (5, .int (nI (enR (foR (fm (54 * k + 9 * g + j)))))), (4, .int (nI j)), (0, .ref a0), (1, .ref a1), (2, .int (nI k)), (3, .int (nI g))]) hx hb dL_fits_105 hl (by decide) rfl (fun ls hl => ?_)
                refine lv_iload hx hb dL_fits_107 (lv_at hl 1 rfl) ?_
                refine m_if_le (tgt := 126) hx hb (by omega) dL_fits_109 (by decide) (fun c_109 => ?_) (fun c_109 => ?_)
                · refine lv_iconst (v := nI 0) hx hb dL_fits_126 (by decide) ?_
                  refine lv_istore (lv' := [(10, .int (nI 0)), (9, .int (nI 0)), (8, .int (nI t)), (7, .int (nI (101 + i))), (6, .int (bI b)), (5, .int (nI (enR (foR (fm (54 * k + 9 * g + j)))))), (4, .int (nI j)), (0, .ref a0), (1, .ref a1), (2, .int (nI k)), (3, .int (nI g))]) hx hb dL_fits_127 hl (by decide) rfl (fun ls hl => ?_)
                  refine lv_iload hx hb dL_fits_129 (lv_at hl 4 rfl) ?_
                  refine m_if_eq_b (tgt := 164) hx hb dL_fits_131 (by decide) (fun c_131 => ?_) (fun c_131 => ?_)
                  · refine lv_iconst (v := nI 0) hx hb dL_fits_164 (by decide) ?_
                    refine W.eq (g2 := F0 m 165 ls [.int (bI false)]) (by rfl) ?_
                    refine lv_istore (lv' := [(6, .int (bI false)), (10, .int (nI 0)), (9, .int (nI 0)), (8, .int (nI t)), (7, .int (nI (101 + i))), (5, .int (nI (enR (foR (fm (54 * k + 9 * g + j)))))), (4, .int (nI j)), (0, .ref a0), (1, .ref a1), (2, .int (nI k)), (3, .int (nI g))]) hx hb dL_fits_165 hl (by decide) rfl (fun ls hl => ?_)
                    refine lv_iinc (v := nI ((101 + i) + 1)) (lv' := [(7, .int (nI ((101 + i) + 1))), (6, .int (bI false)), (10, .int (nI 0)), (9, .int (nI 0)), (8, .int (nI t)), (5, .int (nI (enR (foR (fm (54 * k + 9 * g + j)))))), (4, .int (nI j)), (0, .ref a0), (1, .ref a1), (2, .int (nI k)), (3, .int (nI g))]) hx hb dL_fits_167 hl (k := 4) rfl (m_inc _) (by decide) rfl (fun ls hl => ?_)
                    refine lv_goto (tgt := 32) hx hb dL_fits_170 (by decide) ?_
                    exact iha (i + 1) false _ ls (by omega) (by omega) (by rw [fitC_st (l := laxF (fm (54 * k + 9 * g + j))) hb9 (hdu.trans (decide_eq_false (by omega))) ((hasF_eq (hfm.1 _) (by omega)).symm.trans c_97) (fun _ => rfl), c_131]; rfl) hS (lv_sub hl [0, 1, 5, 6, 7, 8, 9, 10] rfl)
                  · refine lv_iload hx hb dL_fits_134 (lv_at hl 1 rfl) ?_
                    refine m_if_ne (tgt := 164) hx hb (by omega) dL_fits_136 (by decide) (fun c_136 => ?_) (fun c_136 => ?_)
                    · exact absurd c_136 (by first | decide | exact (show ¬ false = true by decide) | exact (show ¬ true = false by decide))
                    · refine lv_iload hx hb dL_fits_139 (lv_at hl 0 rfl) ?_
                      refine m_if_eq (tgt := 160) hx hb (by omega) dL_fits_141 (by decide) (fun c_141 => ?_) (fun c_141 => ?_)
                      · refine lv_iconst (v := nI 1) hx hb dL_fits_160 (by decide) ?_
                        refine lv_goto (tgt := 165) hx hb dL_fits_161 (by decide) ?_
                        refine W.eq (g2 := F0 m 165 ls [.int (bI true)]) (by rfl) ?_
                        refine lv_istore (lv' := [(6, .int (bI true)), (10, .int (nI 0)), (9, .int (nI 0)), (8, .int (nI t)), (7, .int (nI (101 + i))), (5, .int (nI (enR (foR (fm (54 * k + 9 * g + j)))))), (4, .int (nI j)), (0, .ref a0), (1, .ref a1), (2, .int (nI k)), (3, .int (nI g))]) hx hb dL_fits_165 hl (by decide) rfl (fun ls hl => ?_)
                        refine lv_iinc (v := nI ((101 + i) + 1)) (lv' := [(7, .int (nI ((101 + i) + 1))), (6, .int (bI true)), (10, .int (nI 0)), (9, .int (nI 0)), (8, .int (nI t)), (5, .int (nI (enR (foR (fm (54 * k + 9 * g + j)))))), (4, .int (nI j)), (0, .ref a0), (1, .ref a1), (2, .int (nI k)), (3, .int (nI g))]) hx hb dL_fits_167 hl (k := 4) rfl (m_inc _) (by decide) rfl (fun ls hl => ?_)
                        refine lv_goto (tgt := 32) hx hb dL_fits_170 (by decide) ?_
                        exact iha (i + 1) true _ ls (by omega) (by omega) (by rw [fitC_st (l := laxF (fm (54 * k + 9 * g + j))) hb9 (hdu.trans (decide_eq_false (by omega))) ((hasF_eq (hfm.1 _) (by omega)).symm.trans c_97) (fun _ => rfl), c_131]; rfl) hS (lv_sub hl [0, 1, 5, 6, 7, 8, 9, 10] rfl)
                      · exact absurd c_141 (by first | decide | exact (show ¬ false = true by decide) | exact (show ¬ true = false by decide))
                · omega
              · refine lv_iconst (v := nI 1) hx hb dL_fits_100 (by decide) ?_
                refine lv_goto (tgt := 105) hx hb dL_fits_101 (by decide) ?_
                refine lv_istore (lv' := [(9, .int (nI 1)), (8, .int (nI t)), (7, .int (nI (101 + i))), (6, .int (bI b)), (5, .int (nI (enR (foR (fm (54 * k + 9 * g + j)))))), (4, .int (nI j)), (0, .ref a0), (1, .ref a1), (2, .int (nI k)), (3, .int (nI g))]) hx hb dL_fits_105 hl (by decide) rfl (fun ls hl => ?_)
                refine lv_iload hx hb dL_fits_107 (lv_at hl 1 rfl) ?_
                refine m_if_le (tgt := 126) hx hb (by omega) dL_fits_109 (by decide) (fun c_109 => ?_) (fun c_109 => ?_)
                · refine lv_iconst (v := nI 0) hx hb dL_fits_126 (by decide) ?_
                  refine lv_istore (lv' := [(10, .int (nI 0)), (9, .int (nI 1)), (8, .int (nI t)), (7, .int (nI (101 + i))), (6, .int (bI b)), (5, .int (nI (enR (foR (fm (54 * k + 9 * g + j)))))), (4, .int (nI j)), (0, .ref a0), (1, .ref a1), (2, .int (nI k)), (3, .int (nI g))]) hx hb dL_fits_127 hl (by decide) rfl (fun ls hl => ?_)
                  refine lv_iload hx hb dL_fits_129 (lv_at hl 4 rfl) ?_
                  refine m_if_eq_b (tgt := 164) hx hb dL_fits_131 (by decide) (fun c_131 => ?_) (fun c_131 => ?_)
                  · refine lv_iconst (v := nI 0) hx hb dL_fits_164 (by decide) ?_
                    refine W.eq (g2 := F0 m 165 ls [.int (bI false)]) (by rfl) ?_
                    refine lv_istore (lv' := [(6, .int (bI false)), (10, .int (nI 0)), (9, .int (nI 1)), (8, .int (nI t)), (7, .int (nI (101 + i))), (5, .int (nI (enR (foR (fm (54 * k + 9 * g + j)))))), (4, .int (nI j)), (0, .ref a0), (1, .ref a1), (2, .int (nI k)), (3, .int (nI g))]) hx hb dL_fits_165 hl (by decide) rfl (fun ls hl => ?_)
                    refine lv_iinc (v := nI ((101 + i) + 1)) (lv' := [(7, .int (nI ((101 + i) + 1))), (6, .int (bI false)), (10, .int (nI 0)), (9, .int (nI 1)), (8, .int (nI t)), (5, .int (nI (enR (foR (fm (54 * k + 9 * g + j)))))), (4, .int (nI j)), (0, .ref a0), (1, .ref a1), (2, .int (nI k)), (3, .int (nI g))]) hx hb dL_fits_167 hl (k := 4) rfl (m_inc _) (by decide) rfl (fun ls hl => ?_)
                    refine lv_goto (tgt := 32) hx hb dL_fits_170 (by decide) ?_
                    exact iha (i + 1) false _ ls (by omega) (by omega) (by rw [fitC_st (l := laxF (fm (54 * k + 9 * g + j))) hb9 (hdu.trans (decide_eq_false (by omega))) ((hasF_eq (hfm.1 _) (by omega)).symm.trans c_97) (fun _ => rfl), c_131]; rfl) hS (lv_sub hl [0, 1, 5, 6, 7, 8, 9, 10] rfl)
                  · refine lv_iload hx hb dL_fits_134 (lv_at hl 1 rfl) ?_
                    refine m_if_ne (tgt := 164) hx hb (by omega) dL_fits_136 (by decide) (fun c_136 => ?_) (fun c_136 => ?_)
                    · refine lv_iconst (v := nI 0) hx hb dL_fits_164 (by decide) ?_
                      refine W.eq (g2 := F0 m 165 ls [.int (bI false)]) (by rfl) ?_
                      refine lv_istore (lv' := [(6, .int (bI false)), (10, .int (nI 0)), (9, .int (nI 1)), (8, .int (nI t)), (7, .int (nI (101 + i))), (5, .int (nI (enR (foR (fm (54 * k + 9 * g + j)))))), (4, .int (nI j)), (0, .ref a0), (1, .ref a1), (2, .int (nI k)), (3, .int (nI g))]) hx hb dL_fits_165 hl (by decide) rfl (fun ls hl => ?_)
                      refine lv_iinc (v := nI ((101 + i) + 1)) (lv' := [(7, .int (nI ((101 + i) + 1))), (6, .int (bI false)), (10, .int (nI 0)), (9, .int (nI 1)), (8, .int (nI t)), (5, .int (nI (enR (foR (fm (54 * k + 9 * g + j)))))), (4, .int (nI j)), (0, .ref a0), (1, .ref a1), (2, .int (nI k)), (3, .int (nI g))]) hx hb dL_fits_167 hl (k := 4) rfl (m_inc _) (by decide) rfl (fun ls hl => ?_)
                      refine lv_goto (tgt := 32) hx hb dL_fits_170 (by decide) ?_
                      exact iha (i + 1) false _ ls (by omega) (by omega) (by rw [fitC_st (l := laxF (fm (54 * k + 9 * g + j))) hb9 (hdu.trans (decide_eq_false (by omega))) ((hasF_eq (hfm.1 _) (by omega)).symm.trans c_97) (fun _ => rfl), c_131]; rfl) hS (lv_sub hl [0, 1, 5, 6, 7, 8, 9, 10] rfl)
                    · exact absurd c_136 (by first | decide | exact (show ¬ false = true by decide) | exact (show ¬ true = false by decide))
                · omega
          · refine lv_iload hx hb dL_fits_52 (lv_at hl 1 rfl) ?_
            refine lv_aload_n hx hb dL_fits_54 rfl (lv_at hl 6 rfl) ?_
            refine lv_bipush (v := nI 27) hx hb dL_fits_55 (by decide) ?_
            refine lv_iload_n hx hb dL_fits_57 rfl (lv_at hl 8 rfl) ?_
            refine m_imul hx hb dL_fits_58 ?_
            refine lv_iload hx hb dL_fits_59 (lv_at hl 0 rfl) ?_
            refine m_iadd hx hb dL_fits_61 ?_
            refine m_iald hx hb hE.k hP 0 rfl (by omega) (by omega) (hf.r0 hk9 (by omega)) dL_fits_62 ?_
            refine lv_iload hx hb dL_fits_63 (lv_at hl 2 rfl) ?_
            have hbC := (hfm.1 (54 * k + c9)).g.lt0
            refine m_cSi (rest := [.int (nI t)]) ⟨hx, hb, hml, hown, hts⟩ hE hS (fun _ h => h) (kL_has l K A _ (foR (fm (54 * k + c9))) (hfm.1 _).g (101 + i) (by omega)) (va_cwS 2 hts gL_fits_L_has rfl rfl rfl (by decide +kernel) ⟨Nat.le_of_ble_eq_true rfl, Nat.le_of_ble_eq_true rfl⟩) rfl rfl hl.1 rfl (Nat.le_of_ble_eq_true rfl) dL_fits_65 ⟨Nat.le_of_ble_eq_true rfl, Nat.le_of_ble_eq_true rfl⟩ (fun r H1 locs hp hS hk => ?_)
            obtain ⟨rfl, rfl⟩ := hp
            refine m_if_eq_b (tgt := 75) hx hb dL_fits_68 (by decide) (fun c_68 => ?_) (fun c_68 => ?_)
            · refine lv_iconst (v := nI 0) hx hb dL_fits_75 (by decide) ?_
              refine m_iadd hx hb dL_fits_76 ?_
              refine lv_istore (lv' := [(8, .int (nI (t + 0))), (9, .int (nI c9)), (7, .int (nI (101 + i))), (6, .int (bI b)), (5, .int (nI (enR (foR (fm (54 * k + 9 * g + j)))))), (4, .int (nI j)), (0, .ref a0), (1, .ref a1), (2, .int (nI k)), (3, .int (nI g))]) hx hb dL_fits_77 hl (by decide) rfl (fun ls hl => ?_)
              refine lv_iinc (v := nI (c9 + 1)) (lv' := [(9, .int (nI (c9 + 1))), (8, .int (nI (t + 0))), (7, .int (nI (101 + i))), (6, .int (bI b)), (5, .int (nI (enR (foR (fm (54 * k + 9 * g + j)))))), (4, .int (nI j)), (0, .ref a0), (1, .ref a1), (2, .int (nI k)), (3, .int (nI g))]) hx hb dL_fits_79 hl (k := 1) rfl (m_inc _) (by decide) rfl (fun ls hl => ?_)
              refine lv_goto (tgt := 45) hx hb dL_fits_82 (by decide) ?_
              exact ihb (c9 + 1) (t + 0) _ ls (by omega) (by omega) (by show _ = cntN (fun k9 => hasF (fm (54 * k + k9)) i) c9 + (if hasF (fm (54 * k + c9)) i = true then 1 else 0); rw [← ht9, ← hasF_eq (hfm.1 _) (by omega), c_68]; rfl) hS (lv_sub hl [0, 1, 2, 3, 4, 5, 6, 7, 8, 9] rfl)
            · refine lv_iconst (v := nI 1) hx hb dL_fits_71 (by decide) ?_
              refine lv_goto (tgt := 76) hx hb dL_fits_72 (by decide) ?_
              refine m_iadd hx hb dL_fits_76 ?_
              refine lv_istore (lv' := [(8, .int (nI (t + 1))), (9, .int (nI c9)), (7, .int (nI (101 + i))), (6, .int (bI b)), (5, .int (nI (enR (foR (fm (54 * k + 9 * g + j)))))), (4, .int (nI j)), (0, .ref a0), (1, .ref a1), (2, .int (nI k)), (3, .int (nI g))]) hx hb dL_fits_77 hl (by decide) rfl (fun ls hl => ?_)
              refine lv_iinc (v := nI (c9 + 1)) (lv' := [(9, .int (nI (c9 + 1))), (8, .int (nI (t + 1))), (7, .int (nI (101 + i))), (6, .int (bI b)), (5, .int (nI (enR (foR (fm (54 * k + 9 * g + j)))))), (4, .int (nI j)), (0, .ref a0), (1, .ref a1), (2, .int (nI k)), (3, .int (nI g))]) hx hb dL_fits_79 hl (k := 1) rfl (m_inc _) (by decide) rfl (fun ls hl => ?_)
              refine lv_goto (tgt := 45) hx hb dL_fits_82 (by decide) ?_
              exact ihb (c9 + 1) (t + 1) _ ls (by omega) (by omega) (by show _ = cntN (fun k9 => hasF (fm (54 * k + k9)) i) c9 + (if hasF (fm (54 * k + c9)) i = true then 1 else 0); rw [← ht9, ← hasF_eq (hfm.1 _) (by omega), c_68]; rfl) hS (lv_sub hl [0, 1, 2, 3, 4, 5, 6, 7, 8, 9] rfl)
