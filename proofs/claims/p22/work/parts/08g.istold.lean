/-! THE LAW: isTold -/
theorem told_cases {fb : Nat → Nat} {on fw : Nat → Int32} {fm : Nat → Option Frm} {k g u : Nat} {x : Int32} (hfb : fbOK fb) (hg : g < 3) (hu : u < 3) : (toldS fb on fw fm k g x u = none ∧ tellS fb on fw fm k g x u = none) ∨ ∃ t F, toldS fb on fw fm k g x u = some t ∧ tellS fb on fw fm k g x u = some (54 * k + t) ∧ fm (54 * k + t) = some F ∧ t < 27 := by
  cases e : tellS fb on fw fm k g x u with
  | none => exact Or.inl ⟨by rw [toldS, e]; rfl, rfl⟩
  | some s =>
    obtain ⟨g9, j, h1, h2, h3, h4⟩ := tellS_3 hfb hg hu e
    cases eF : fm s with
    | none =>
      rw [eF] at h4
      cases h4
    | some F =>
      refine Or.inr ⟨9 * g9 + j, F, ?_, ?_, ?_, by omega⟩
      · rw [toldS, e]
        show some (s - 54 * k) = _
        congr 1
        omega
      · congr 1
        omega
      · rw [show 54 * k + (9 * g9 + j) = s by omega]
        exact eF
theorem sg_none {fm : Nat → Option Frm} {v : Nat} : (signS fm none (nI v)).getD (-5) = if v < (foR none).length then nI (sgR (foR none) v) else -5 := by
  rw [if_neg (show ¬ v < (foR none).length from Nat.not_lt_zero v)]
  rfl
theorem sg_some {fm : Nat → Option Frm} {n v : Nat} {F : Frm} (hF : fm n = some F) (hg : drOK F.1) (hv : v < 2147483648) : (signS fm (some n) (nI v)).getD (-5) = if v < (foR (some F)).length then nI (sgR (foR (some F)) v) else -5 := by
  have e : signS fm (some n) (nI v) = if okB (nI v) F.1.length then some (F.1.getD (tN (nI v)) 0) else none := by simp only [signS, hF]
  have h4 := hg.2
  by_cases h : v < F.1.length
  · rw [e, if_pos (okB_t (okN_nI h (by omega))), if_pos (by rw [foR_len]; exact h), tN_nI hv]
    exact (drR_sg hg h).symm
  · rw [e, if_neg (by rw [okB_f (fun q => h ((okN_nI_iff hv).mp q))]; decide), if_neg (by rw [foR_len]; exact h)]
    rfl
theorem ns_none {fo : Option Frm} {ps : List Pr} {g : Nat} (h : nearF fo ps g = none) (v : Nat) : nearS fo ps g v = if v < (foR none).length then nI (sgR (foR none) v) else nI 0 := by
  rw [nearS_n h, if_neg (show ¬ v < (foR none).length from Nat.not_lt_zero v)]
theorem ns_some {fo : Option Frm} {ps : List Pr} {g : Nat} {P : Pr} (h : nearF fo ps g = some P) (hd : drOK P.2.2.1) (v : Nat) : nearS fo ps g v = if v < (foR (some P.2.2)).length then nI (sgR (foR (some P.2.2)) v) else nI 0 := by
  by_cases hv : v < P.2.2.1.length
  · rw [nearS_s h hv, if_pos (by rw [foR_len]; exact hv)]
    exact (drR_sg hd hv).symm
  · rw [nearS_0 h hv, if_neg (by rw [foR_len]; exact hv)]
theorem cntN_cut {p : Nat → Bool} {a : Nat} : ∀ {n : Nat}, a ≤ n → (∀ j, a ≤ j → j < n → p j = false) → cntN p n = cntN p a
  | 0, h, _ => by rw [show a = 0 by omega]
  | n + 1, h, k => by
    by_cases e : a = n + 1
    · rw [e]
    · rw [cntN, k n (by omega) (by omega), cntN_cut (n := n) (by omega) (fun j h1 h2 => k j h1 (by omega))]
      rfl
theorem cntF_0 {fm : Nat → Option Frm} {k : Nat} (hfm : fmOK fm) (hk : 2 ≤ k) (h10 : k < 10) : cntF fm (54 * k) = 0 := by
  unfold cntF
  rw [cntN_cut (a := 0) (by omega) (fun j _ hj => by
    have h := hfm.2 k 0 j h10 (by omega) hj (Or.inl hk)
    rw [show 54 * k + 9 * 0 + j = 54 * k + j by omega] at h
    rw [h]
    rfl)]
  rfl
theorem miss_2 {fm : Nat → Option Frm} {g : Nat} (hfm : fmOK fm) : missS fm g 10 = missS fm g 2 := cntN_cut (by omega) (fun j h1 h2 => by
  rw [cntF_0 hfm h1 h2]
  rfl)
theorem stale_n {fm : Nat → Option Frm} {vs ch : Nat → Int32} {k g : Nat} (h : ¬ cntF fm (54 * k + 9 * g) = 0) : staleS fm vs ch k g = vs k - (if g = 0 then vs k else ch (6 * k + g)) := by
  unfold staleS
  rw [if_neg h]
  by_cases e : g = 0
  · rw [if_pos e, if_pos e, Int32.sub_self]
    rfl
  · rw [if_neg e, if_neg e]
theorem fRep_t {w : Nat → Int32} {fm : Nat → Option Frm} (h : fRep w fm) {k t : Nat} (hk : k < 2) (ht : t < 27) : w (27 * k + t) = nI (enR (foR (fm (54 * k + t)))) := by
  have := h k (t / 9) (t % 9) hk (by omega) (by omega)
  rw [show 27 * k + 9 * (t / 9) + t % 9 = 27 * k + t by omega, show 54 * k + 9 * (t / 9) + t % 9 = 54 * k + t by omega] at this
  exact this
theorem near_F {fo : Option Frm} {ps : List Pr} {g : Nat} {P : Pr} (h : nearF fo ps g = some P) : ∃ F, fo = some F ∧ nearF (some F) ps g = some P := by
  cases fo with
  | none => cases h
  | some F => exact ⟨F, rfl, h⟩
theorem near_0 {fo : Option Frm} {ps : List Pr} {g : Nat} (h : nearF fo ps g = none) : nearD fo ps g = -1 := by
  cases fo with
  | none => exact nearD_n rfl
  | some F => exact nearD_0 rfl h

set_option maxHeartbeats 4000000 in
set_option maxRecDepth 100000 in
theorem kL_isTold (l : Launch) (K : m_K) (A : Nat → Prop) (H0 : Heap) (hl0 : l.stackTraces = false) (Ac : Nat → Prop) (hsub : ∀ q, Ac q → A q) (b : Nat → Nat) (hno : ∀ i, i < 6 → ¬ Ac (b i)) (g : Nat → Nat → Int32) (hP : va_P K.1 vwCl (lW K b g) H0) (hD : va_D A (lW K b g)) (o : Nat) (ad : Nat → Nat) (fb : Nat → Nat) (on fw : Nat → Int32) (dr : List Int32) (fm : Nat → Option Frm) (vs ch : Nat → Int32) (ps : List Pr) (hc9 : cOK K Ac H0 o ad fb on fw dr fm vs ch ps) (hA : ∀ q, H0.size ≤ q → Ac q) (hR : lRep g fb on fw dr fm vs ch ps) (z : Nat) (hz : z < 1000000) : Met l yL_isTold wsL_isTold ({ frames := 10, cells := 130, slots := 1600, locals := 225 } : Room) (m_Pc K A H0 [.ref o, .ref (b 0), .ref (b 1), .ref (b 2), .ref (b 3), .ref (b 4), .ref (b 5), .int (nI z)]) (va_Qi (fun r H1 => r = bI true ∧ LSt K A Ac b o ad H1) m_B A) 130 1600 A := by
  refine m_ofW (by decide) rfl (Nat.le_of_ble_eq_true rfl) ?_
  intro p e s m args below meth c ls hx hb hr hml hown hts hlk hnm hE hsz hS hl
  have hl : lv_has ls 22 [(0, .ref o), (1, .ref (b 0)), (2, .ref (b 1)), (3, .ref (b 2)), (4, .ref (b 3)), (5, .ref (b 4)), (6, .ref (b 5)), (7, .int (nI z))] := hl
  obtain ⟨hf, hx1, ha, hq, hn, hm, hfb, hfm, hps, hdr⟩ := id hR
  have hdl := hdr.2
  have hm20 := hps.1
  have kk0 : ∀ (k : Nat) (l9 : Nat) (x : Nat) (u : Nat) (kd : Nat) (locs : List Loc) (ls : Array Slot), (k < 2) → (l9 < 3) → (x < 7) → (u < 3) → (kd < 3) → va_S A s.heap H0 locs → lv_has ls 22 [(8, .int (nI k)), (9, .int (nI l9)), (0, .ref o), (1, .ref (b 0)), (2, .ref (b 1)), (3, .ref (b 2)), (4, .ref (b 3)), (5, .ref (b 4)), (6, .ref (b 5)), (10, .int (nI x)), (11, .int (nI u)), (12, .int (nI kd))] → W p l e ({ frames := 10, cells := 130, slots := 1600, locals := 225 } : Room) s m args below meth c H0 locs 0 0 (MQ below (va_Qi (fun r H1 => r = bI true ∧ LSt K A Ac b o ad H1) m_B A) args s 130 1600 A) (F0 m 42 ls []) := by
    intro k l9 x u kd locs ls hk9 hl9 hx8 hu9 hkd hS hl
    have hc := hc9
    have kk1 : ∀ (fo9 : Option Frm) (locs : List Loc) (ls : Array Slot), (gFo fo9) → (∀ v, v < 5 → (signS fm (tellS fb on fw fm k l9 (nI x) u) (nI v)).getD (-5) = if v < (foR fo9).length then nI (sgR (foR fo9) v) else -5) → va_S A s.heap H0 locs → lv_has ls 22 [(15, .int (bI true)), (14, .int (nI (enR (foR fo9)))), (0, .ref o), (1, .ref (b 0)), (2, .ref (b 1)), (3, .ref (b 2)), (4, .ref (b 3)), (5, .ref (b 4)), (6, .ref (b 5)), (8, .int (nI k)), (9, .int (nI l9)), (10, .int (nI x)), (11, .int (nI u)), (12, .int (nI kd))] → W p l e ({ frames := 10, cells := 130, slots := 1600, locals := 225 } : Room) s m args below meth c H0 locs 12 72 (MQ below (va_Qi (fun r H1 => r = bI true ∧ LSt K A Ac b o ad H1) m_B A) args s 130 1600 A) (F0 m 174 ls []) := by
      intro fo9 locs ls hfo hsg hS hl
      have hR9 := hfo.g
      have hR4 := hR9.2
      have hRb := hR9.lt0
      refine lv_iconst (v := nI 0) hx hb dL_isTold_174 (by decide) ?_
      refine lv_istore (lv' := [(16, .int (nI 0)), (15, .int (bI true)), (14, .int (nI (enR (foR fo9)))), (0, .ref o), (1, .ref (b 0)), (2, .ref (b 1)), (3, .ref (b 2)), (4, .ref (b 3)), (5, .ref (b 4)), (6, .ref (b 5)), (8, .int (nI k)), (9, .int (nI l9)), (10, .int (nI x)), (11, .int (nI u)), (12, .int (nI kd))]) hx hb dL_isTold_175 hl (by decide) rfl (fun ls hl => ?_)
      have hP0 := hP
      refine (?_ : ∀ (n9 : Nat) (v : Nat) (H : Heap) (locs : List Loc) (ls : Array Slot), v ≤ 5 → 5 < v + n9 → m_same H0 H → va_S A s.heap H locs → lv_has ls 22 [(16, .int (nI v)), (15, .int (bI true)), (14, .int (nI (enR (foR fo9)))), (0, .ref o), (1, .ref (b 0)), (2, .ref (b 1)), (3, .ref (b 2)), (4, .ref (b 3)), (5, .ref (b 4)), (6, .ref (b 5)), (8, .int (nI k)), (9, .int (nI l9)), (10, .int (nI x)), (11, .int (nI u)), (12, .int (nI kd))] → W p l e _ s m args below meth c H locs (12 + 6 * v) (72 + 36 * v) _ (F0 m 177 ls [])) (5 + 1) 0 _ _ ls (by omega) (by omega)  m_same.rf hS (lv_sub hl [0, 1, 2, 3, 4, 5, 6, 7, 8, 9, 10, 11, 12, 13, 14] rfl)
      clear hS hl hP
      intro n9
      induction n9 with
      | zero => intro v H locs ls hi9 hn9; exact absurd hn9 (by omega)
      | succ n9 ih =>
        intro v H locs ls hi9 hn9 hsm hS hl
        have hP := hsm.P hP0
        refine lv_iload hx hb dL_isTold_177 (lv_at hl 0 rfl) ?_
        refine lv_iconst (v := nI 5) hx hb dL_isTold_179 (by decide) ?_
        refine m_icmp_ge (tgt := 240) hx hb (by omega) (by omega) dL_isTold_180 (by decide) (fun c_180 => ?_) (fun c_180 => ?_)
        · refine W.widen (k := 42) (n := 252) (by omega) (by omega) ?_
          have hc := hc9.same hsm
          refine lv_iconst (v := nI 0) hx hb dL_isTold_240 (by decide) ?_
          refine lv_istore (lv' := [(16, .int (nI 0)), (15, .int (bI true)), (14, .int (nI (enR (foR fo9)))), (0, .ref o), (1, .ref (b 0)), (2, .ref (b 1)), (3, .ref (b 2)), (4, .ref (b 3)), (5, .ref (b 4)), (6, .ref (b 5)), (8, .int (nI k)), (9, .int (nI l9)), (10, .int (nI x)), (11, .int (nI u)), (12, .int (nI kd))]) hx hb dL_isTold_241 hl (by decide) rfl (fun ls hl => ?_)
          refine lv_iconst (v := nI 0) hx hb dL_isTold_243 (by decide) ?_
          refine lv_istore (lv' := [(17, .int (nI 0)), (16, .int (nI 0)), (15, .int (bI true)), (14, .int (nI (enR (foR fo9)))), (0, .ref o), (1, .ref (b 0)), (2, .ref (b 1)), (3, .ref (b 2)), (4, .ref (b 3)), (5, .ref (b 4)), (6, .ref (b 5)), (8, .int (nI k)), (9, .int (nI l9)), (10, .int (nI x)), (11, .int (nI u)), (12, .int (nI kd))]) hx hb dL_isTold_244 hl (by decide) rfl (fun ls hl => ?_)
          refine lv_iconst (v := nI 0) hx hb dL_isTold_246 (by decide) ?_
          refine lv_istore (lv' := [(18, .int (nI 0)), (17, .int (nI 0)), (16, .int (nI 0)), (15, .int (bI true)), (14, .int (nI (enR (foR fo9)))), (0, .ref o), (1, .ref (b 0)), (2, .ref (b 1)), (3, .ref (b 2)), (4, .ref (b 3)), (5, .ref (b 4)), (6, .ref (b 5)), (8, .int (nI k)), (9, .int (nI l9)), (10, .int (nI x)), (11, .int (nI u)), (12, .int (nI kd))]) hx hb dL_isTold_247 hl (by decide) rfl (fun ls hl => ?_)
          refine (?_ : ∀ (n9c : Nat) (i9 : Nat) (n3 : Nat) (locs : List Loc) (ls : Array Slot), i9 ≤ 9 → 9 < i9 + n9c → n3 = cntN (fun j => (fm (54 * k + 9 * l9 + j)).isSome) i9 → va_S A s.heap H locs → lv_has ls 22 [(18, .int (nI i9)), (16, .int (nI n3)), (17, .int (nI 0)), (15, .int (bI true)), (14, .int (nI (enR (foR fo9)))), (0, .ref o), (1, .ref (b 0)), (2, .ref (b 1)), (3, .ref (b 2)), (4, .ref (b 3)), (5, .ref (b 4)), (6, .ref (b 5)), (8, .int (nI k)), (9, .int (nI l9)), (10, .int (nI x)), (11, .int (nI u)), (12, .int (nI kd))] → W p l e _ s m args below meth c H locs 42 252 _ (F0 m 249 ls [])) (9 + 1) 0 0 _ ls (by omega) (by omega) rfl hS (lv_sub hl [0, 2, 1, 3, 4, 5, 6, 7, 8, 9, 10, 11, 12, 13, 14, 15, 16] rfl)
          clear hS hl
          intro n9c
          induction n9c with
          | zero => intro i9 n3 locs ls hi9 hn9; exact absurd hn9 (by omega)
          | succ n9c ihc =>
            intro i9 n3 locs ls hi9c hn9c hn3 hS hl
            refine lv_iload hx hb dL_isTold_249 (lv_at hl 0 rfl) ?_
            refine lv_bipush (v := nI 9) hx hb dL_isTold_251 (by decide) ?_
            refine m_icmp_ge (tgt := 291) hx hb (by omega) (by omega) dL_isTold_253 (by decide) (fun c_253 => ?_) (fun c_253 => ?_)
            · refine lv_iconst (v := nI 0) hx hb dL_isTold_291 (by decide) ?_
              refine lv_istore (lv' := [(18, .int (nI 0)), (16, .int (nI n3)), (17, .int (nI 0)), (15, .int (bI true)), (14, .int (nI (enR (foR fo9)))), (0, .ref o), (1, .ref (b 0)), (2, .ref (b 1)), (3, .ref (b 2)), (4, .ref (b 3)), (5, .ref (b 4)), (6, .ref (b 5)), (8, .int (nI k)), (9, .int (nI l9)), (10, .int (nI x)), (11, .int (nI u)), (12, .int (nI kd))]) hx hb dL_isTold_292 hl (by decide) rfl (fun ls hl => ?_)
              have hn3 : n3 = cntF fm (54 * k + 9 * l9) := by rw [hn3, show i9 = 9 by omega]; rfl
              have hn9 := cntF_le fm (54 * k + 9 * l9)
              have hl := lv_sub (l' := [(16, .int (nI n3)), (17, .int (nI 0)), (18, .int (nI 0)), (15, .int (bI true)), (14, .int (nI (enR (foR fo9)))), (0, .ref o), (1, .ref (b 0)), (2, .ref (b 1)), (3, .ref (b 2)), (4, .ref (b 3)), (5, .ref (b 4)), (6, .ref (b 5)), (8, .int (nI k)), (9, .int (nI l9)), (10, .int (nI x)), (11, .int (nI u)), (12, .int (nI kd))]) hl [1, 2, 0, 3, 4, 5, 6, 7, 8, 9, 10, 11, 12, 13, 14, 15, 16] rfl
              refine (?_ : ∀ (n9d : Nat) (v9 : Nat) (m9 : Nat) (locs : List Loc) (ls : Array Slot), v9 ≤ 2 → 2 < v9 + n9d → m9 = missS fm l9 v9 → va_S A s.heap H locs → lv_has ls 22 [(18, .int (nI v9)), (17, .int (nI m9)), (16, .int (nI n3)), (15, .int (bI true)), (14, .int (nI (enR (foR fo9)))), (0, .ref o), (1, .ref (b 0)), (2, .ref (b 1)), (3, .ref (b 2)), (4, .ref (b 3)), (5, .ref (b 4)), (6, .ref (b 5)), (8, .int (nI k)), (9, .int (nI l9)), (10, .int (nI x)), (11, .int (nI u)), (12, .int (nI kd))] → W p l e _ s m args below meth c H locs 42 252 _ (F0 m 294 ls [])) (2 + 1) 0 0 _ ls (by omega) (by omega) rfl hS (lv_sub hl [2, 1, 0, 3, 4, 5, 6, 7, 8, 9, 10, 11, 12, 13, 14, 15, 16] rfl)
              clear hS hl
              intro n9d
              induction n9d with
              | zero => intro v9 m9 locs ls hi9 hn9; exact absurd hn9 (by omega)
              | succ n9d ihd =>
                intro v9 m9 locs ls hi9d hn9d hm9 hS hl
                refine lv_iload hx hb dL_isTold_294 (lv_at hl 0 rfl) ?_
                refine lv_iconst (v := nI 2) hx hb dL_isTold_296 (by decide) ?_
                refine m_icmp_ge (tgt := 400) hx hb (by omega) (by omega) dL_isTold_297 (by decide) (fun c_297 => ?_) (fun c_297 => ?_)
                · have hm2 : m9 = missS fm l9 2 := by rw [hm9, show v9 = 2 by omega]
                  have hm3 : m9 ≤ 2 := by rw [hm2]; exact cntN_le _ 2
                  refine lv_aload_n hx hb dL_isTold_400 rfl (lv_at hl 6 rfl) ?_
                  refine lv_aload hx hb dL_isTold_401 (lv_at hl 9 rfl) ?_
                  refine lv_aload hx hb dL_isTold_403 (lv_at hl 11 rfl) ?_
                  refine lv_iload hx hb dL_isTold_405 (lv_at hl 12 rfl) ?_
                  refine lv_iload hx hb dL_isTold_407 (lv_at hl 13 rfl) ?_
                  refine lv_iconst (v := nI 3) hx hb dL_isTold_409 (by decide) ?_
                  refine lv_iload hx hb dL_isTold_410 (lv_at hl 16 rfl) ?_
                  refine m_imul hx hb dL_isTold_412 ?_
                  refine lv_iload hx hb dL_isTold_413 (lv_at hl 15 rfl) ?_
                  refine m_iadd hx hb dL_isTold_415 ?_
                  refine m_cSi (rest := []) ⟨hx, hb, hml, hown, hts⟩ hE hS (fun q h => hsub q (hA q (Nat.le_trans hsm.1 h))) (kL_near l K (fun q => H.size ≤ q) H (fun q => Iff.rfl) (b 0) (b 3) (b 5) (g 0) (g 3) (g 5) (hP.sub [0, 3, 5] rfl) fm hfm hf ps hps hq dr hm k l9 (3 * kd + u) hk9 hl9 (by omega)) (va_cwS 6 hts gL_isTold_L_near rfl rfl rfl (by decide +kernel) ⟨Nat.le_of_ble_eq_true rfl, Nat.le_of_ble_eq_true rfl⟩) rfl rfl hl.1 rfl (Nat.le_of_ble_eq_true rfl) dL_isTold_416 ⟨by show _ ≤ 130; omega, by show _ ≤ 1600; omega⟩ (fun r Hx2 locs hp hS hk => ?_)
                  obtain ⟨⟨nr, rfl, hnF, hnl⟩, hsm1⟩ := hp
                  have hsm := hsm.trans hsm1
                  have hP := hsm.P hP0
                  have hc := hc9.same hsm
                  cases nr with
                  | none =>
                    refine W.eq (g2 := F0 m 419 ls [.int (-1)]) (by rfl) ?_
                    have hnF : nearF (fm (54 * k + (3 * kd + u))) ps l9 = none := hnF
                    have hns := ns_none hnF
                    have hg8 : gR (foR none) := gFo.g (fo := none) (fun F e => by cases e)
                    have hb8 : enR (foR none) < 268435456 := hg8.lt0
                    have h84 := hg8.2
                    refine lv_istore (lv' := [(18, .int (-1)), (17, .int (nI m9)), (16, .int (nI n3)), (15, .int (bI true)), (14, .int (nI (enR (foR fo9)))), (0, .ref o), (1, .ref (b 0)), (2, .ref (b 1)), (3, .ref (b 2)), (4, .ref (b 3)), (5, .ref (b 4)), (6, .ref (b 5)), (8, .int (nI k)), (9, .int (nI l9)), (10, .int (nI x)), (11, .int (nI u)), (12, .int (nI kd))]) hx hb dL_isTold_419 hl (by decide) rfl (fun ls hl => ?_)
                    refine lv_iload hx hb dL_isTold_421 (lv_at hl 0 rfl) ?_
                    refine lv_if_ge (tgt := 430) hx hb dL_isTold_423 (by decide) (fun c_423 => ?_) (fun c_423 => ?_)
                    · exact absurd c_423 (by decide)
                    · refine lv_iconst (v := nI 0) hx hb dL_isTold_426 (by decide) ?_
                      refine lv_goto (tgt := 439) hx hb dL_isTold_427 (by decide) ?_
                      refine lv_istore (lv' := [(19, .int (nI 0)), (18, .int (-1)), (17, .int (nI m9)), (16, .int (nI n3)), (15, .int (bI true)), (14, .int (nI (enR (foR fo9)))), (0, .ref o), (1, .ref (b 0)), (2, .ref (b 1)), (3, .ref (b 2)), (4, .ref (b 3)), (5, .ref (b 4)), (6, .ref (b 5)), (8, .int (nI k)), (9, .int (nI l9)), (10, .int (nI x)), (11, .int (nI u)), (12, .int (nI kd))]) hx hb dL_isTold_439 hl (by decide) rfl (fun ls hl => ?_)
                      have hl : lv_has ls 22 [(19, .int (nI (enR (foR none)))), (18, .int (-1)), (17, .int (nI m9)), (16, .int (nI n3)), (15, .int (bI true)), (14, .int (nI (enR (foR fo9)))), (0, .ref o), (1, .ref (b 0)), (2, .ref (b 1)), (3, .ref (b 2)), (4, .ref (b 3)), (5, .ref (b 4)), (6, .ref (b 5)), (8, .int (nI k)), (9, .int (nI l9)), (10, .int (nI x)), (11, .int (nI u)), (12, .int (nI kd))] := hl
                      refine lv_iload hx hb dL_isTold_441 (lv_at hl 4 rfl) ?_
                      refine m_if_eq_b (tgt := 596) hx hb dL_isTold_443 (by decide) (fun c_443 => ?_) (fun c_443 => ?_)
                      · exact absurd c_443 (by first | decide | exact (show ¬ false = true by decide) | exact (show ¬ true = false by decide))
                      · refine lv_aload_n hx hb dL_isTold_446 rfl (lv_at hl 6 rfl) ?_
                        refine lv_iload hx hb dL_isTold_447 (lv_at hl 13 rfl) ?_
                        refine lv_iload hx hb dL_isTold_449 (lv_at hl 14 rfl) ?_
                        obtain ⟨f7, d7, ft7, li7, T7, hPc, hDc, hRc⟩ := id hc
                        refine m_xVi (rest := []) ⟨hx, hb, hml, hown, hts⟩ hE hS hsub (kX2_forms l hl0 K Ac _ o ad fb on fw dr fm vs ch ps hc (nI k) (nI l9)) (cwV 2 hts gL_isTold_X2_forms rfl rfl rfl (by decide +kernel) ⟨Nat.le_of_ble_eq_true rfl, Nat.le_of_ble_eq_true rfl⟩) (va_recv hE.k hPc (ci := 3) (q0 := 0) rfl rfl) rfl rfl hl.1 rfl (Nat.le_of_ble_eq_true rfl) dL_isTold_451 ⟨by show _ ≤ 130; omega, by show _ ≤ 1600; omega⟩ (fun E ce q9 H9 locs9 hx9 hs9 hS9 y1 y2 y3 => (hx9.2 ⟨okN_nI (by omega) (by decide), okN_nI (by omega) (by decide)⟩).elim) (fun r H1 locs hp hS hk => ?_)
                        rw [tN_nI (show k < 2147483648 by omega), tN_nI (show l9 < 2147483648 by omega)] at hp
                        obtain ⟨-, hr9, rfl⟩ := hp
                        rw [← hn3] at hr9
                        subst hr9
                        refine lv_iload hx hb dL_isTold_454 (lv_at hl 3 rfl) ?_
                        refine m_icmp_ne (tgt := 596) hx hb (by omega) (by omega) dL_isTold_456 (by decide) (fun c_456 => ?_) (fun c_456 => ?_)
                        · exact absurd rfl c_456
                        · refine lv_aload_n hx hb dL_isTold_459 rfl (lv_at hl 6 rfl) ?_
                          refine lv_iload hx hb dL_isTold_460 (lv_at hl 13 rfl) ?_
                          refine lv_iload hx hb dL_isTold_462 (lv_at hl 14 rfl) ?_
                          obtain ⟨f7, d7, ft7, li7, T7, hPc, hDc, hRc⟩ := id hc
                          refine m_xVi (rest := []) ⟨hx, hb, hml, hown, hts⟩ hE hS hsub (kX2_staleBy l hl0 K Ac _ o ad fb on fw dr fm vs ch ps hc (nI k) (nI l9)) (cwV 2 hts gL_isTold_X2_staleBy rfl rfl rfl (by decide +kernel) ⟨Nat.le_of_ble_eq_true rfl, Nat.le_of_ble_eq_true rfl⟩) (va_recv hE.k hPc (ci := 3) (q0 := 0) rfl rfl) rfl rfl hl.1 rfl (Nat.le_of_ble_eq_true rfl) dL_isTold_464 ⟨by show _ ≤ 130; omega, by show _ ≤ 1600; omega⟩ (fun E ce q9 H9 locs9 hx9 hs9 hS9 y1 y2 y3 => (hx9.2 ⟨okN_nI (by omega) (by decide), okN_nI (by omega) (by decide)⟩).elim) (fun r H1 locs hp hS hk => ?_)
                          rw [tN_nI (show k < 2147483648 by omega), tN_nI (show l9 < 2147483648 by omega)] at hp
                          obtain ⟨-, hr9, rfl⟩ := hp
                          refine lv_iload hx hb dL_isTold_467 (lv_at hl 3 rfl) ?_
                          refine m_if_ne (tgt := 476) hx hb (by omega) dL_isTold_469 (by decide) (fun c_469 => ?_) (fun c_469 => ?_)
                          · rw [stale_n (by rw [← hn3]; exact c_469)] at hr9
                            subst hr9
                            refine lv_aload_n hx hb dL_isTold_476 rfl (lv_at hl 9 rfl) ?_
                            refine lv_iload hx hb dL_isTold_477 (lv_at hl 13 rfl) ?_
                            refine m_iald hx hb hE.k hP 2 rfl (by omega) (by omega) ((ha k hk9).1) dL_isTold_479 ?_
                            refine lv_aload_n hx hb dL_isTold_480 rfl (lv_at hl 9 rfl) ?_
                            refine lv_iconst (v := nI 2) hx hb dL_isTold_481 (by decide) ?_
                            refine lv_iconst (v := nI 3) hx hb dL_isTold_482 (by decide) ?_
                            refine lv_iload hx hb dL_isTold_483 (lv_at hl 13 rfl) ?_
                            refine m_imul hx hb dL_isTold_485 ?_
                            refine m_iadd hx hb dL_isTold_486 ?_
                            refine lv_iload hx hb dL_isTold_487 (lv_at hl 14 rfl) ?_
                            refine m_iadd hx hb dL_isTold_489 ?_
                            refine m_iald hx hb hE.k hP 2 rfl (by omega) (by omega) ((ha k hk9).2 l9 hl9) dL_isTold_490 ?_
                            refine lv_isub hx hb dL_isTold_491 ?_
                            refine lv_icmp_ne (tgt := 596) hx hb dL_isTold_492 (by decide) (fun c_492 => ?_) (fun c_492 => ?_)
                            · exact absurd rfl c_492
                            · refine lv_aload_n hx hb dL_isTold_495 rfl (lv_at hl 6 rfl) ?_
                              refine lv_iload hx hb dL_isTold_496 (lv_at hl 13 rfl) ?_
                              obtain ⟨f7, d7, ft7, li7, T7, hPc, hDc, hRc⟩ := id hc
                              refine m_xVi (rest := []) ⟨hx, hb, hml, hown, hts⟩ hE hS hsub (kX2_version l hl0 K Ac _ o ad fb on fw dr fm vs ch ps hc (nI k)) (cwV 1 hts gL_isTold_X2_version rfl rfl rfl (by decide +kernel) ⟨Nat.le_of_ble_eq_true rfl, Nat.le_of_ble_eq_true rfl⟩) (va_recv hE.k hPc (ci := 3) (q0 := 0) rfl rfl) rfl rfl hl.1 rfl (Nat.le_of_ble_eq_true rfl) dL_isTold_498 ⟨by show _ ≤ 130; omega, by show _ ≤ 1600; omega⟩ (fun E ce q9 H9 locs9 hx9 hs9 hS9 y1 y2 y3 => (hx9.2 (okN_nI (by omega) (by decide))).elim) (fun r H1 locs hp hS hk => ?_)
                              rw [tN_nI (show k < 2147483648 by omega)] at hp
                              obtain ⟨-, rfl, rfl⟩ := hp
                              refine lv_aload_n hx hb dL_isTold_501 rfl (lv_at hl 9 rfl) ?_
                              refine lv_iload hx hb dL_isTold_502 (lv_at hl 13 rfl) ?_
                              refine m_iald hx hb hE.k hP 2 rfl (by omega) (by omega) ((ha k hk9).1) dL_isTold_504 ?_
                              refine lv_icmp_ne (tgt := 596) hx hb dL_isTold_505 (by decide) (fun c_505 => ?_) (fun c_505 => ?_)
                              · exact absurd rfl c_505
                              · refine lv_aload_n hx hb dL_isTold_508 rfl (lv_at hl 6 rfl) ?_
                                refine lv_iload hx hb dL_isTold_509 (lv_at hl 14 rfl) ?_
                                obtain ⟨f7, d7, ft7, li7, T7, hPc, hDc, hRc⟩ := id hc
                                refine m_xVi (rest := []) ⟨hx, hb, hml, hown, hts⟩ hE hS hsub (kX2_missing l hl0 K Ac _ o ad fb on fw dr fm vs ch ps hc (nI l9)) (cwV 1 hts gL_isTold_X2_missing rfl rfl rfl (by decide +kernel) ⟨Nat.le_of_ble_eq_true rfl, Nat.le_of_ble_eq_true rfl⟩) (va_recv hE.k hPc (ci := 3) (q0 := 0) rfl rfl) rfl rfl hl.1 rfl (Nat.le_of_ble_eq_true rfl) dL_isTold_511 ⟨by show _ ≤ 130; omega, by show _ ≤ 1600; omega⟩ (fun E ce q9 H9 locs9 hx9 hs9 hS9 y1 y2 y3 => (hx9.2 (okN_nI (by omega) (by decide))).elim) (fun r H1 locs hp hS hk => ?_)
                                rw [tN_nI (show l9 < 2147483648 by omega)] at hp
                                obtain ⟨-, hr9, rfl⟩ := hp
                                rw [miss_2 hfm, ← hm2] at hr9
                                subst hr9
                                refine lv_iload hx hb dL_isTold_514 (lv_at hl 2 rfl) ?_
                                refine m_icmp_ne (tgt := 596) hx hb (by omega) (by omega) dL_isTold_516 (by decide) (fun c_516 => ?_) (fun c_516 => ?_)
                                · exact absurd rfl c_516
                                · refine lv_aload_n hx hb dL_isTold_519 rfl (lv_at hl 6 rfl) ?_
                                  refine lv_iload hx hb dL_isTold_520 (lv_at hl 14 rfl) ?_
                                  refine lv_iload hx hb dL_isTold_522 (lv_at hl 15 rfl) ?_
                                  obtain ⟨f7, d7, ft7, li7, T7, hPc, hDc, hRc⟩ := id hc
                                  refine m_xVi (rest := []) ⟨hx, hb, hml, hown, hts⟩ hE hS hsub (kX2_kindOf l hl0 K Ac _ o ad fb on fw dr fm vs ch ps hc (nI l9) (nI x)) (cwV 2 hts gL_isTold_X2_kindOf rfl rfl rfl (by decide +kernel) ⟨Nat.le_of_ble_eq_true rfl, Nat.le_of_ble_eq_true rfl⟩) (va_recv hE.k hPc (ci := 3) (q0 := 0) rfl rfl) rfl rfl hl.1 rfl (Nat.le_of_ble_eq_true rfl) dL_isTold_524 ⟨by show _ ≤ 130; omega, by show _ ≤ 1600; omega⟩ (fun E ce q9 H9 locs9 hx9 hs9 hS9 y1 y2 y3 => (hx9.elim (fun h => h.2 (okN_nI (by omega) (by decide))) (fun h => h.2.2 (okN_max (by omega)))).elim) (fun r H1 locs hp hS hk => ?_)
                                  rw [tN_nI (show l9 < 2147483648 by omega)] at hp
                                  obtain ⟨-, -, rfl, rfl⟩ := hp
                                  have hkf := kindF_lt on fw l9 (nI x)
                                  refine lv_aload hx hb dL_isTold_527 (lv_at hl 11 rfl) ?_
                                  refine lv_iload hx hb dL_isTold_529 (lv_at hl 14 rfl) ?_
                                  refine lv_iload hx hb dL_isTold_531 (lv_at hl 15 rfl) ?_
                                  refine m_cSi (rest := [.int (nI (kindF on fw l9 (nI x)))]) ⟨hx, hb, hml, hown, hts⟩ hE hS (fun _ h => h) (kL_kind l K A _ (b 4) (g 4) (hP.sub [4] rfl) fb on fw hn l9 hl9 (nI x)) (va_cwS 3 hts gL_isTold_L_kind rfl rfl rfl (by decide +kernel) ⟨Nat.le_of_ble_eq_true rfl, Nat.le_of_ble_eq_true rfl⟩) rfl rfl hl.1 rfl (Nat.le_of_ble_eq_true rfl) dL_isTold_533 ⟨by show _ ≤ 130; omega, by show _ ≤ 1600; omega⟩ (fun r H1 locs hp hS hk => ?_)
                                  obtain ⟨rfl, rfl⟩ := hp
                                  refine m_icmp_ne (tgt := 596) hx hb (by omega) (by omega) dL_isTold_536 (by decide) (fun c_536 => ?_) (fun c_536 => ?_)
                                  · exact absurd rfl c_536
                                  · refine lv_aload_n hx hb dL_isTold_539 rfl (lv_at hl 6 rfl) ?_
                                    refine lv_iload hx hb dL_isTold_540 (lv_at hl 13 rfl) ?_
                                    refine lv_iload hx hb dL_isTold_542 (lv_at hl 14 rfl) ?_
                                    refine lv_iload hx hb dL_isTold_544 (lv_at hl 17 rfl) ?_
                                    refine lv_iload hx hb dL_isTold_546 (lv_at hl 16 rfl) ?_
                                    obtain ⟨f7, d7, ft7, li7, T7, hPc, hDc, hRc⟩ := id hc
                                    refine m_xVi (rest := []) ⟨hx, hb, hml, hown, hts⟩ hE hS hsub (kX2_fits l hl0 K Ac _ o ad fb on fw dr fm vs ch ps hc (nI k) (nI l9) (nI kd) (nI u)) (cwV 4 hts gL_isTold_X2_fits rfl rfl rfl (by decide +kernel) ⟨Nat.le_of_ble_eq_true rfl, Nat.le_of_ble_eq_true rfl⟩) (va_recv hE.k hPc (ci := 3) (q0 := 0) rfl rfl) rfl rfl hl.1 rfl (Nat.le_of_ble_eq_true rfl) dL_isTold_548 ⟨by show _ ≤ 130; omega, by show _ ≤ 1600; omega⟩ (fun E ce q9 H9 locs9 hx9 hs9 hS9 y1 y2 y3 => (hx9.2 ⟨okN_nI (by omega) (by decide), okN_nI (by omega) (by decide), okN_nI (by omega) (by decide), okN_nI (by omega) (by decide)⟩).elim) (fun r H1 locs hp hS hk => ?_)
                                    rw [tN_nI (show k < 2147483648 by omega), tN_nI (show l9 < 2147483648 by omega), tN_nI (show kd < 2147483648 by omega), tN_nI (show u < 2147483648 by omega), show 54 * k + 9 * l9 + 3 * kd + u = 54 * k + 9 * l9 + (3 * kd + u) by omega] at hp
                                    obtain ⟨-, rfl, rfl⟩ := hp
                                    refine lv_aload_n hx hb dL_isTold_551 rfl (lv_at hl 7 rfl) ?_
                                    refine lv_aload_n hx hb dL_isTold_552 rfl (lv_at hl 8 rfl) ?_
                                    refine lv_iload hx hb dL_isTold_553 (lv_at hl 13 rfl) ?_
                                    refine lv_iload hx hb dL_isTold_555 (lv_at hl 14 rfl) ?_
                                    refine lv_iconst (v := nI 3) hx hb dL_isTold_557 (by decide) ?_
                                    refine lv_iload hx hb dL_isTold_558 (lv_at hl 17 rfl) ?_
                                    refine m_imul hx hb dL_isTold_560 ?_
                                    refine lv_iload hx hb dL_isTold_561 (lv_at hl 16 rfl) ?_
                                    refine m_iadd hx hb dL_isTold_563 ?_
                                    refine m_cSi (rest := [.int (bI (fitF fm k (fm (54 * k + 9 * l9 + (3 * kd + u)))))]) ⟨hx, hb, hml, hown, hts⟩ hE hS (fun _ h => h) (kL_fits l K A _ (b 0) (b 1) (g 0) (g 1) (hP.sub [0, 1] rfl) fm hfm hf hx1 k l9 (3 * kd + u) hk9 hl9 (by omega)) (va_cwS 5 hts gL_isTold_L_fits rfl rfl rfl (by decide +kernel) ⟨Nat.le_of_ble_eq_true rfl, Nat.le_of_ble_eq_true rfl⟩) rfl rfl hl.1 rfl (Nat.le_of_ble_eq_true rfl) dL_isTold_564 ⟨by show _ ≤ 130; omega, by show _ ≤ 1600; omega⟩ (fun r H1 locs hp hS hk => ?_)
                                    obtain ⟨rfl, rfl⟩ := hp
                                    refine lv_icmp_ne (tgt := 596) hx hb dL_isTold_567 (by decide) (fun c_567 => ?_) (fun c_567 => ?_)
                                    · exact absurd rfl c_567
                                    · refine lv_aload_n hx hb dL_isTold_570 rfl (lv_at hl 6 rfl) ?_
                                      obtain ⟨f7, d7, ft7, li7, T7, hPc, hDc, hRc⟩ := id hc
                                      refine m_cVi (rest := []) ⟨hx, hb, hml, hown, hts⟩ hE hS hsub (kX2_pairs l K Ac _ o ad fb on fw dr fm vs ch ps hc) (cwV 0 hts gL_isTold_X2_pairs rfl rfl rfl (by decide +kernel) ⟨Nat.le_of_ble_eq_true rfl, Nat.le_of_ble_eq_true rfl⟩) (va_recv hE.k hPc (ci := 3) (q0 := 0) rfl rfl) rfl rfl hl.1 rfl (Nat.le_of_ble_eq_true rfl) dL_isTold_571 ⟨by show _ ≤ 130; omega, by show _ ≤ 1600; omega⟩ (fun r H1 locs hp hS hk => ?_)
                                      obtain ⟨rfl, rfl⟩ := hp
                                      refine lv_aload hx hb dL_isTold_574 (lv_at hl 12 rfl) ?_
                                      refine lv_iconst (v := nI 0) hx hb dL_isTold_576 (by decide) ?_
                                      refine m_iald hx hb hE.k hP 5 rfl (by omega) (by omega) hm.1 dL_isTold_577 ?_
                                      refine m_icmp_ne (tgt := 596) hx hb (by omega) (by omega) dL_isTold_578 (by decide) (fun c_578 => ?_) (fun c_578 => ?_)
                                      · exact absurd rfl c_578
                                      · refine lv_aload_n hx hb dL_isTold_581 rfl (lv_at hl 6 rfl) ?_
                                        obtain ⟨f7, d7, ft7, li7, T7, hPc, hDc, hRc⟩ := id hc
                                        refine m_cVi (rest := []) ⟨hx, hb, hml, hown, hts⟩ hE hS hsub (kX2_draft l K Ac _ o ad fb on fw dr fm vs ch ps hc) (cwV 0 hts gL_isTold_X2_draft rfl rfl rfl (by decide +kernel) ⟨Nat.le_of_ble_eq_true rfl, Nat.le_of_ble_eq_true rfl⟩) (va_recv hE.k hPc (ci := 3) (q0 := 0) rfl rfl) rfl rfl hl.1 rfl (Nat.le_of_ble_eq_true rfl) dL_isTold_582 ⟨by show _ ≤ 130; omega, by show _ ≤ 1600; omega⟩ (fun r H1 locs hp hS hk => ?_)
                                        obtain ⟨rfl, rfl⟩ := hp
                                        refine lv_aload hx hb dL_isTold_585 (lv_at hl 12 rfl) ?_
                                        refine lv_iconst (v := nI 1) hx hb dL_isTold_587 (by decide) ?_
                                        refine m_iald hx hb hE.k hP 5 rfl (by omega) (by omega) hm.2.1 dL_isTold_588 ?_
                                        refine m_icmp_ne (tgt := 596) hx hb (by omega) (by omega) dL_isTold_589 (by decide) (fun c_589 => ?_) (fun c_589 => ?_)
                                        · exact absurd rfl c_589
                                        · refine lv_iconst (v := nI 1) hx hb dL_isTold_592 (by decide) ?_
                                          refine lv_goto (tgt := 597) hx hb dL_isTold_593 (by decide) ?_
                                          refine W.eq (g2 := F0 m 597 ls [.int (bI true)]) (by rfl) ?_
                                          refine lv_istore (lv' := [(15, .int (bI true)), (19, .int (nI (enR (foR none)))), (18, .int (-1)), (17, .int (nI m9)), (16, .int (nI n3)), (14, .int (nI (enR (foR fo9)))), (0, .ref o), (1, .ref (b 0)), (2, .ref (b 1)), (3, .ref (b 2)), (4, .ref (b 3)), (5, .ref (b 4)), (6, .ref (b 5)), (8, .int (nI k)), (9, .int (nI l9)), (10, .int (nI x)), (11, .int (nI u)), (12, .int (nI kd))]) hx hb dL_isTold_597 hl (by decide) rfl (fun ls hl => ?_)
                                          refine lv_iload hx hb dL_isTold_599 (lv_at hl 0 rfl) ?_
                                          refine m_if_eq_b (tgt := 659) hx hb dL_isTold_601 (by decide) (fun c_601 => ?_) (fun c_601 => ?_)
                                          · exact absurd c_601 (by first | decide | exact (show ¬ false = true by decide) | exact (show ¬ true = false by decide))
                                          · refine lv_aload_n hx hb dL_isTold_604 rfl (lv_at hl 6 rfl) ?_
                                            refine lv_iload hx hb dL_isTold_605 (lv_at hl 13 rfl) ?_
                                            refine lv_iload hx hb dL_isTold_607 (lv_at hl 14 rfl) ?_
                                            refine lv_iload hx hb dL_isTold_609 (lv_at hl 17 rfl) ?_
                                            refine lv_iload hx hb dL_isTold_611 (lv_at hl 16 rfl) ?_
                                            obtain ⟨f7, d7, ft7, li7, T7, hPc, hDc, hRc⟩ := id hc
                                            refine m_xVi (rest := []) ⟨hx, hb, hml, hown, hts⟩ hE hS hsub (kX2_nearDistance l hl0 K Ac _ o ad fb on fw dr fm vs ch ps hc (nI k) (nI l9) (nI kd) (nI u)) (cwV 4 hts gL_isTold_X2_nearDistance rfl rfl rfl (by decide +kernel) ⟨Nat.le_of_ble_eq_true rfl, Nat.le_of_ble_eq_true rfl⟩) (va_recv hE.k hPc (ci := 3) (q0 := 0) rfl rfl) rfl rfl hl.1 rfl (Nat.le_of_ble_eq_true rfl) dL_isTold_613 ⟨by show _ ≤ 130; omega, by show _ ≤ 1600; omega⟩ (fun E ce q9 H9 locs9 hx9 hs9 hS9 y1 y2 y3 => (hx9.2 ⟨okN_nI (by omega) (by decide), okN_nI (by omega) (by decide), okN_nI (by omega) (by decide), okN_nI (by omega) (by decide)⟩).elim) (fun r Hx3 locs hp hS hk => ?_)
                                            rw [tN_nI (show k < 2147483648 by omega), tN_nI (show l9 < 2147483648 by omega), tN_nI (show kd < 2147483648 by omega), tN_nI (show u < 2147483648 by omega), show 54 * k + 3 * kd + u = 54 * k + (3 * kd + u) by omega] at hp
                                            obtain ⟨-, hr9, hc⟩ := hp
                                            have hP := lW_kept hP (fun i hi => hk (b i) (lW_lt hP hi) (hno i hi))
                                            rw [near_0 hnF] at hr9
                                            subst hr9
                                            refine lv_iload hx hb dL_isTold_616 (lv_at hl 2 rfl) ?_
                                            refine lv_if_ge (tgt := 625) hx hb dL_isTold_618 (by decide) (fun c_618 => ?_) (fun c_618 => ?_)
                                            · exact absurd c_618 (by decide)
                                            · refine lv_iconst (v := (-1)) hx hb dL_isTold_621 (by decide) ?_
                                              refine lv_goto (tgt := 652) hx hb dL_isTold_622 (by decide) ?_
                                              refine lv_icmp_ne (tgt := 659) hx hb dL_isTold_652 (by decide) (fun c_652 => ?_) (fun c_652 => ?_)
                                              · exact absurd rfl c_652
                                              · refine lv_iconst (v := nI 1) hx hb dL_isTold_655 (by decide) ?_
                                                refine lv_goto (tgt := 660) hx hb dL_isTold_656 (by decide) ?_
                                                refine W.eq (g2 := F0 m 660 ls [.int (bI true)]) (by rfl) ?_
                                                refine lv_istore (lv' := [(15, .int (bI true)), (19, .int (nI (enR (foR none)))), (18, .int (-1)), (17, .int (nI m9)), (16, .int (nI n3)), (14, .int (nI (enR (foR fo9)))), (0, .ref o), (1, .ref (b 0)), (2, .ref (b 1)), (3, .ref (b 2)), (4, .ref (b 3)), (5, .ref (b 4)), (6, .ref (b 5)), (8, .int (nI k)), (9, .int (nI l9)), (10, .int (nI x)), (11, .int (nI u)), (12, .int (nI kd))]) hx hb dL_isTold_660 hl (by decide) rfl (fun ls hl => ?_)
                                                refine lv_iconst (v := nI 0) hx hb dL_isTold_662 (by decide) ?_
                                                refine lv_istore (lv' := [(20, .int (nI 0)), (15, .int (bI true)), (19, .int (nI (enR (foR none)))), (18, .int (-1)), (17, .int (nI m9)), (16, .int (nI n3)), (14, .int (nI (enR (foR fo9)))), (0, .ref o), (1, .ref (b 0)), (2, .ref (b 1)), (3, .ref (b 2)), (4, .ref (b 3)), (5, .ref (b 4)), (6, .ref (b 5)), (8, .int (nI k)), (9, .int (nI l9)), (10, .int (nI x)), (11, .int (nI u)), (12, .int (nI kd))]) hx hb dL_isTold_663 hl (by decide) rfl (fun ls hl => ?_)
                                                have hD := hD
                                                refine W.widen (k := 100 + 6 * 0) (n := 1400 + 36 * 0) (by omega) (by omega) ?_
                                                refine (?_ : ∀ (n9f : Nat) (v : Nat) (H : Heap) (locs : List Loc) (ls : Array Slot), v ≤ 5 → 5 < v + n9f → cOK K Ac H o ad fb on fw dr fm vs ch ps → va_P K.1 vwCl (lW K b g) H → va_D A (lW K b g) → va_S A s.heap H locs → lv_has ls 22 [(20, .int (nI v)), (15, .int (bI true)), (19, .int (nI (enR (foR none)))), (0, .ref o), (1, .ref (b 0)), (2, .ref (b 1)), (3, .ref (b 2)), (4, .ref (b 3)), (5, .ref (b 4)), (6, .ref (b 5)), (8, .int (nI k)), (9, .int (nI l9)), (10, .int (nI x)), (11, .int (nI u)), (12, .int (nI kd))] → W p l e _ s m args below meth c H locs (100 + 6 * v) (1400 + 36 * v) _ (F0 m 665 ls [])) (5 + 1) 0 _ _ ls (by omega) (by omega) hc hP hD hS (lv_sub hl [0, 1, 2, 7, 8, 9, 10, 11, 12, 13, 14, 15, 16, 17, 18] rfl)
                                                clear hS hl hP hD
                                                intro n9f
                                                induction n9f with
                                                | zero => intro v H locs ls hi9 hn9; exact absurd hn9 (by omega)
                                                | succ n9f ihf =>
                                                  intro v H locs ls hi9f hn9f hc hP hD hS hl
                                                  refine lv_iload hx hb dL_isTold_665 (lv_at hl 0 rfl) ?_
                                                  refine lv_iconst (v := nI 5) hx hb dL_isTold_667 (by decide) ?_
                                                  refine m_icmp_ge (tgt := 727) hx hb (by omega) (by omega) dL_isTold_668 (by decide) (fun c_668 => ?_) (fun c_668 => ?_)
                                                  · refine lv_iload hx hb dL_isTold_727 (lv_at hl 1 rfl) ?_
                                                    refine W.widen (k := 130) (n := 1600) (by omega) (by omega) ?_
                                                    exact m_zret hx hb hr hlk hS (Nat.le_of_ble_eq_true rfl) (Nat.le_of_ble_eq_true rfl) dL_isTold_729 (⟨rfl, g, _, _, _, _, _, _, _, _, hP, hD, hc, hR⟩)
                                                  · refine lv_iload hx hb dL_isTold_671 (lv_at hl 1 rfl) ?_
                                                    refine m_if_eq_b (tgt := 727) hx hb dL_isTold_673 (by decide) (fun c_673 => ?_) (fun c_673 => ?_)
                                                    · exact absurd c_673 (by first | decide | exact (show ¬ false = true by decide) | exact (show ¬ true = false by decide))
                                                    · refine lv_aload_n hx hb dL_isTold_676 rfl (lv_at hl 3 rfl) ?_
                                                      refine lv_iload hx hb dL_isTold_677 (lv_at hl 10 rfl) ?_
                                                      refine lv_iload hx hb dL_isTold_679 (lv_at hl 11 rfl) ?_
                                                      refine lv_iload hx hb dL_isTold_681 (lv_at hl 14 rfl) ?_
                                                      refine lv_iload hx hb dL_isTold_683 (lv_at hl 13 rfl) ?_
                                                      refine lv_iload hx hb dL_isTold_685 (lv_at hl 0 rfl) ?_
                                                      obtain ⟨f7, d7, ft7, li7, T7, hPc, hDc, hRc⟩ := id hc
                                                      refine m_xVi (rest := []) ⟨hx, hb, hml, hown, hts⟩ hE hS hsub (kX2_nearSign l hl0 K Ac _ o ad fb on fw dr fm vs ch ps hc (nI k) (nI l9) (nI kd) (nI u) (nI v)) (cwV 5 hts gL_isTold_X2_nearSign rfl rfl rfl (by decide +kernel) ⟨Nat.le_of_ble_eq_true rfl, Nat.le_of_ble_eq_true rfl⟩) (va_recv hE.k hPc (ci := 3) (q0 := 0) rfl rfl) rfl rfl hl.1 rfl (Nat.le_of_ble_eq_true rfl) dL_isTold_687 ⟨by show _ ≤ 130; omega, by show _ ≤ 1600; omega⟩ (fun E ce q9 H9 locs9 hx9 hs9 hS9 y1 y2 y3 => (hx9.2 ⟨⟨okN_nI (by omega) (by decide), okN_nI (by omega) (by decide), okN_nI (by omega) (by decide), okN_nI (by omega) (by decide)⟩, okN_max (by omega)⟩).elim) (fun r Hx5 locs hp hS hk => ?_)
                                                      rw [tN_nI (show k < 2147483648 by omega), tN_nI (show l9 < 2147483648 by omega), tN_nI (show kd < 2147483648 by omega), tN_nI (show u < 2147483648 by omega), tN_nI (show v < 2147483648 by omega), show 54 * k + 3 * kd + u = 54 * k + (3 * kd + u) by omega] at hp
                                                      obtain ⟨-, -, hr9, hc⟩ := hp
                                                      rw [hns v] at hr9
                                                      have hP := lW_kept hP (fun i hi => hk (b i) (lW_lt hP hi) (hno i hi))
                                                      refine lv_iload hx hb dL_isTold_690 (lv_at hl 0 rfl) ?_
                                                      refine lv_iload hx hb dL_isTold_692 (lv_at hl 2 rfl) ?_
                                                      refine m_cSi (rest := [.int (nI v), .int r]) ⟨hx, hb, hml, hown, hts⟩ hE hS (fun _ h => h) (kL_size l K A _ (foR none) hg8) (va_cwS 1 hts gL_isTold_L_size rfl rfl rfl (by decide +kernel) ⟨Nat.le_of_ble_eq_true rfl, Nat.le_of_ble_eq_true rfl⟩) rfl rfl hl.1 rfl (Nat.le_of_ble_eq_true rfl) dL_isTold_694 ⟨by show _ ≤ 130; omega, by show _ ≤ 1600; omega⟩ (fun r H1 locs hp hS hk => ?_)
                                                      obtain ⟨rfl, rfl⟩ := hp
                                                      refine m_icmp_ge (tgt := 710) hx hb (by omega) (by omega) dL_isTold_697 (by decide) (fun c_697 => ?_) (fun c_697 => ?_)
                                                      · rw [if_neg (by omega)] at hr9
                                                        subst hr9
                                                        refine lv_iconst (v := nI 0) hx hb dL_isTold_710 (by decide) ?_
                                                        refine m_icmp_ne (tgt := 718) hx hb (by omega) (by omega) dL_isTold_711 (by decide) (fun c_711 => ?_) (fun c_711 => ?_)
                                                        · exact absurd rfl c_711
                                                        · refine lv_iconst (v := nI 1) hx hb dL_isTold_714 (by decide) ?_
                                                          refine lv_goto (tgt := 719) hx hb dL_isTold_715 (by decide) ?_
                                                          refine W.eq (g2 := F0 m 719 ls [.int (bI true)]) (by rfl) ?_
                                                          refine lv_istore (lv' := [(15, .int (bI true)), (20, .int (nI v)), (19, .int (nI (enR (foR none)))), (0, .ref o), (1, .ref (b 0)), (2, .ref (b 1)), (3, .ref (b 2)), (4, .ref (b 3)), (5, .ref (b 4)), (6, .ref (b 5)), (8, .int (nI k)), (9, .int (nI l9)), (10, .int (nI x)), (11, .int (nI u)), (12, .int (nI kd))]) hx hb dL_isTold_719 hl (by decide) rfl (fun ls hl => ?_)
                                                          refine lv_iinc (v := nI (v + 1)) (lv' := [(20, .int (nI (v + 1))), (15, .int (bI true)), (19, .int (nI (enR (foR none)))), (0, .ref o), (1, .ref (b 0)), (2, .ref (b 1)), (3, .ref (b 2)), (4, .ref (b 3)), (5, .ref (b 4)), (6, .ref (b 5)), (8, .int (nI k)), (9, .int (nI l9)), (10, .int (nI x)), (11, .int (nI u)), (12, .int (nI kd))]) hx hb dL_isTold_721 hl (k := 1) rfl (m_inc _) (by decide) rfl (fun ls hl => ?_)
                                                          refine lv_goto (tgt := 665) hx hb dL_isTold_724 (by decide) ?_
                                                          refine W.widen (k := 100 + 6 * (v + 1)) (n := 1400 + 36 * (v + 1)) (by omega) (by omega) ?_
                                                          exact ihf (v + 1) _ _ ls (by omega) (by omega) hc hP hD hS (lv_sub hl [0, 1, 2, 3, 4, 5, 6, 7, 8, 9, 10, 11, 12, 13, 14] rfl)
                                                      · rw [if_pos (by omega)] at hr9
                                                        subst hr9
                                                        refine lv_iload hx hb dL_isTold_700 (lv_at hl 2 rfl) ?_
                                                        refine lv_iload hx hb dL_isTold_702 (lv_at hl 0 rfl) ?_
                                                        have hsb := hg8.s (p := v) (by omega)
                                                        refine m_cSi (rest := [.int (nI (sgR (foR none) v))]) ⟨hx, hb, hml, hown, hts⟩ hE hS (fun _ h => h) (kL_signAt l K A _ (foR none) hg8 v (by omega)) (va_cwS 2 hts gL_isTold_L_signAt rfl rfl rfl (by decide +kernel) ⟨Nat.le_of_ble_eq_true rfl, Nat.le_of_ble_eq_true rfl⟩) rfl rfl hl.1 rfl (Nat.le_of_ble_eq_true rfl) dL_isTold_704 ⟨by show _ ≤ 130; omega, by show _ ≤ 1600; omega⟩ (fun r H1 locs hp hS hk => ?_)
                                                        obtain ⟨rfl, rfl⟩ := hp
                                                        refine lv_goto (tgt := 711) hx hb dL_isTold_707 (by decide) ?_
                                                        refine m_icmp_ne (tgt := 718) hx hb (by omega) (by omega) dL_isTold_711 (by decide) (fun c_711 => ?_) (fun c_711 => ?_)
                                                        · exact absurd rfl c_711
                                                        · refine lv_iconst (v := nI 1) hx hb dL_isTold_714 (by decide) ?_
                                                          refine lv_goto (tgt := 719) hx hb dL_isTold_715 (by decide) ?_
                                                          refine W.eq (g2 := F0 m 719 ls [.int (bI true)]) (by rfl) ?_
                                                          refine lv_istore (lv' := [(15, .int (bI true)), (20, .int (nI v)), (19, .int (nI (enR (foR none)))), (0, .ref o), (1, .ref (b 0)), (2, .ref (b 1)), (3, .ref (b 2)), (4, .ref (b 3)), (5, .ref (b 4)), (6, .ref (b 5)), (8, .int (nI k)), (9, .int (nI l9)), (10, .int (nI x)), (11, .int (nI u)), (12, .int (nI kd))]) hx hb dL_isTold_719 hl (by decide) rfl (fun ls hl => ?_)
                                                          refine lv_iinc (v := nI (v + 1)) (lv' := [(20, .int (nI (v + 1))), (15, .int (bI true)), (19, .int (nI (enR (foR none)))), (0, .ref o), (1, .ref (b 0)), (2, .ref (b 1)), (3, .ref (b 2)), (4, .ref (b 3)), (5, .ref (b 4)), (6, .ref (b 5)), (8, .int (nI k)), (9, .int (nI l9)), (10, .int (nI x)), (11, .int (nI u)), (12, .int (nI kd))]) hx hb dL_isTold_721 hl (k := 1) rfl (m_inc _) (by decide) rfl (fun ls hl => ?_)
                                                          refine lv_goto (tgt := 665) hx hb dL_isTold_724 (by decide) ?_
                                                          refine W.widen (k := 100 + 6 * (v + 1)) (n := 1400 + 36 * (v + 1)) (by omega) (by omega) ?_
                                                          exact ihf (v + 1) _ _ ls (by omega) (by omega) hc hP hD hS (lv_sub hl [0, 1, 2, 3, 4, 5, 6, 7, 8, 9, 10, 11, 12, 13, 14] rfl)
                          · have hr9 : r = -1 := hr9.trans (if_pos (by rw [← hn3]; exact c_469))
                            subst hr9
                            refine lv_iconst (v := (-1)) hx hb dL_isTold_472 (by decide) ?_
                            refine lv_goto (tgt := 492) hx hb dL_isTold_473 (by decide) ?_
                            refine lv_icmp_ne (tgt := 596) hx hb dL_isTold_492 (by decide) (fun c_492 => ?_) (fun c_492 => ?_)
                            · exact absurd rfl c_492
                            · refine lv_aload_n hx hb dL_isTold_495 rfl (lv_at hl 6 rfl) ?_
                              refine lv_iload hx hb dL_isTold_496 (lv_at hl 13 rfl) ?_
                              obtain ⟨f7, d7, ft7, li7, T7, hPc, hDc, hRc⟩ := id hc
                              refine m_xVi (rest := []) ⟨hx, hb, hml, hown, hts⟩ hE hS hsub (kX2_version l hl0 K Ac _ o ad fb on fw dr fm vs ch ps hc (nI k)) (cwV 1 hts gL_isTold_X2_version rfl rfl rfl (by decide +kernel) ⟨Nat.le_of_ble_eq_true rfl, Nat.le_of_ble_eq_true rfl⟩) (va_recv hE.k hPc (ci := 3) (q0 := 0) rfl rfl) rfl rfl hl.1 rfl (Nat.le_of_ble_eq_true rfl) dL_isTold_498 ⟨by show _ ≤ 130; omega, by show _ ≤ 1600; omega⟩ (fun E ce q9 H9 locs9 hx9 hs9 hS9 y1 y2 y3 => (hx9.2 (okN_nI (by omega) (by decide))).elim) (fun r H1 locs hp hS hk => ?_)
                              rw [tN_nI (show k < 2147483648 by omega)] at hp
                              obtain ⟨-, rfl, rfl⟩ := hp
                              refine lv_aload_n hx hb dL_isTold_501 rfl (lv_at hl 9 rfl) ?_
                              refine lv_iload hx hb dL_isTold_502 (lv_at hl 13 rfl) ?_
                              refine m_iald hx hb hE.k hP 2 rfl (by omega) (by omega) ((ha k hk9).1) dL_isTold_504 ?_
                              refine lv_icmp_ne (tgt := 596) hx hb dL_isTold_505 (by decide) (fun c_505 => ?_) (fun c_505 => ?_)
                              · exact absurd rfl c_505
                              · refine lv_aload_n hx hb dL_isTold_508 rfl (lv_at hl 6 rfl) ?_
                                refine lv_iload hx hb dL_isTold_509 (lv_at hl 14 rfl) ?_
                                obtain ⟨f7, d7, ft7, li7, T7, hPc, hDc, hRc⟩ := id hc
                                refine m_xVi (rest := []) ⟨hx, hb, hml, hown, hts⟩ hE hS hsub (kX2_missing l hl0 K Ac _ o ad fb on fw dr fm vs ch ps hc (nI l9)) (cwV 1 hts gL_isTold_X2_missing rfl rfl rfl (by decide +kernel) ⟨Nat.le_of_ble_eq_true rfl, Nat.le_of_ble_eq_true rfl⟩) (va_recv hE.k hPc (ci := 3) (q0 := 0) rfl rfl) rfl rfl hl.1 rfl (Nat.le_of_ble_eq_true rfl) dL_isTold_511 ⟨by show _ ≤ 130; omega, by show _ ≤ 1600; omega⟩ (fun E ce q9 H9 locs9 hx9 hs9 hS9 y1 y2 y3 => (hx9.2 (okN_nI (by omega) (by decide))).elim) (fun r H1 locs hp hS hk => ?_)
                                rw [tN_nI (show l9 < 2147483648 by omega)] at hp
                                obtain ⟨-, hr9, rfl⟩ := hp
                                rw [miss_2 hfm, ← hm2] at hr9
                                subst hr9
                                refine lv_iload hx hb dL_isTold_514 (lv_at hl 2 rfl) ?_
                                refine m_icmp_ne (tgt := 596) hx hb (by omega) (by omega) dL_isTold_516 (by decide) (fun c_516 => ?_) (fun c_516 => ?_)
                                · exact absurd rfl c_516
                                · refine lv_aload_n hx hb dL_isTold_519 rfl (lv_at hl 6 rfl) ?_
                                  refine lv_iload hx hb dL_isTold_520 (lv_at hl 14 rfl) ?_
                                  refine lv_iload hx hb dL_isTold_522 (lv_at hl 15 rfl) ?_
                                  obtain ⟨f7, d7, ft7, li7, T7, hPc, hDc, hRc⟩ := id hc
                                  refine m_xVi (rest := []) ⟨hx, hb, hml, hown, hts⟩ hE hS hsub (kX2_kindOf l hl0 K Ac _ o ad fb on fw dr fm vs ch ps hc (nI l9) (nI x)) (cwV 2 hts gL_isTold_X2_kindOf rfl rfl rfl (by decide +kernel) ⟨Nat.le_of_ble_eq_true rfl, Nat.le_of_ble_eq_true rfl⟩) (va_recv hE.k hPc (ci := 3) (q0 := 0) rfl rfl) rfl rfl hl.1 rfl (Nat.le_of_ble_eq_true rfl) dL_isTold_524 ⟨by show _ ≤ 130; omega, by show _ ≤ 1600; omega⟩ (fun E ce q9 H9 locs9 hx9 hs9 hS9 y1 y2 y3 => (hx9.elim (fun h => h.2 (okN_nI (by omega) (by decide))) (fun h => h.2.2 (okN_max (by omega)))).elim) (fun r H1 locs hp hS hk => ?_)
                                  rw [tN_nI (show l9 < 2147483648 by omega)] at hp
                                  obtain ⟨-, -, rfl, rfl⟩ := hp
                                  have hkf := kindF_lt on fw l9 (nI x)
                                  refine lv_aload hx hb dL_isTold_527 (lv_at hl 11 rfl) ?_
                                  refine lv_iload hx hb dL_isTold_529 (lv_at hl 14 rfl) ?_
                                  refine lv_iload hx hb dL_isTold_531 (lv_at hl 15 rfl) ?_
                                  refine m_cSi (rest := [.int (nI (kindF on fw l9 (nI x)))]) ⟨hx, hb, hml, hown, hts⟩ hE hS (fun _ h => h) (kL_kind l K A _ (b 4) (g 4) (hP.sub [4] rfl) fb on fw hn l9 hl9 (nI x)) (va_cwS 3 hts gL_isTold_L_kind rfl rfl rfl (by decide +kernel) ⟨Nat.le_of_ble_eq_true rfl, Nat.le_of_ble_eq_true rfl⟩) rfl rfl hl.1 rfl (Nat.le_of_ble_eq_true rfl) dL_isTold_533 ⟨by show _ ≤ 130; omega, by show _ ≤ 1600; omega⟩ (fun r H1 locs hp hS hk => ?_)
                                  obtain ⟨rfl, rfl⟩ := hp
                                  refine m_icmp_ne (tgt := 596) hx hb (by omega) (by omega) dL_isTold_536 (by decide) (fun c_536 => ?_) (fun c_536 => ?_)
                                  · exact absurd rfl c_536
                                  · refine lv_aload_n hx hb dL_isTold_539 rfl (lv_at hl 6 rfl) ?_
                                    refine lv_iload hx hb dL_isTold_540 (lv_at hl 13 rfl) ?_
                                    refine lv_iload hx hb dL_isTold_542 (lv_at hl 14 rfl) ?_
                                    refine lv_iload hx hb dL_isTold_544 (lv_at hl 17 rfl) ?_
                                    refine lv_iload hx hb dL_isTold_546 (lv_at hl 16 rfl) ?_
                                    obtain ⟨f7, d7, ft7, li7, T7, hPc, hDc, hRc⟩ := id hc
                                    refine m_xVi (rest := []) ⟨hx, hb, hml, hown, hts⟩ hE hS hsub (kX2_fits l hl0 K Ac _ o ad fb on fw dr fm vs ch ps hc (nI k) (nI l9) (nI kd) (nI u)) (cwV 4 hts gL_isTold_X2_fits rfl rfl rfl (by decide +kernel) ⟨Nat.le_of_ble_eq_true rfl, Nat.le_of_ble_eq_true rfl⟩) (va_recv hE.k hPc (ci := 3) (q0 := 0) rfl rfl) rfl rfl hl.1 rfl (Nat.le_of_ble_eq_true rfl) dL_isTold_548 ⟨by show _ ≤ 130; omega, by show _ ≤ 1600; omega⟩ (fun E ce q9 H9 locs9 hx9 hs9 hS9 y1 y2 y3 => (hx9.2 ⟨okN_nI (by omega) (by decide), okN_nI (by omega) (by decide), okN_nI (by omega) (by decide), okN_nI (by omega) (by decide)⟩).elim) (fun r H1 locs hp hS hk => ?_)
                                    rw [tN_nI (show k < 2147483648 by omega), tN_nI (show l9 < 2147483648 by omega), tN_nI (show kd < 2147483648 by omega), tN_nI (show u < 2147483648 by omega), show 54 * k + 9 * l9 + 3 * kd + u = 54 * k + 9 * l9 + (3 * kd + u) by omega] at hp
                                    obtain ⟨-, rfl, rfl⟩ := hp
                                    refine lv_aload_n hx hb dL_isTold_551 rfl (lv_at hl 7 rfl) ?_
                                    refine lv_aload_n hx hb dL_isTold_552 rfl (lv_at hl 8 rfl) ?_
                                    refine lv_iload hx hb dL_isTold_553 (lv_at hl 13 rfl) ?_
                                    refine lv_iload hx hb dL_isTold_555 (lv_at hl 14 rfl) ?_
                                    refine lv_iconst (v := nI 3) hx hb dL_isTold_557 (by decide) ?_
                                    refine lv_iload hx hb dL_isTold_558 (lv_at hl 17 rfl) ?_
                                    refine m_imul hx hb dL_isTold_560 ?_
                                    refine lv_iload hx hb dL_isTold_561 (lv_at hl 16 rfl) ?_
                                    refine m_iadd hx hb dL_isTold_563 ?_
                                    refine m_cSi (rest := [.int (bI (fitF fm k (fm (54 * k + 9 * l9 + (3 * kd + u)))))]) ⟨hx, hb, hml, hown, hts⟩ hE hS (fun _ h => h) (kL_fits l K A _ (b 0) (b 1) (g 0) (g 1) (hP.sub [0, 1] rfl) fm hfm hf hx1 k l9 (3 * kd + u) hk9 hl9 (by omega)) (va_cwS 5 hts gL_isTold_L_fits rfl rfl rfl (by decide +kernel) ⟨Nat.le_of_ble_eq_true rfl, Nat.le_of_ble_eq_true rfl⟩) rfl rfl hl.1 rfl (Nat.le_of_ble_eq_true rfl) dL_isTold_564 ⟨by show _ ≤ 130; omega, by show _ ≤ 1600; omega⟩ (fun r H1 locs hp hS hk => ?_)
                                    obtain ⟨rfl, rfl⟩ := hp
                                    refine lv_icmp_ne (tgt := 596) hx hb dL_isTold_567 (by decide) (fun c_567 => ?_) (fun c_567 => ?_)
                                    · exact absurd rfl c_567
                                    · refine lv_aload_n hx hb dL_isTold_570 rfl (lv_at hl 6 rfl) ?_
                                      obtain ⟨f7, d7, ft7, li7, T7, hPc, hDc, hRc⟩ := id hc
                                      refine m_cVi (rest := []) ⟨hx, hb, hml, hown, hts⟩ hE hS hsub (kX2_pairs l K Ac _ o ad fb on fw dr fm vs ch ps hc) (cwV 0 hts gL_isTold_X2_pairs rfl rfl rfl (by decide +kernel) ⟨Nat.le_of_ble_eq_true rfl, Nat.le_of_ble_eq_true rfl⟩) (va_recv hE.k hPc (ci := 3) (q0 := 0) rfl rfl) rfl rfl hl.1 rfl (Nat.le_of_ble_eq_true rfl) dL_isTold_571 ⟨by show _ ≤ 130; omega, by show _ ≤ 1600; omega⟩ (fun r H1 locs hp hS hk => ?_)
                                      obtain ⟨rfl, rfl⟩ := hp
                                      refine lv_aload hx hb dL_isTold_574 (lv_at hl 12 rfl) ?_
                                      refine lv_iconst (v := nI 0) hx hb dL_isTold_576 (by decide) ?_
                                      refine m_iald hx hb hE.k hP 5 rfl (by omega) (by omega) hm.1 dL_isTold_577 ?_
                                      refine m_icmp_ne (tgt := 596) hx hb (by omega) (by omega) dL_isTold_578 (by decide) (fun c_578 => ?_) (fun c_578 => ?_)
                                      · exact absurd rfl c_578
                                      · refine lv_aload_n hx hb dL_isTold_581 rfl (lv_at hl 6 rfl) ?_
                                        obtain ⟨f7, d7, ft7, li7, T7, hPc, hDc, hRc⟩ := id hc
                                        refine m_cVi (rest := []) ⟨hx, hb, hml, hown, hts⟩ hE hS hsub (kX2_draft l K Ac _ o ad fb on fw dr fm vs ch ps hc) (cwV 0 hts gL_isTold_X2_draft rfl rfl rfl (by decide +kernel) ⟨Nat.le_of_ble_eq_true rfl, Nat.le_of_ble_eq_true rfl⟩) (va_recv hE.k hPc (ci := 3) (q0 := 0) rfl rfl) rfl rfl hl.1 rfl (Nat.le_of_ble_eq_true rfl) dL_isTold_582 ⟨by show _ ≤ 130; omega, by show _ ≤ 1600; omega⟩ (fun r H1 locs hp hS hk => ?_)
                                        obtain ⟨rfl, rfl⟩ := hp
                                        refine lv_aload hx hb dL_isTold_585 (lv_at hl 12 rfl) ?_
                                        refine lv_iconst (v := nI 1) hx hb dL_isTold_587 (by decide) ?_
                                        refine m_iald hx hb hE.k hP 5 rfl (by omega) (by omega) hm.2.1 dL_isTold_588 ?_
                                        refine m_icmp_ne (tgt := 596) hx hb (by omega) (by omega) dL_isTold_589 (by decide) (fun c_589 => ?_) (fun c_589 => ?_)
                                        · exact absurd rfl c_589
                                        · refine lv_iconst (v := nI 1) hx hb dL_isTold_592 (by decide) ?_
                                          refine lv_goto (tgt := 597) hx hb dL_isTold_593 (by decide) ?_
                                          refine W.eq (g2 := F0 m 597 ls [.int (bI true)]) (by rfl) ?_
                                          refine lv_istore (lv' := [(15, .int (bI true)), (19, .int (nI (enR (foR none)))), (18, .int (-1)), (17, .int (nI m9)), (16, .int (nI n3)), (14, .int (nI (enR (foR fo9)))), (0, .ref o), (1, .ref (b 0)), (2, .ref (b 1)), (3, .ref (b 2)), (4, .ref (b 3)), (5, .ref (b 4)), (6, .ref (b 5)), (8, .int (nI k)), (9, .int (nI l9)), (10, .int (nI x)), (11, .int (nI u)), (12, .int (nI kd))]) hx hb dL_isTold_597 hl (by decide) rfl (fun ls hl => ?_)
                                          refine lv_iload hx hb dL_isTold_599 (lv_at hl 0 rfl) ?_
                                          refine m_if_eq_b (tgt := 659) hx hb dL_isTold_601 (by decide) (fun c_601 => ?_) (fun c_601 => ?_)
                                          · exact absurd c_601 (by first | decide | exact (show ¬ false = true by decide) | exact (show ¬ true = false by decide))
                                          · refine lv_aload_n hx hb dL_isTold_604 rfl (lv_at hl 6 rfl) ?_
                                            refine lv_iload hx hb dL_isTold_605 (lv_at hl 13 rfl) ?_
                                            refine lv_iload hx hb dL_isTold_607 (lv_at hl 14 rfl) ?_
                                            refine lv_iload hx hb dL_isTold_609 (lv_at hl 17 rfl) ?_
                                            refine lv_iload hx hb dL_isTold_611 (lv_at hl 16 rfl) ?_
                                            obtain ⟨f7, d7, ft7, li7, T7, hPc, hDc, hRc⟩ := id hc
                                            refine m_xVi (rest := []) ⟨hx, hb, hml, hown, hts⟩ hE hS hsub (kX2_nearDistance l hl0 K Ac _ o ad fb on fw dr fm vs ch ps hc (nI k) (nI l9) (nI kd) (nI u)) (cwV 4 hts gL_isTold_X2_nearDistance rfl rfl rfl (by decide +kernel) ⟨Nat.le_of_ble_eq_true rfl, Nat.le_of_ble_eq_true rfl⟩) (va_recv hE.k hPc (ci := 3) (q0 := 0) rfl rfl) rfl rfl hl.1 rfl (Nat.le_of_ble_eq_true rfl) dL_isTold_613 ⟨by show _ ≤ 130; omega, by show _ ≤ 1600; omega⟩ (fun E ce q9 H9 locs9 hx9 hs9 hS9 y1 y2 y3 => (hx9.2 ⟨okN_nI (by omega) (by decide), okN_nI (by omega) (by decide), okN_nI (by omega) (by decide), okN_nI (by omega) (by decide)⟩).elim) (fun r Hx3 locs hp hS hk => ?_)
                                            rw [tN_nI (show k < 2147483648 by omega), tN_nI (show l9 < 2147483648 by omega), tN_nI (show kd < 2147483648 by omega), tN_nI (show u < 2147483648 by omega), show 54 * k + 3 * kd + u = 54 * k + (3 * kd + u) by omega] at hp
                                            obtain ⟨-, hr9, hc⟩ := hp
                                            have hP := lW_kept hP (fun i hi => hk (b i) (lW_lt hP hi) (hno i hi))
                                            rw [near_0 hnF] at hr9
                                            subst hr9
                                            refine lv_iload hx hb dL_isTold_616 (lv_at hl 2 rfl) ?_
                                            refine lv_if_ge (tgt := 625) hx hb dL_isTold_618 (by decide) (fun c_618 => ?_) (fun c_618 => ?_)
                                            · exact absurd c_618 (by decide)
                                            · refine lv_iconst (v := (-1)) hx hb dL_isTold_621 (by decide) ?_
                                              refine lv_goto (tgt := 652) hx hb dL_isTold_622 (by decide) ?_
                                              refine lv_icmp_ne (tgt := 659) hx hb dL_isTold_652 (by decide) (fun c_652 => ?_) (fun c_652 => ?_)
                                              · exact absurd rfl c_652
                                              · refine lv_iconst (v := nI 1) hx hb dL_isTold_655 (by decide) ?_
                                                refine lv_goto (tgt := 660) hx hb dL_isTold_656 (by decide) ?_
                                                refine W.eq (g2 := F0 m 660 ls [.int (bI true)]) (by rfl) ?_
                                                refine lv_istore (lv' := [(15, .int (bI true)), (19, .int (nI (enR (foR none)))), (18, .int (-1)), (17, .int (nI m9)), (16, .int (nI n3)), (14, .int (nI (enR (foR fo9)))), (0, .ref o), (1, .ref (b 0)), (2, .ref (b 1)), (3, .ref (b 2)), (4, .ref (b 3)), (5, .ref (b 4)), (6, .ref (b 5)), (8, .int (nI k)), (9, .int (nI l9)), (10, .int (nI x)), (11, .int (nI u)), (12, .int (nI kd))]) hx hb dL_isTold_660 hl (by decide) rfl (fun ls hl => ?_)
                                                refine lv_iconst (v := nI 0) hx hb dL_isTold_662 (by decide) ?_
                                                refine lv_istore (lv' := [(20, .int (nI 0)), (15, .int (bI true)), (19, .int (nI (enR (foR none)))), (18, .int (-1)), (17, .int (nI m9)), (16, .int (nI n3)), (14, .int (nI (enR (foR fo9)))), (0, .ref o), (1, .ref (b 0)), (2, .ref (b 1)), (3, .ref (b 2)), (4, .ref (b 3)), (5, .ref (b 4)), (6, .ref (b 5)), (8, .int (nI k)), (9, .int (nI l9)), (10, .int (nI x)), (11, .int (nI u)), (12, .int (nI kd))]) hx hb dL_isTold_663 hl (by decide) rfl (fun ls hl => ?_)
                                                have hD := hD
                                                refine W.widen (k := 100 + 6 * 0) (n := 1400 + 36 * 0) (by omega) (by omega) ?_
                                                refine (?_ : ∀ (n9f : Nat) (v : Nat) (H : Heap) (locs : List Loc) (ls : Array Slot), v ≤ 5 → 5 < v + n9f → cOK K Ac H o ad fb on fw dr fm vs ch ps → va_P K.1 vwCl (lW K b g) H → va_D A (lW K b g) → va_S A s.heap H locs → lv_has ls 22 [(20, .int (nI v)), (15, .int (bI true)), (19, .int (nI (enR (foR none)))), (0, .ref o), (1, .ref (b 0)), (2, .ref (b 1)), (3, .ref (b 2)), (4, .ref (b 3)), (5, .ref (b 4)), (6, .ref (b 5)), (8, .int (nI k)), (9, .int (nI l9)), (10, .int (nI x)), (11, .int (nI u)), (12, .int (nI kd))] → W p l e _ s m args below meth c H locs (100 + 6 * v) (1400 + 36 * v) _ (F0 m 665 ls [])) (5 + 1) 0 _ _ ls (by omega) (by omega) hc hP hD hS (lv_sub hl [0, 1, 2, 7, 8, 9, 10, 11, 12, 13, 14, 15, 16, 17, 18] rfl)
                                                clear hS hl hP hD
                                                intro n9f
                                                induction n9f with
                                                | zero => intro v H locs ls hi9 hn9; exact absurd hn9 (by omega)
                                                | succ n9f ihf =>
                                                  intro v H locs ls hi9f hn9f hc hP hD hS hl
                                                  refine lv_iload hx hb dL_isTold_665 (lv_at hl 0 rfl) ?_
                                                  refine lv_iconst (v := nI 5) hx hb dL_isTold_667 (by decide) ?_
                                                  refine m_icmp_ge (tgt := 727) hx hb (by omega) (by omega) dL_isTold_668 (by decide) (fun c_668 => ?_) (fun c_668 => ?_)
                                                  · refine lv_iload hx hb dL_isTold_727 (lv_at hl 1 rfl) ?_
                                                    refine W.widen (k := 130) (n := 1600) (by omega) (by omega) ?_
                                                    exact m_zret hx hb hr hlk hS (Nat.le_of_ble_eq_true rfl) (Nat.le_of_ble_eq_true rfl) dL_isTold_729 (⟨rfl, g, _, _, _, _, _, _, _, _, hP, hD, hc, hR⟩)
                                                  · refine lv_iload hx hb dL_isTold_671 (lv_at hl 1 rfl) ?_
                                                    refine m_if_eq_b (tgt := 727) hx hb dL_isTold_673 (by decide) (fun c_673 => ?_) (fun c_673 => ?_)
                                                    · exact absurd c_673 (by first | decide | exact (show ¬ false = true by decide) | exact (show ¬ true = false by decide))
                                                    · refine lv_aload_n hx hb dL_isTold_676 rfl (lv_at hl 3 rfl) ?_
                                                      refine lv_iload hx hb dL_isTold_677 (lv_at hl 10 rfl) ?_
                                                      refine lv_iload hx hb dL_isTold_679 (lv_at hl 11 rfl) ?_
                                                      refine lv_iload hx hb dL_isTold_681 (lv_at hl 14 rfl) ?_
                                                      refine lv_iload hx hb dL_isTold_683 (lv_at hl 13 rfl) ?_
                                                      refine lv_iload hx hb dL_isTold_685 (lv_at hl 0 rfl) ?_
                                                      obtain ⟨f7, d7, ft7, li7, T7, hPc, hDc, hRc⟩ := id hc
                                                      refine m_xVi (rest := []) ⟨hx, hb, hml, hown, hts⟩ hE hS hsub (kX2_nearSign l hl0 K Ac _ o ad fb on fw dr fm vs ch ps hc (nI k) (nI l9) (nI kd) (nI u) (nI v)) (cwV 5 hts gL_isTold_X2_nearSign rfl rfl rfl (by decide +kernel) ⟨Nat.le_of_ble_eq_true rfl, Nat.le_of_ble_eq_true rfl⟩) (va_recv hE.k hPc (ci := 3) (q0 := 0) rfl rfl) rfl rfl hl.1 rfl (Nat.le_of_ble_eq_true rfl) dL_isTold_687 ⟨by show _ ≤ 130; omega, by show _ ≤ 1600; omega⟩ (fun E ce q9 H9 locs9 hx9 hs9 hS9 y1 y2 y3 => (hx9.2 ⟨⟨okN_nI (by omega) (by decide), okN_nI (by omega) (by decide), okN_nI (by omega) (by decide), okN_nI (by omega) (by decide)⟩, okN_max (by omega)⟩).elim) (fun r Hx5 locs hp hS hk => ?_)
                                                      rw [tN_nI (show k < 2147483648 by omega), tN_nI (show l9 < 2147483648 by omega), tN_nI (show kd < 2147483648 by omega), tN_nI (show u < 2147483648 by omega), tN_nI (show v < 2147483648 by omega), show 54 * k + 3 * kd + u = 54 * k + (3 * kd + u) by omega] at hp
                                                      obtain ⟨-, -, hr9, hc⟩ := hp
                                                      rw [hns v] at hr9
                                                      have hP := lW_kept hP (fun i hi => hk (b i) (lW_lt hP hi) (hno i hi))
                                                      refine lv_iload hx hb dL_isTold_690 (lv_at hl 0 rfl) ?_
                                                      refine lv_iload hx hb dL_isTold_692 (lv_at hl 2 rfl) ?_
                                                      refine m_cSi (rest := [.int (nI v), .int r]) ⟨hx, hb, hml, hown, hts⟩ hE hS (fun _ h => h) (kL_size l K A _ (foR none) hg8) (va_cwS 1 hts gL_isTold_L_size rfl rfl rfl (by decide +kernel) ⟨Nat.le_of_ble_eq_true rfl, Nat.le_of_ble_eq_true rfl⟩) rfl rfl hl.1 rfl (Nat.le_of_ble_eq_true rfl) dL_isTold_694 ⟨by show _ ≤ 130; omega, by show _ ≤ 1600; omega⟩ (fun r H1 locs hp hS hk => ?_)
                                                      obtain ⟨rfl, rfl⟩ := hp
                                                      refine m_icmp_ge (tgt := 710) hx hb (by omega) (by omega) dL_isTold_697 (by decide) (fun c_697 => ?_) (fun c_697 => ?_)
                                                      · rw [if_neg (by omega)] at hr9
                                                        subst hr9
                                                        refine lv_iconst (v := nI 0) hx hb dL_isTold_710 (by decide) ?_
                                                        refine m_icmp_ne (tgt := 718) hx hb (by omega) (by omega) dL_isTold_711 (by decide) (fun c_711 => ?_) (fun c_711 => ?_)
                                                        · exact absurd rfl c_711
                                                        · refine lv_iconst (v := nI 1) hx hb dL_isTold_714 (by decide) ?_
                                                          refine lv_goto (tgt := 719) hx hb dL_isTold_715 (by decide) ?_
                                                          refine W.eq (g2 := F0 m 719 ls [.int (bI true)]) (by rfl) ?_
                                                          refine lv_istore (lv' := [(15, .int (bI true)), (20, .int (nI v)), (19, .int (nI (enR (foR none)))), (0, .ref o), (1, .ref (b 0)), (2, .ref (b 1)), (3, .ref (b 2)), (4, .ref (b 3)), (5, .ref (b 4)), (6, .ref (b 5)), (8, .int (nI k)), (9, .int (nI l9)), (10, .int (nI x)), (11, .int (nI u)), (12, .int (nI kd))]) hx hb dL_isTold_719 hl (by decide) rfl (fun ls hl => ?_)
                                                          refine lv_iinc (v := nI (v + 1)) (lv' := [(20, .int (nI (v + 1))), (15, .int (bI true)), (19, .int (nI (enR (foR none)))), (0, .ref o), (1, .ref (b 0)), (2, .ref (b 1)), (3, .ref (b 2)), (4, .ref (b 3)), (5, .ref (b 4)), (6, .ref (b 5)), (8, .int (nI k)), (9, .int (nI l9)), (10, .int (nI x)), (11, .int (nI u)), (12, .int (nI kd))]) hx hb dL_isTold_721 hl (k := 1) rfl (m_inc _) (by decide) rfl (fun ls hl => ?_)
                                                          refine lv_goto (tgt := 665) hx hb dL_isTold_724 (by decide) ?_
                                                          refine W.widen (k := 100 + 6 * (v + 1)) (n := 1400 + 36 * (v + 1)) (by omega) (by omega) ?_
                                                          exact ihf (v + 1) _ _ ls (by omega) (by omega) hc hP hD hS (lv_sub hl [0, 1, 2, 3, 4, 5, 6, 7, 8, 9, 10, 11, 12, 13, 14] rfl)
                                                      · rw [if_pos (by omega)] at hr9
                                                        subst hr9
                                                        refine lv_iload hx hb dL_isTold_700 (lv_at hl 2 rfl) ?_
                                                        refine lv_iload hx hb dL_isTold_702 (lv_at hl 0 rfl) ?_
                                                        have hsb := hg8.s (p := v) (by omega)
                                                        refine m_cSi (rest := [.int (nI (sgR (foR none) v))]) ⟨hx, hb, hml, hown, hts⟩ hE hS (fun _ h => h) (kL_signAt l K A _ (foR none) hg8 v (by omega)) (va_cwS 2 hts gL_isTold_L_signAt rfl rfl rfl (by decide +kernel) ⟨Nat.le_of_ble_eq_true rfl, Nat.le_of_ble_eq_true rfl⟩) rfl rfl hl.1 rfl (Nat.le_of_ble_eq_true rfl) dL_isTold_704 ⟨by show _ ≤ 130; omega, by show _ ≤ 1600; omega⟩ (fun r H1 locs hp hS hk => ?_)
                                                        obtain ⟨rfl, rfl⟩ := hp
                                                        refine lv_goto (tgt := 711) hx hb dL_isTold_707 (by decide) ?_
                                                        refine m_icmp_ne (tgt := 718) hx hb (by omega) (by omega) dL_isTold_711 (by decide) (fun c_711 => ?_) (fun c_711 => ?_)
                                                        · exact absurd rfl c_711
                                                        · refine lv_iconst (v := nI 1) hx hb dL_isTold_714 (by decide) ?_
                                                          refine lv_goto (tgt := 719) hx hb dL_isTold_715 (by decide) ?_
                                                          refine W.eq (g2 := F0 m 719 ls [.int (bI true)]) (by rfl) ?_
                                                          refine lv_istore (lv' := [(15, .int (bI true)), (20, .int (nI v)), (19, .int (nI (enR (foR none)))), (0, .ref o), (1, .ref (b 0)), (2, .ref (b 1)), (3, .ref (b 2)), (4, .ref (b 3)), (5, .ref (b 4)), (6, .ref (b 5)), (8, .int (nI k)), (9, .int (nI l9)), (10, .int (nI x)), (11, .int (nI u)), (12, .int (nI kd))]) hx hb dL_isTold_719 hl (by decide) rfl (fun ls hl => ?_)
                                                          refine lv_iinc (v := nI (v + 1)) (lv' := [(20, .int (nI (v + 1))), (15, .int (bI true)), (19, .int (nI (enR (foR none)))), (0, .ref o), (1, .ref (b 0)), (2, .ref (b 1)), (3, .ref (b 2)), (4, .ref (b 3)), (5, .ref (b 4)), (6, .ref (b 5)), (8, .int (nI k)), (9, .int (nI l9)), (10, .int (nI x)), (11, .int (nI u)), (12, .int (nI kd))]) hx hb dL_isTold_721 hl (k := 1) rfl (m_inc _) (by decide) rfl (fun ls hl => ?_)
                                                          refine lv_goto (tgt := 665) hx hb dL_isTold_724 (by decide) ?_
                                                          refine W.widen (k := 100 + 6 * (v + 1)) (n := 1400 + 36 * (v + 1)) (by omega) (by omega) ?_
                                                          exact ihf (v + 1) _ _ ls (by omega) (by omega) hc hP hD hS (lv_sub hl [0, 1, 2, 3, 4, 5, 6, 7, 8, 9, 10, 11, 12, 13, 14] rfl)
                  | some i8 =>
                    refine W.eq (g2 := F0 m 419 ls [.int (nI i8)]) (by rfl) ?_
                    have hil := hnl i8 rfl
                    have hPi := List.getElem?_eq_getElem hil
                    generalize ps[i8] = P at hPi
                    have hnF : nearF (fm (54 * k + (3 * kd + u))) ps l9 = some P := hnF.trans hPi
                    obtain ⟨F, hF9, hnF9⟩ := near_F hnF
                    have hPk := hps.at hPi
                    have hgF := hfm.1 _ F hF9
                    have hFb := hgF.1.g.lt0
                    have hdP := hPk.2.1.1
                    have hPb := hdP.g.lt0
                    have hdG := hPk.2.2.1
                    have hGb := hdG.g.lt0
                    have hns := ns_some hnF hdG
                    have hg8 : gR (foR (some P.2.2)) := hdG.g
                    have hil2 := hps.1
                    have hb8 : enR (foR (some P.2.2)) < 268435456 := hg8.lt0
                    have h84 := hg8.2
                    refine lv_istore (lv' := [(18, .int (nI i8)), (17, .int (nI m9)), (16, .int (nI n3)), (15, .int (bI true)), (14, .int (nI (enR (foR fo9)))), (0, .ref o), (1, .ref (b 0)), (2, .ref (b 1)), (3, .ref (b 2)), (4, .ref (b 3)), (5, .ref (b 4)), (6, .ref (b 5)), (8, .int (nI k)), (9, .int (nI l9)), (10, .int (nI x)), (11, .int (nI u)), (12, .int (nI kd))]) hx hb dL_isTold_419 hl (by decide) rfl (fun ls hl => ?_)
                    refine lv_iload hx hb dL_isTold_421 (lv_at hl 0 rfl) ?_
                    refine m_if_ge (tgt := 430) hx hb (by omega) dL_isTold_423 (by decide) ?_
                    refine lv_aload hx hb dL_isTold_430 (lv_at hl 9 rfl) ?_
                    refine lv_iconst (v := nI 3) hx hb dL_isTold_432 (by decide) ?_
                    refine lv_iload hx hb dL_isTold_433 (lv_at hl 0 rfl) ?_
                    refine m_imul hx hb dL_isTold_435 ?_
                    refine lv_iconst (v := nI 2) hx hb dL_isTold_436 (by decide) ?_
                    refine m_iadd hx hb dL_isTold_437 ?_
                    refine m_iald hx hb hE.k hP 3 rfl (by omega) (by omega) ((hq _ P hPi).2.2) dL_isTold_438 ?_
                    refine lv_istore (lv' := [(19, .int (nI (enR (drR P.2.2.1)))), (18, .int (nI i8)), (17, .int (nI m9)), (16, .int (nI n3)), (15, .int (bI true)), (14, .int (nI (enR (foR fo9)))), (0, .ref o), (1, .ref (b 0)), (2, .ref (b 1)), (3, .ref (b 2)), (4, .ref (b 3)), (5, .ref (b 4)), (6, .ref (b 5)), (8, .int (nI k)), (9, .int (nI l9)), (10, .int (nI x)), (11, .int (nI u)), (12, .int (nI kd))]) hx hb dL_isTold_439 hl (by decide) rfl (fun ls hl => ?_)
                    have hl : lv_has ls 22 [(19, .int (nI (enR (foR (some P.2.2))))), (18, .int (nI i8)), (17, .int (nI m9)), (16, .int (nI n3)), (15, .int (bI true)), (14, .int (nI (enR (foR fo9)))), (0, .ref o), (1, .ref (b 0)), (2, .ref (b 1)), (3, .ref (b 2)), (4, .ref (b 3)), (5, .ref (b 4)), (6, .ref (b 5)), (8, .int (nI k)), (9, .int (nI l9)), (10, .int (nI x)), (11, .int (nI u)), (12, .int (nI kd))] := hl
                    refine lv_iload hx hb dL_isTold_441 (lv_at hl 4 rfl) ?_
                    refine m_if_eq_b (tgt := 596) hx hb dL_isTold_443 (by decide) (fun c_443 => ?_) (fun c_443 => ?_)
                    · exact absurd c_443 (by first | decide | exact (show ¬ false = true by decide) | exact (show ¬ true = false by decide))
                    · refine lv_aload_n hx hb dL_isTold_446 rfl (lv_at hl 6 rfl) ?_
                      refine lv_iload hx hb dL_isTold_447 (lv_at hl 13 rfl) ?_
                      refine lv_iload hx hb dL_isTold_449 (lv_at hl 14 rfl) ?_
                      obtain ⟨f7, d7, ft7, li7, T7, hPc, hDc, hRc⟩ := id hc
                      refine m_xVi (rest := []) ⟨hx, hb, hml, hown, hts⟩ hE hS hsub (kX2_forms l hl0 K Ac _ o ad fb on fw dr fm vs ch ps hc (nI k) (nI l9)) (cwV 2 hts gL_isTold_X2_forms rfl rfl rfl (by decide +kernel) ⟨Nat.le_of_ble_eq_true rfl, Nat.le_of_ble_eq_true rfl⟩) (va_recv hE.k hPc (ci := 3) (q0 := 0) rfl rfl) rfl rfl hl.1 rfl (Nat.le_of_ble_eq_true rfl) dL_isTold_451 ⟨by show _ ≤ 130; omega, by show _ ≤ 1600; omega⟩ (fun E ce q9 H9 locs9 hx9 hs9 hS9 y1 y2 y3 => (hx9.2 ⟨okN_nI (by omega) (by decide), okN_nI (by omega) (by decide)⟩).elim) (fun r H1 locs hp hS hk => ?_)
                      rw [tN_nI (show k < 2147483648 by omega), tN_nI (show l9 < 2147483648 by omega)] at hp
                      obtain ⟨-, hr9, rfl⟩ := hp
                      rw [← hn3] at hr9
                      subst hr9
                      refine lv_iload hx hb dL_isTold_454 (lv_at hl 3 rfl) ?_
                      refine m_icmp_ne (tgt := 596) hx hb (by omega) (by omega) dL_isTold_456 (by decide) (fun c_456 => ?_) (fun c_456 => ?_)
                      · exact absurd rfl c_456
                      · refine lv_aload_n hx hb dL_isTold_459 rfl (lv_at hl 6 rfl) ?_
                        refine lv_iload hx hb dL_isTold_460 (lv_at hl 13 rfl) ?_
                        refine lv_iload hx hb dL_isTold_462 (lv_at hl 14 rfl) ?_
                        obtain ⟨f7, d7, ft7, li7, T7, hPc, hDc, hRc⟩ := id hc
                        refine m_xVi (rest := []) ⟨hx, hb, hml, hown, hts⟩ hE hS hsub (kX2_staleBy l hl0 K Ac _ o ad fb on fw dr fm vs ch ps hc (nI k) (nI l9)) (cwV 2 hts gL_isTold_X2_staleBy rfl rfl rfl (by decide +kernel) ⟨Nat.le_of_ble_eq_true rfl, Nat.le_of_ble_eq_true rfl⟩) (va_recv hE.k hPc (ci := 3) (q0 := 0) rfl rfl) rfl rfl hl.1 rfl (Nat.le_of_ble_eq_true rfl) dL_isTold_464 ⟨by show _ ≤ 130; omega, by show _ ≤ 1600; omega⟩ (fun E ce q9 H9 locs9 hx9 hs9 hS9 y1 y2 y3 => (hx9.2 ⟨okN_nI (by omega) (by decide), okN_nI (by omega) (by decide)⟩).elim) (fun r H1 locs hp hS hk => ?_)
                        rw [tN_nI (show k < 2147483648 by omega), tN_nI (show l9 < 2147483648 by omega)] at hp
                        obtain ⟨-, hr9, rfl⟩ := hp
                        refine lv_iload hx hb dL_isTold_467 (lv_at hl 3 rfl) ?_
                        refine m_if_ne (tgt := 476) hx hb (by omega) dL_isTold_469 (by decide) (fun c_469 => ?_) (fun c_469 => ?_)
                        · rw [stale_n (by rw [← hn3]; exact c_469)] at hr9
                          subst hr9
                          refine lv_aload_n hx hb dL_isTold_476 rfl (lv_at hl 9 rfl) ?_
                          refine lv_iload hx hb dL_isTold_477 (lv_at hl 13 rfl) ?_
                          refine m_iald hx hb hE.k hP 2 rfl (by omega) (by omega) ((ha k hk9).1) dL_isTold_479 ?_
                          refine lv_aload_n hx hb dL_isTold_480 rfl (lv_at hl 9 rfl) ?_
                          refine lv_iconst (v := nI 2) hx hb dL_isTold_481 (by decide) ?_
                          refine lv_iconst (v := nI 3) hx hb dL_isTold_482 (by decide) ?_
                          refine lv_iload hx hb dL_isTold_483 (lv_at hl 13 rfl) ?_
                          refine m_imul hx hb dL_isTold_485 ?_
                          refine m_iadd hx hb dL_isTold_486 ?_
                          refine lv_iload hx hb dL_isTold_487 (lv_at hl 14 rfl) ?_
                          refine m_iadd hx hb dL_isTold_489 ?_
                          refine m_iald hx hb hE.k hP 2 rfl (by omega) (by omega) ((ha k hk9).2 l9 hl9) dL_isTold_490 ?_
                          refine lv_isub hx hb dL_isTold_491 ?_
                          refine lv_icmp_ne (tgt := 596) hx hb dL_isTold_492 (by decide) (fun c_492 => ?_) (fun c_492 => ?_)
                          · exact absurd rfl c_492
                          · refine lv_aload_n hx hb dL_isTold_495 rfl (lv_at hl 6 rfl) ?_
                            refine lv_iload hx hb dL_isTold_496 (lv_at hl 13 rfl) ?_
                            obtain ⟨f7, d7, ft7, li7, T7, hPc, hDc, hRc⟩ := id hc
                            refine m_xVi (rest := []) ⟨hx, hb, hml, hown, hts⟩ hE hS hsub (kX2_version l hl0 K Ac _ o ad fb on fw dr fm vs ch ps hc (nI k)) (cwV 1 hts gL_isTold_X2_version rfl rfl rfl (by decide +kernel) ⟨Nat.le_of_ble_eq_true rfl, Nat.le_of_ble_eq_true rfl⟩) (va_recv hE.k hPc (ci := 3) (q0 := 0) rfl rfl) rfl rfl hl.1 rfl (Nat.le_of_ble_eq_true rfl) dL_isTold_498 ⟨by show _ ≤ 130; omega, by show _ ≤ 1600; omega⟩ (fun E ce q9 H9 locs9 hx9 hs9 hS9 y1 y2 y3 => (hx9.2 (okN_nI (by omega) (by decide))).elim) (fun r H1 locs hp hS hk => ?_)
                            rw [tN_nI (show k < 2147483648 by omega)] at hp
                            obtain ⟨-, rfl, rfl⟩ := hp
                            refine lv_aload_n hx hb dL_isTold_501 rfl (lv_at hl 9 rfl) ?_
                            refine lv_iload hx hb dL_isTold_502 (lv_at hl 13 rfl) ?_
                            refine m_iald hx hb hE.k hP 2 rfl (by omega) (by omega) ((ha k hk9).1) dL_isTold_504 ?_
                            refine lv_icmp_ne (tgt := 596) hx hb dL_isTold_505 (by decide) (fun c_505 => ?_) (fun c_505 => ?_)
                            · exact absurd rfl c_505
                            · refine lv_aload_n hx hb dL_isTold_508 rfl (lv_at hl 6 rfl) ?_
                              refine lv_iload hx hb dL_isTold_509 (lv_at hl 14 rfl) ?_
                              obtain ⟨f7, d7, ft7, li7, T7, hPc, hDc, hRc⟩ := id hc
                              refine m_xVi (rest := []) ⟨hx, hb, hml, hown, hts⟩ hE hS hsub (kX2_missing l hl0 K Ac _ o ad fb on fw dr fm vs ch ps hc (nI l9)) (cwV 1 hts gL_isTold_X2_missing rfl rfl rfl (by decide +kernel) ⟨Nat.le_of_ble_eq_true rfl, Nat.le_of_ble_eq_true rfl⟩) (va_recv hE.k hPc (ci := 3) (q0 := 0) rfl rfl) rfl rfl hl.1 rfl (Nat.le_of_ble_eq_true rfl) dL_isTold_511 ⟨by show _ ≤ 130; omega, by show _ ≤ 1600; omega⟩ (fun E ce q9 H9 locs9 hx9 hs9 hS9 y1 y2 y3 => (hx9.2 (okN_nI (by omega) (by decide))).elim) (fun r H1 locs hp hS hk => ?_)
                              rw [tN_nI (show l9 < 2147483648 by omega)] at hp
                              obtain ⟨-, hr9, rfl⟩ := hp
                              rw [miss_2 hfm, ← hm2] at hr9
                              subst hr9
                              refine lv_iload hx hb dL_isTold_514 (lv_at hl 2 rfl) ?_
                              refine m_icmp_ne (tgt := 596) hx hb (by omega) (by omega) dL_isTold_516 (by decide) (fun c_516 => ?_) (fun c_516 => ?_)
                              · exact absurd rfl c_516
                              · refine lv_aload_n hx hb dL_isTold_519 rfl (lv_at hl 6 rfl) ?_
                                refine lv_iload hx hb dL_isTold_520 (lv_at hl 14 rfl) ?_
                                refine lv_iload hx hb dL_isTold_522 (lv_at hl 15 rfl) ?_
                                obtain ⟨f7, d7, ft7, li7, T7, hPc, hDc, hRc⟩ := id hc
                                refine m_xVi (rest := []) ⟨hx, hb, hml, hown, hts⟩ hE hS hsub (kX2_kindOf l hl0 K Ac _ o ad fb on fw dr fm vs ch ps hc (nI l9) (nI x)) (cwV 2 hts gL_isTold_X2_kindOf rfl rfl rfl (by decide +kernel) ⟨Nat.le_of_ble_eq_true rfl, Nat.le_of_ble_eq_true rfl⟩) (va_recv hE.k hPc (ci := 3) (q0 := 0) rfl rfl) rfl rfl hl.1 rfl (Nat.le_of_ble_eq_true rfl) dL_isTold_524 ⟨by show _ ≤ 130; omega, by show _ ≤ 1600; omega⟩ (fun E ce q9 H9 locs9 hx9 hs9 hS9 y1 y2 y3 => (hx9.elim (fun h => h.2 (okN_nI (by omega) (by decide))) (fun h => h.2.2 (okN_max (by omega)))).elim) (fun r H1 locs hp hS hk => ?_)
                                rw [tN_nI (show l9 < 2147483648 by omega)] at hp
                                obtain ⟨-, -, rfl, rfl⟩ := hp
                                have hkf := kindF_lt on fw l9 (nI x)
                                refine lv_aload hx hb dL_isTold_527 (lv_at hl 11 rfl) ?_
                                refine lv_iload hx hb dL_isTold_529 (lv_at hl 14 rfl) ?_
                                refine lv_iload hx hb dL_isTold_531 (lv_at hl 15 rfl) ?_
                                refine m_cSi (rest := [.int (nI (kindF on fw l9 (nI x)))]) ⟨hx, hb, hml, hown, hts⟩ hE hS (fun _ h => h) (kL_kind l K A _ (b 4) (g 4) (hP.sub [4] rfl) fb on fw hn l9 hl9 (nI x)) (va_cwS 3 hts gL_isTold_L_kind rfl rfl rfl (by decide +kernel) ⟨Nat.le_of_ble_eq_true rfl, Nat.le_of_ble_eq_true rfl⟩) rfl rfl hl.1 rfl (Nat.le_of_ble_eq_true rfl) dL_isTold_533 ⟨by show _ ≤ 130; omega, by show _ ≤ 1600; omega⟩ (fun r H1 locs hp hS hk => ?_)
                                obtain ⟨rfl, rfl⟩ := hp
                                refine m_icmp_ne (tgt := 596) hx hb (by omega) (by omega) dL_isTold_536 (by decide) (fun c_536 => ?_) (fun c_536 => ?_)
                                · exact absurd rfl c_536
                                · refine lv_aload_n hx hb dL_isTold_539 rfl (lv_at hl 6 rfl) ?_
                                  refine lv_iload hx hb dL_isTold_540 (lv_at hl 13 rfl) ?_
                                  refine lv_iload hx hb dL_isTold_542 (lv_at hl 14 rfl) ?_
                                  refine lv_iload hx hb dL_isTold_544 (lv_at hl 17 rfl) ?_
                                  refine lv_iload hx hb dL_isTold_546 (lv_at hl 16 rfl) ?_
                                  obtain ⟨f7, d7, ft7, li7, T7, hPc, hDc, hRc⟩ := id hc
                                  refine m_xVi (rest := []) ⟨hx, hb, hml, hown, hts⟩ hE hS hsub (kX2_fits l hl0 K Ac _ o ad fb on fw dr fm vs ch ps hc (nI k) (nI l9) (nI kd) (nI u)) (cwV 4 hts gL_isTold_X2_fits rfl rfl rfl (by decide +kernel) ⟨Nat.le_of_ble_eq_true rfl, Nat.le_of_ble_eq_true rfl⟩) (va_recv hE.k hPc (ci := 3) (q0 := 0) rfl rfl) rfl rfl hl.1 rfl (Nat.le_of_ble_eq_true rfl) dL_isTold_548 ⟨by show _ ≤ 130; omega, by show _ ≤ 1600; omega⟩ (fun E ce q9 H9 locs9 hx9 hs9 hS9 y1 y2 y3 => (hx9.2 ⟨okN_nI (by omega) (by decide), okN_nI (by omega) (by decide), okN_nI (by omega) (by decide), okN_nI (by omega) (by decide)⟩).elim) (fun r H1 locs hp hS hk => ?_)
                                  rw [tN_nI (show k < 2147483648 by omega), tN_nI (show l9 < 2147483648 by omega), tN_nI (show kd < 2147483648 by omega), tN_nI (show u < 2147483648 by omega), show 54 * k + 9 * l9 + 3 * kd + u = 54 * k + 9 * l9 + (3 * kd + u) by omega] at hp
                                  obtain ⟨-, rfl, rfl⟩ := hp
                                  refine lv_aload_n hx hb dL_isTold_551 rfl (lv_at hl 7 rfl) ?_
                                  refine lv_aload_n hx hb dL_isTold_552 rfl (lv_at hl 8 rfl) ?_
                                  refine lv_iload hx hb dL_isTold_553 (lv_at hl 13 rfl) ?_
                                  refine lv_iload hx hb dL_isTold_555 (lv_at hl 14 rfl) ?_
                                  refine lv_iconst (v := nI 3) hx hb dL_isTold_557 (by decide) ?_
                                  refine lv_iload hx hb dL_isTold_558 (lv_at hl 17 rfl) ?_
                                  refine m_imul hx hb dL_isTold_560 ?_
                                  refine lv_iload hx hb dL_isTold_561 (lv_at hl 16 rfl) ?_
                                  refine m_iadd hx hb dL_isTold_563 ?_
                                  refine m_cSi (rest := [.int (bI (fitF fm k (fm (54 * k + 9 * l9 + (3 * kd + u)))))]) ⟨hx, hb, hml, hown, hts⟩ hE hS (fun _ h => h) (kL_fits l K A _ (b 0) (b 1) (g 0) (g 1) (hP.sub [0, 1] rfl) fm hfm hf hx1 k l9 (3 * kd + u) hk9 hl9 (by omega)) (va_cwS 5 hts gL_isTold_L_fits rfl rfl rfl (by decide +kernel) ⟨Nat.le_of_ble_eq_true rfl, Nat.le_of_ble_eq_true rfl⟩) rfl rfl hl.1 rfl (Nat.le_of_ble_eq_true rfl) dL_isTold_564 ⟨by show _ ≤ 130; omega, by show _ ≤ 1600; omega⟩ (fun r H1 locs hp hS hk => ?_)
                                  obtain ⟨rfl, rfl⟩ := hp
                                  refine lv_icmp_ne (tgt := 596) hx hb dL_isTold_567 (by decide) (fun c_567 => ?_) (fun c_567 => ?_)
                                  · exact absurd rfl c_567
                                  · refine lv_aload_n hx hb dL_isTold_570 rfl (lv_at hl 6 rfl) ?_
                                    obtain ⟨f7, d7, ft7, li7, T7, hPc, hDc, hRc⟩ := id hc
                                    refine m_cVi (rest := []) ⟨hx, hb, hml, hown, hts⟩ hE hS hsub (kX2_pairs l K Ac _ o ad fb on fw dr fm vs ch ps hc) (cwV 0 hts gL_isTold_X2_pairs rfl rfl rfl (by decide +kernel) ⟨Nat.le_of_ble_eq_true rfl, Nat.le_of_ble_eq_true rfl⟩) (va_recv hE.k hPc (ci := 3) (q0 := 0) rfl rfl) rfl rfl hl.1 rfl (Nat.le_of_ble_eq_true rfl) dL_isTold_571 ⟨by show _ ≤ 130; omega, by show _ ≤ 1600; omega⟩ (fun r H1 locs hp hS hk => ?_)
                                    obtain ⟨rfl, rfl⟩ := hp
                                    refine lv_aload hx hb dL_isTold_574 (lv_at hl 12 rfl) ?_
                                    refine lv_iconst (v := nI 0) hx hb dL_isTold_576 (by decide) ?_
                                    refine m_iald hx hb hE.k hP 5 rfl (by omega) (by omega) hm.1 dL_isTold_577 ?_
                                    refine m_icmp_ne (tgt := 596) hx hb (by omega) (by omega) dL_isTold_578 (by decide) (fun c_578 => ?_) (fun c_578 => ?_)
                                    · exact absurd rfl c_578
                                    · refine lv_aload_n hx hb dL_isTold_581 rfl (lv_at hl 6 rfl) ?_
                                      obtain ⟨f7, d7, ft7, li7, T7, hPc, hDc, hRc⟩ := id hc
                                      refine m_cVi (rest := []) ⟨hx, hb, hml, hown, hts⟩ hE hS hsub (kX2_draft l K Ac _ o ad fb on fw dr fm vs ch ps hc) (cwV 0 hts gL_isTold_X2_draft rfl rfl rfl (by decide +kernel) ⟨Nat.le_of_ble_eq_true rfl, Nat.le_of_ble_eq_true rfl⟩) (va_recv hE.k hPc (ci := 3) (q0 := 0) rfl rfl) rfl rfl hl.1 rfl (Nat.le_of_ble_eq_true rfl) dL_isTold_582 ⟨by show _ ≤ 130; omega, by show _ ≤ 1600; omega⟩ (fun r H1 locs hp hS hk => ?_)
                                      obtain ⟨rfl, rfl⟩ := hp
                                      refine lv_aload hx hb dL_isTold_585 (lv_at hl 12 rfl) ?_
                                      refine lv_iconst (v := nI 1) hx hb dL_isTold_587 (by decide) ?_
                                      refine m_iald hx hb hE.k hP 5 rfl (by omega) (by omega) hm.2.1 dL_isTold_588 ?_
                                      refine m_icmp_ne (tgt := 596) hx hb (by omega) (by omega) dL_isTold_589 (by decide) (fun c_589 => ?_) (fun c_589 => ?_)
                                      · exact absurd rfl c_589
                                      · refine lv_iconst (v := nI 1) hx hb dL_isTold_592 (by decide) ?_
                                        refine lv_goto (tgt := 597) hx hb dL_isTold_593 (by decide) ?_
                                        refine W.eq (g2 := F0 m 597 ls [.int (bI true)]) (by rfl) ?_
                                        refine lv_istore (lv' := [(15, .int (bI true)), (19, .int (nI (enR (foR (some P.2.2))))), (18, .int (nI i8)), (17, .int (nI m9)), (16, .int (nI n3)), (14, .int (nI (enR (foR fo9)))), (0, .ref o), (1, .ref (b 0)), (2, .ref (b 1)), (3, .ref (b 2)), (4, .ref (b 3)), (5, .ref (b 4)), (6, .ref (b 5)), (8, .int (nI k)), (9, .int (nI l9)), (10, .int (nI x)), (11, .int (nI u)), (12, .int (nI kd))]) hx hb dL_isTold_597 hl (by decide) rfl (fun ls hl => ?_)
                                        refine lv_iload hx hb dL_isTold_599 (lv_at hl 0 rfl) ?_
                                        refine m_if_eq_b (tgt := 659) hx hb dL_isTold_601 (by decide) (fun c_601 => ?_) (fun c_601 => ?_)
                                        · exact absurd c_601 (by first | decide | exact (show ¬ false = true by decide) | exact (show ¬ true = false by decide))
                                        · refine lv_aload_n hx hb dL_isTold_604 rfl (lv_at hl 6 rfl) ?_
                                          refine lv_iload hx hb dL_isTold_605 (lv_at hl 13 rfl) ?_
                                          refine lv_iload hx hb dL_isTold_607 (lv_at hl 14 rfl) ?_
                                          refine lv_iload hx hb dL_isTold_609 (lv_at hl 17 rfl) ?_
                                          refine lv_iload hx hb dL_isTold_611 (lv_at hl 16 rfl) ?_
                                          obtain ⟨f7, d7, ft7, li7, T7, hPc, hDc, hRc⟩ := id hc
                                          refine m_xVi (rest := []) ⟨hx, hb, hml, hown, hts⟩ hE hS hsub (kX2_nearDistance l hl0 K Ac _ o ad fb on fw dr fm vs ch ps hc (nI k) (nI l9) (nI kd) (nI u)) (cwV 4 hts gL_isTold_X2_nearDistance rfl rfl rfl (by decide +kernel) ⟨Nat.le_of_ble_eq_true rfl, Nat.le_of_ble_eq_true rfl⟩) (va_recv hE.k hPc (ci := 3) (q0 := 0) rfl rfl) rfl rfl hl.1 rfl (Nat.le_of_ble_eq_true rfl) dL_isTold_613 ⟨by show _ ≤ 130; omega, by show _ ≤ 1600; omega⟩ (fun E ce q9 H9 locs9 hx9 hs9 hS9 y1 y2 y3 => (hx9.2 ⟨okN_nI (by omega) (by decide), okN_nI (by omega) (by decide), okN_nI (by omega) (by decide), okN_nI (by omega) (by decide)⟩).elim) (fun r Hx3 locs hp hS hk => ?_)
                                          rw [tN_nI (show k < 2147483648 by omega), tN_nI (show l9 < 2147483648 by omega), tN_nI (show kd < 2147483648 by omega), tN_nI (show u < 2147483648 by omega), show 54 * k + 3 * kd + u = 54 * k + (3 * kd + u) by omega] at hp
                                          obtain ⟨-, hr9, hc⟩ := hp
                                          have hP := lW_kept hP (fun i hi => hk (b i) (lW_lt hP hi) (hno i hi))
                                          rw [nearD_s hF9 hnF9] at hr9
                                          subst hr9
                                          have hd8 := dst_le8 hdP hgF.1
                                          refine lv_iload hx hb dL_isTold_616 (lv_at hl 2 rfl) ?_
                                          refine m_if_ge (tgt := 625) hx hb (by omega) dL_isTold_618 (by decide) ?_
                                          refine lv_aload hx hb dL_isTold_625 (lv_at hl 10 rfl) ?_
                                          refine lv_iconst (v := nI 3) hx hb dL_isTold_627 (by decide) ?_
                                          refine lv_iload hx hb dL_isTold_628 (lv_at hl 2 rfl) ?_
                                          refine m_imul hx hb dL_isTold_630 ?_
                                          refine lv_iconst (v := nI 1) hx hb dL_isTold_631 (by decide) ?_
                                          refine m_iadd hx hb dL_isTold_632 ?_
                                          refine m_iald hx hb hE.k hP 3 rfl (by omega) (by omega) ((hq _ P hPi).2.1) dL_isTold_633 ?_
                                          refine lv_aload_n hx hb dL_isTold_634 rfl (lv_at hl 7 rfl) ?_
                                          refine lv_bipush (v := nI 27) hx hb dL_isTold_635 (by decide) ?_
                                          refine lv_iload hx hb dL_isTold_637 (lv_at hl 13 rfl) ?_
                                          refine m_imul hx hb dL_isTold_639 ?_
                                          refine lv_iconst (v := nI 3) hx hb dL_isTold_640 (by decide) ?_
                                          refine lv_iload hx hb dL_isTold_641 (lv_at hl 17 rfl) ?_
                                          refine m_imul hx hb dL_isTold_643 ?_
                                          refine m_iadd hx hb dL_isTold_644 ?_
                                          refine lv_iload hx hb dL_isTold_645 (lv_at hl 16 rfl) ?_
                                          refine m_iadd hx hb dL_isTold_647 ?_
                                          refine m_iald hx hb hE.k hP 0 rfl (by omega) (by omega) ((by rw [Nat.add_assoc]; exact hf.r0 hk9 (by omega) : g 0 (27 * k + 3 * kd + u) = nI (enR (foR (fm (54 * k + (3 * kd + u)))))).trans (fR_s hF9)) dL_isTold_648 ?_
                                          refine m_cSi (rest := [.int (nI (dst P.2.1.1 F.1))]) ⟨hx, hb, hml, hown, hts⟩ hE hS (fun q h => hsub q (hA q (by rw [← hsz]; exact Nat.le_trans hS.1 h))) (kL_distance l K (fun q => Hx3.size ≤ q) Hx3 (fun q => Iff.rfl) (drR P.2.1.1) (drR F.1) hdP.g hgF.1.g) (va_cwS 2 hts gL_isTold_L_distance rfl rfl rfl (by decide +kernel) ⟨Nat.le_of_ble_eq_true rfl, Nat.le_of_ble_eq_true rfl⟩) rfl rfl hl.1 rfl (Nat.le_of_ble_eq_true rfl) dL_isTold_649 ⟨by show _ ≤ 130; omega, by show _ ≤ 1600; omega⟩ (fun r Hx4 locs hp hS hk => ?_)
                                          obtain ⟨rfl, hsm1⟩ := hp
                                          have hP := hsm1.P hP
                                          have hc := hc.same hsm1
                                          rw [dsR_eq hdP hgF.1]
                                          refine m_icmp_ne (tgt := 659) hx hb (by omega) (by omega) dL_isTold_652 (by decide) (fun c_652 => ?_) (fun c_652 => ?_)
                                          · exact absurd rfl c_652
                                          · refine lv_iconst (v := nI 1) hx hb dL_isTold_655 (by decide) ?_
                                            refine lv_goto (tgt := 660) hx hb dL_isTold_656 (by decide) ?_
                                            refine W.eq (g2 := F0 m 660 ls [.int (bI true)]) (by rfl) ?_
                                            refine lv_istore (lv' := [(15, .int (bI true)), (19, .int (nI (enR (foR (some P.2.2))))), (18, .int (nI i8)), (17, .int (nI m9)), (16, .int (nI n3)), (14, .int (nI (enR (foR fo9)))), (0, .ref o), (1, .ref (b 0)), (2, .ref (b 1)), (3, .ref (b 2)), (4, .ref (b 3)), (5, .ref (b 4)), (6, .ref (b 5)), (8, .int (nI k)), (9, .int (nI l9)), (10, .int (nI x)), (11, .int (nI u)), (12, .int (nI kd))]) hx hb dL_isTold_660 hl (by decide) rfl (fun ls hl => ?_)
                                            refine lv_iconst (v := nI 0) hx hb dL_isTold_662 (by decide) ?_
                                            refine lv_istore (lv' := [(20, .int (nI 0)), (15, .int (bI true)), (19, .int (nI (enR (foR (some P.2.2))))), (18, .int (nI i8)), (17, .int (nI m9)), (16, .int (nI n3)), (14, .int (nI (enR (foR fo9)))), (0, .ref o), (1, .ref (b 0)), (2, .ref (b 1)), (3, .ref (b 2)), (4, .ref (b 3)), (5, .ref (b 4)), (6, .ref (b 5)), (8, .int (nI k)), (9, .int (nI l9)), (10, .int (nI x)), (11, .int (nI u)), (12, .int (nI kd))]) hx hb dL_isTold_663 hl (by decide) rfl (fun ls hl => ?_)
                                            have hD := hD
                                            refine W.widen (k := 100 + 6 * 0) (n := 1400 + 36 * 0) (by omega) (by omega) ?_
                                            refine (?_ : ∀ (n9f : Nat) (v : Nat) (H : Heap) (locs : List Loc) (ls : Array Slot), v ≤ 5 → 5 < v + n9f → cOK K Ac H o ad fb on fw dr fm vs ch ps → va_P K.1 vwCl (lW K b g) H → va_D A (lW K b g) → va_S A s.heap H locs → lv_has ls 22 [(20, .int (nI v)), (15, .int (bI true)), (19, .int (nI (enR (foR (some P.2.2))))), (0, .ref o), (1, .ref (b 0)), (2, .ref (b 1)), (3, .ref (b 2)), (4, .ref (b 3)), (5, .ref (b 4)), (6, .ref (b 5)), (8, .int (nI k)), (9, .int (nI l9)), (10, .int (nI x)), (11, .int (nI u)), (12, .int (nI kd))] → W p l e _ s m args below meth c H locs (100 + 6 * v) (1400 + 36 * v) _ (F0 m 665 ls [])) (5 + 1) 0 _ _ ls (by omega) (by omega) hc hP hD hS (lv_sub hl [0, 1, 2, 7, 8, 9, 10, 11, 12, 13, 14, 15, 16, 17, 18] rfl)
                                            clear hS hl hP hD
                                            intro n9f
                                            induction n9f with
                                            | zero => intro v H locs ls hi9 hn9; exact absurd hn9 (by omega)
                                            | succ n9f ihf =>
                                              intro v H locs ls hi9f hn9f hc hP hD hS hl
                                              refine lv_iload hx hb dL_isTold_665 (lv_at hl 0 rfl) ?_
                                              refine lv_iconst (v := nI 5) hx hb dL_isTold_667 (by decide) ?_
                                              refine m_icmp_ge (tgt := 727) hx hb (by omega) (by omega) dL_isTold_668 (by decide) (fun c_668 => ?_) (fun c_668 => ?_)
                                              · refine lv_iload hx hb dL_isTold_727 (lv_at hl 1 rfl) ?_
                                                refine W.widen (k := 130) (n := 1600) (by omega) (by omega) ?_
                                                exact m_zret hx hb hr hlk hS (Nat.le_of_ble_eq_true rfl) (Nat.le_of_ble_eq_true rfl) dL_isTold_729 (⟨rfl, g, _, _, _, _, _, _, _, _, hP, hD, hc, hR⟩)
                                              · refine lv_iload hx hb dL_isTold_671 (lv_at hl 1 rfl) ?_
                                                refine m_if_eq_b (tgt := 727) hx hb dL_isTold_673 (by decide) (fun c_673 => ?_) (fun c_673 => ?_)
                                                · exact absurd c_673 (by first | decide | exact (show ¬ false = true by decide) | exact (show ¬ true = false by decide))
                                                · refine lv_aload_n hx hb dL_isTold_676 rfl (lv_at hl 3 rfl) ?_
                                                  refine lv_iload hx hb dL_isTold_677 (lv_at hl 10 rfl) ?_
                                                  refine lv_iload hx hb dL_isTold_679 (lv_at hl 11 rfl) ?_
                                                  refine lv_iload hx hb dL_isTold_681 (lv_at hl 14 rfl) ?_
                                                  refine lv_iload hx hb dL_isTold_683 (lv_at hl 13 rfl) ?_
                                                  refine lv_iload hx hb dL_isTold_685 (lv_at hl 0 rfl) ?_
                                                  obtain ⟨f7, d7, ft7, li7, T7, hPc, hDc, hRc⟩ := id hc
                                                  refine m_xVi (rest := []) ⟨hx, hb, hml, hown, hts⟩ hE hS hsub (kX2_nearSign l hl0 K Ac _ o ad fb on fw dr fm vs ch ps hc (nI k) (nI l9) (nI kd) (nI u) (nI v)) (cwV 5 hts gL_isTold_X2_nearSign rfl rfl rfl (by decide +kernel) ⟨Nat.le_of_ble_eq_true rfl, Nat.le_of_ble_eq_true rfl⟩) (va_recv hE.k hPc (ci := 3) (q0 := 0) rfl rfl) rfl rfl hl.1 rfl (Nat.le_of_ble_eq_true rfl) dL_isTold_687 ⟨by show _ ≤ 130; omega, by show _ ≤ 1600; omega⟩ (fun E ce q9 H9 locs9 hx9 hs9 hS9 y1 y2 y3 => (hx9.2 ⟨⟨okN_nI (by omega) (by decide), okN_nI (by omega) (by decide), okN_nI (by omega) (by decide), okN_nI (by omega) (by decide)⟩, okN_max (by omega)⟩).elim) (fun r Hx5 locs hp hS hk => ?_)
                                                  rw [tN_nI (show k < 2147483648 by omega), tN_nI (show l9 < 2147483648 by omega), tN_nI (show kd < 2147483648 by omega), tN_nI (show u < 2147483648 by omega), tN_nI (show v < 2147483648 by omega), show 54 * k + 3 * kd + u = 54 * k + (3 * kd + u) by omega] at hp
                                                  obtain ⟨-, -, hr9, hc⟩ := hp
                                                  rw [hns v] at hr9
                                                  have hP := lW_kept hP (fun i hi => hk (b i) (lW_lt hP hi) (hno i hi))
                                                  refine lv_iload hx hb dL_isTold_690 (lv_at hl 0 rfl) ?_
                                                  refine lv_iload hx hb dL_isTold_692 (lv_at hl 2 rfl) ?_
                                                  refine m_cSi (rest := [.int (nI v), .int r]) ⟨hx, hb, hml, hown, hts⟩ hE hS (fun _ h => h) (kL_size l K A _ (foR (some P.2.2)) hg8) (va_cwS 1 hts gL_isTold_L_size rfl rfl rfl (by decide +kernel) ⟨Nat.le_of_ble_eq_true rfl, Nat.le_of_ble_eq_true rfl⟩) rfl rfl hl.1 rfl (Nat.le_of_ble_eq_true rfl) dL_isTold_694 ⟨by show _ ≤ 130; omega, by show _ ≤ 1600; omega⟩ (fun r H1 locs hp hS hk => ?_)
                                                  obtain ⟨rfl, rfl⟩ := hp
                                                  refine m_icmp_ge (tgt := 710) hx hb (by omega) (by omega) dL_isTold_697 (by decide) (fun c_697 => ?_) (fun c_697 => ?_)
                                                  · rw [if_neg (by omega)] at hr9
                                                    subst hr9
                                                    refine lv_iconst (v := nI 0) hx hb dL_isTold_710 (by decide) ?_
                                                    refine m_icmp_ne (tgt := 718) hx hb (by omega) (by omega) dL_isTold_711 (by decide) (fun c_711 => ?_) (fun c_711 => ?_)
                                                    · exact absurd rfl c_711
                                                    · refine lv_iconst (v := nI 1) hx hb dL_isTold_714 (by decide) ?_
                                                      refine lv_goto (tgt := 719) hx hb dL_isTold_715 (by decide) ?_
                                                      refine W.eq (g2 := F0 m 719 ls [.int (bI true)]) (by rfl) ?_
                                                      refine lv_istore (lv' := [(15, .int (bI true)), (20, .int (nI v)), (19, .int (nI (enR (foR (some P.2.2))))), (0, .ref o), (1, .ref (b 0)), (2, .ref (b 1)), (3, .ref (b 2)), (4, .ref (b 3)), (5, .ref (b 4)), (6, .ref (b 5)), (8, .int (nI k)), (9, .int (nI l9)), (10, .int (nI x)), (11, .int (nI u)), (12, .int (nI kd))]) hx hb dL_isTold_719 hl (by decide) rfl (fun ls hl => ?_)
                                                      refine lv_iinc (v := nI (v + 1)) (lv' := [(20, .int (nI (v + 1))), (15, .int (bI true)), (19, .int (nI (enR (foR (some P.2.2))))), (0, .ref o), (1, .ref (b 0)), (2, .ref (b 1)), (3, .ref (b 2)), (4, .ref (b 3)), (5, .ref (b 4)), (6, .ref (b 5)), (8, .int (nI k)), (9, .int (nI l9)), (10, .int (nI x)), (11, .int (nI u)), (12, .int (nI kd))]) hx hb dL_isTold_721 hl (k := 1) rfl (m_inc _) (by decide) rfl (fun ls hl => ?_)
                                                      refine lv_goto (tgt := 665) hx hb dL_isTold_724 (by decide) ?_
                                                      refine W.widen (k := 100 + 6 * (v + 1)) (n := 1400 + 36 * (v + 1)) (by omega) (by omega) ?_
                                                      exact ihf (v + 1) _ _ ls (by omega) (by omega) hc hP hD hS (lv_sub hl [0, 1, 2, 3, 4, 5, 6, 7, 8, 9, 10, 11, 12, 13, 14] rfl)
                                                  · rw [if_pos (by omega)] at hr9
                                                    subst hr9
                                                    refine lv_iload hx hb dL_isTold_700 (lv_at hl 2 rfl) ?_
                                                    refine lv_iload hx hb dL_isTold_702 (lv_at hl 0 rfl) ?_
                                                    have hsb := hg8.s (p := v) (by omega)
                                                    refine m_cSi (rest := [.int (nI (sgR (foR (some P.2.2)) v))]) ⟨hx, hb, hml, hown, hts⟩ hE hS (fun _ h => h) (kL_signAt l K A _ (foR (some P.2.2)) hg8 v (by omega)) (va_cwS 2 hts gL_isTold_L_signAt rfl rfl rfl (by decide +kernel) ⟨Nat.le_of_ble_eq_true rfl, Nat.le_of_ble_eq_true rfl⟩) rfl rfl hl.1 rfl (Nat.le_of_ble_eq_true rfl) dL_isTold_704 ⟨by show _ ≤ 130; omega, by show _ ≤ 1600; omega⟩ (fun r H1 locs hp hS hk => ?_)
                                                    obtain ⟨rfl, rfl⟩ := hp
                                                    refine lv_goto (tgt := 711) hx hb dL_isTold_707 (by decide) ?_
                                                    refine m_icmp_ne (tgt := 718) hx hb (by omega) (by omega) dL_isTold_711 (by decide) (fun c_711 => ?_) (fun c_711 => ?_)
                                                    · exact absurd rfl c_711
                                                    · refine lv_iconst (v := nI 1) hx hb dL_isTold_714 (by decide) ?_
                                                      refine lv_goto (tgt := 719) hx hb dL_isTold_715 (by decide) ?_
                                                      refine W.eq (g2 := F0 m 719 ls [.int (bI true)]) (by rfl) ?_
                                                      refine lv_istore (lv' := [(15, .int (bI true)), (20, .int (nI v)), (19, .int (nI (enR (foR (some P.2.2))))), (0, .ref o), (1, .ref (b 0)), (2, .ref (b 1)), (3, .ref (b 2)), (4, .ref (b 3)), (5, .ref (b 4)), (6, .ref (b 5)), (8, .int (nI k)), (9, .int (nI l9)), (10, .int (nI x)), (11, .int (nI u)), (12, .int (nI kd))]) hx hb dL_isTold_719 hl (by decide) rfl (fun ls hl => ?_)
                                                      refine lv_iinc (v := nI (v + 1)) (lv' := [(20, .int (nI (v + 1))), (15, .int (bI true)), (19, .int (nI (enR (foR (some P.2.2))))), (0, .ref o), (1, .ref (b 0)), (2, .ref (b 1)), (3, .ref (b 2)), (4, .ref (b 3)), (5, .ref (b 4)), (6, .ref (b 5)), (8, .int (nI k)), (9, .int (nI l9)), (10, .int (nI x)), (11, .int (nI u)), (12, .int (nI kd))]) hx hb dL_isTold_721 hl (k := 1) rfl (m_inc _) (by decide) rfl (fun ls hl => ?_)
                                                      refine lv_goto (tgt := 665) hx hb dL_isTold_724 (by decide) ?_
                                                      refine W.widen (k := 100 + 6 * (v + 1)) (n := 1400 + 36 * (v + 1)) (by omega) (by omega) ?_
                                                      exact ihf (v + 1) _ _ ls (by omega) (by omega) hc hP hD hS (lv_sub hl [0, 1, 2, 3, 4, 5, 6, 7, 8, 9, 10, 11, 12, 13, 14] rfl)
                        · have hr9 : r = -1 := hr9.trans (if_pos (by rw [← hn3]; exact c_469))
                          subst hr9
                          refine lv_iconst (v := (-1)) hx hb dL_isTold_472 (by decide) ?_
                          refine lv_goto (tgt := 492) hx hb dL_isTold_473 (by decide) ?_
                          refine lv_icmp_ne (tgt := 596) hx hb dL_isTold_492 (by decide) (fun c_492 => ?_) (fun c_492 => ?_)
                          · exact absurd rfl c_492
                          · refine lv_aload_n hx hb dL_isTold_495 rfl (lv_at hl 6 rfl) ?_
                            refine lv_iload hx hb dL_isTold_496 (lv_at hl 13 rfl) ?_
                            obtain ⟨f7, d7, ft7, li7, T7, hPc, hDc, hRc⟩ := id hc
                            refine m_xVi (rest := []) ⟨hx, hb, hml, hown, hts⟩ hE hS hsub (kX2_version l hl0 K Ac _ o ad fb on fw dr fm vs ch ps hc (nI k)) (cwV 1 hts gL_isTold_X2_version rfl rfl rfl (by decide +kernel) ⟨Nat.le_of_ble_eq_true rfl, Nat.le_of_ble_eq_true rfl⟩) (va_recv hE.k hPc (ci := 3) (q0 := 0) rfl rfl) rfl rfl hl.1 rfl (Nat.le_of_ble_eq_true rfl) dL_isTold_498 ⟨by show _ ≤ 130; omega, by show _ ≤ 1600; omega⟩ (fun E ce q9 H9 locs9 hx9 hs9 hS9 y1 y2 y3 => (hx9.2 (okN_nI (by omega) (by decide))).elim) (fun r H1 locs hp hS hk => ?_)
                            rw [tN_nI (show k < 2147483648 by omega)] at hp
                            obtain ⟨-, rfl, rfl⟩ := hp
                            refine lv_aload_n hx hb dL_isTold_501 rfl (lv_at hl 9 rfl) ?_
                            refine lv_iload hx hb dL_isTold_502 (lv_at hl 13 rfl) ?_
                            refine m_iald hx hb hE.k hP 2 rfl (by omega) (by omega) ((ha k hk9).1) dL_isTold_504 ?_
                            refine lv_icmp_ne (tgt := 596) hx hb dL_isTold_505 (by decide) (fun c_505 => ?_) (fun c_505 => ?_)
                            · exact absurd rfl c_505
                            · refine lv_aload_n hx hb dL_isTold_508 rfl (lv_at hl 6 rfl) ?_
                              refine lv_iload hx hb dL_isTold_509 (lv_at hl 14 rfl) ?_
                              obtain ⟨f7, d7, ft7, li7, T7, hPc, hDc, hRc⟩ := id hc
                              refine m_xVi (rest := []) ⟨hx, hb, hml, hown, hts⟩ hE hS hsub (kX2_missing l hl0 K Ac _ o ad fb on fw dr fm vs ch ps hc (nI l9)) (cwV 1 hts gL_isTold_X2_missing rfl rfl rfl (by decide +kernel) ⟨Nat.le_of_ble_eq_true rfl, Nat.le_of_ble_eq_true rfl⟩) (va_recv hE.k hPc (ci := 3) (q0 := 0) rfl rfl) rfl rfl hl.1 rfl (Nat.le_of_ble_eq_true rfl) dL_isTold_511 ⟨by show _ ≤ 130; omega, by show _ ≤ 1600; omega⟩ (fun E ce q9 H9 locs9 hx9 hs9 hS9 y1 y2 y3 => (hx9.2 (okN_nI (by omega) (by decide))).elim) (fun r H1 locs hp hS hk => ?_)
                              rw [tN_nI (show l9 < 2147483648 by omega)] at hp
                              obtain ⟨-, hr9, rfl⟩ := hp
                              rw [miss_2 hfm, ← hm2] at hr9
                              subst hr9
                              refine lv_iload hx hb dL_isTold_514 (lv_at hl 2 rfl) ?_
                              refine m_icmp_ne (tgt := 596) hx hb (by omega) (by omega) dL_isTold_516 (by decide) (fun c_516 => ?_) (fun c_516 => ?_)
                              · exact absurd rfl c_516
                              · refine lv_aload_n hx hb dL_isTold_519 rfl (lv_at hl 6 rfl) ?_
                                refine lv_iload hx hb dL_isTold_520 (lv_at hl 14 rfl) ?_
                                refine lv_iload hx hb dL_isTold_522 (lv_at hl 15 rfl) ?_
                                obtain ⟨f7, d7, ft7, li7, T7, hPc, hDc, hRc⟩ := id hc
                                refine m_xVi (rest := []) ⟨hx, hb, hml, hown, hts⟩ hE hS hsub (kX2_kindOf l hl0 K Ac _ o ad fb on fw dr fm vs ch ps hc (nI l9) (nI x)) (cwV 2 hts gL_isTold_X2_kindOf rfl rfl rfl (by decide +kernel) ⟨Nat.le_of_ble_eq_true rfl, Nat.le_of_ble_eq_true rfl⟩) (va_recv hE.k hPc (ci := 3) (q0 := 0) rfl rfl) rfl rfl hl.1 rfl (Nat.le_of_ble_eq_true rfl) dL_isTold_524 ⟨by show _ ≤ 130; omega, by show _ ≤ 1600; omega⟩ (fun E ce q9 H9 locs9 hx9 hs9 hS9 y1 y2 y3 => (hx9.elim (fun h => h.2 (okN_nI (by omega) (by decide))) (fun h => h.2.2 (okN_max (by omega)))).elim) (fun r H1 locs hp hS hk => ?_)
                                rw [tN_nI (show l9 < 2147483648 by omega)] at hp
                                obtain ⟨-, -, rfl, rfl⟩ := hp
                                have hkf := kindF_lt on fw l9 (nI x)
                                refine lv_aload hx hb dL_isTold_527 (lv_at hl 11 rfl) ?_
                                refine lv_iload hx hb dL_isTold_529 (lv_at hl 14 rfl) ?_
                                refine lv_iload hx hb dL_isTold_531 (lv_at hl 15 rfl) ?_
                                refine m_cSi (rest := [.int (nI (kindF on fw l9 (nI x)))]) ⟨hx, hb, hml, hown, hts⟩ hE hS (fun _ h => h) (kL_kind l K A _ (b 4) (g 4) (hP.sub [4] rfl) fb on fw hn l9 hl9 (nI x)) (va_cwS 3 hts gL_isTold_L_kind rfl rfl rfl (by decide +kernel) ⟨Nat.le_of_ble_eq_true rfl, Nat.le_of_ble_eq_true rfl⟩) rfl rfl hl.1 rfl (Nat.le_of_ble_eq_true rfl) dL_isTold_533 ⟨by show _ ≤ 130; omega, by show _ ≤ 1600; omega⟩ (fun r H1 locs hp hS hk => ?_)
                                obtain ⟨rfl, rfl⟩ := hp
                                refine m_icmp_ne (tgt := 596) hx hb (by omega) (by omega) dL_isTold_536 (by decide) (fun c_536 => ?_) (fun c_536 => ?_)
                                · exact absurd rfl c_536
                                · refine lv_aload_n hx hb dL_isTold_539 rfl (lv_at hl 6 rfl) ?_
                                  refine lv_iload hx hb dL_isTold_540 (lv_at hl 13 rfl) ?_
                                  refine lv_iload hx hb dL_isTold_542 (lv_at hl 14 rfl) ?_
                                  refine lv_iload hx hb dL_isTold_544 (lv_at hl 17 rfl) ?_
                                  refine lv_iload hx hb dL_isTold_546 (lv_at hl 16 rfl) ?_
                                  obtain ⟨f7, d7, ft7, li7, T7, hPc, hDc, hRc⟩ := id hc
                                  refine m_xVi (rest := []) ⟨hx, hb, hml, hown, hts⟩ hE hS hsub (kX2_fits l hl0 K Ac _ o ad fb on fw dr fm vs ch ps hc (nI k) (nI l9) (nI kd) (nI u)) (cwV 4 hts gL_isTold_X2_fits rfl rfl rfl (by decide +kernel) ⟨Nat.le_of_ble_eq_true rfl, Nat.le_of_ble_eq_true rfl⟩) (va_recv hE.k hPc (ci := 3) (q0 := 0) rfl rfl) rfl rfl hl.1 rfl (Nat.le_of_ble_eq_true rfl) dL_isTold_548 ⟨by show _ ≤ 130; omega, by show _ ≤ 1600; omega⟩ (fun E ce q9 H9 locs9 hx9 hs9 hS9 y1 y2 y3 => (hx9.2 ⟨okN_nI (by omega) (by decide), okN_nI (by omega) (by decide), okN_nI (by omega) (by decide), okN_nI (by omega) (by decide)⟩).elim) (fun r H1 locs hp hS hk => ?_)
                                  rw [tN_nI (show k < 2147483648 by omega), tN_nI (show l9 < 2147483648 by omega), tN_nI (show kd < 2147483648 by omega), tN_nI (show u < 2147483648 by omega), show 54 * k + 9 * l9 + 3 * kd + u = 54 * k + 9 * l9 + (3 * kd + u) by omega] at hp
                                  obtain ⟨-, rfl, rfl⟩ := hp
                                  refine lv_aload_n hx hb dL_isTold_551 rfl (lv_at hl 7 rfl) ?_
                                  refine lv_aload_n hx hb dL_isTold_552 rfl (lv_at hl 8 rfl) ?_
                                  refine lv_iload hx hb dL_isTold_553 (lv_at hl 13 rfl) ?_
                                  refine lv_iload hx hb dL_isTold_555 (lv_at hl 14 rfl) ?_
                                  refine lv_iconst (v := nI 3) hx hb dL_isTold_557 (by decide) ?_
                                  refine lv_iload hx hb dL_isTold_558 (lv_at hl 17 rfl) ?_
                                  refine m_imul hx hb dL_isTold_560 ?_
                                  refine lv_iload hx hb dL_isTold_561 (lv_at hl 16 rfl) ?_
                                  refine m_iadd hx hb dL_isTold_563 ?_
                                  refine m_cSi (rest := [.int (bI (fitF fm k (fm (54 * k + 9 * l9 + (3 * kd + u)))))]) ⟨hx, hb, hml, hown, hts⟩ hE hS (fun _ h => h) (kL_fits l K A _ (b 0) (b 1) (g 0) (g 1) (hP.sub [0, 1] rfl) fm hfm hf hx1 k l9 (3 * kd + u) hk9 hl9 (by omega)) (va_cwS 5 hts gL_isTold_L_fits rfl rfl rfl (by decide +kernel) ⟨Nat.le_of_ble_eq_true rfl, Nat.le_of_ble_eq_true rfl⟩) rfl rfl hl.1 rfl (Nat.le_of_ble_eq_true rfl) dL_isTold_564 ⟨by show _ ≤ 130; omega, by show _ ≤ 1600; omega⟩ (fun r H1 locs hp hS hk => ?_)
                                  obtain ⟨rfl, rfl⟩ := hp
                                  refine lv_icmp_ne (tgt := 596) hx hb dL_isTold_567 (by decide) (fun c_567 => ?_) (fun c_567 => ?_)
                                  · exact absurd rfl c_567
                                  · refine lv_aload_n hx hb dL_isTold_570 rfl (lv_at hl 6 rfl) ?_
                                    obtain ⟨f7, d7, ft7, li7, T7, hPc, hDc, hRc⟩ := id hc
                                    refine m_cVi (rest := []) ⟨hx, hb, hml, hown, hts⟩ hE hS hsub (kX2_pairs l K Ac _ o ad fb on fw dr fm vs ch ps hc) (cwV 0 hts gL_isTold_X2_pairs rfl rfl rfl (by decide +kernel) ⟨Nat.le_of_ble_eq_true rfl, Nat.le_of_ble_eq_true rfl⟩) (va_recv hE.k hPc (ci := 3) (q0 := 0) rfl rfl) rfl rfl hl.1 rfl (Nat.le_of_ble_eq_true rfl) dL_isTold_571 ⟨by show _ ≤ 130; omega, by show _ ≤ 1600; omega⟩ (fun r H1 locs hp hS hk => ?_)
                                    obtain ⟨rfl, rfl⟩ := hp
                                    refine lv_aload hx hb dL_isTold_574 (lv_at hl 12 rfl) ?_
                                    refine lv_iconst (v := nI 0) hx hb dL_isTold_576 (by decide) ?_
                                    refine m_iald hx hb hE.k hP 5 rfl (by omega) (by omega) hm.1 dL_isTold_577 ?_
                                    refine m_icmp_ne (tgt := 596) hx hb (by omega) (by omega) dL_isTold_578 (by decide) (fun c_578 => ?_) (fun c_578 => ?_)
                                    · exact absurd rfl c_578
                                    · refine lv_aload_n hx hb dL_isTold_581 rfl (lv_at hl 6 rfl) ?_
                                      obtain ⟨f7, d7, ft7, li7, T7, hPc, hDc, hRc⟩ := id hc
                                      refine m_cVi (rest := []) ⟨hx, hb, hml, hown, hts⟩ hE hS hsub (kX2_draft l K Ac _ o ad fb on fw dr fm vs ch ps hc) (cwV 0 hts gL_isTold_X2_draft rfl rfl rfl (by decide +kernel) ⟨Nat.le_of_ble_eq_true rfl, Nat.le_of_ble_eq_true rfl⟩) (va_recv hE.k hPc (ci := 3) (q0 := 0) rfl rfl) rfl rfl hl.1 rfl (Nat.le_of_ble_eq_true rfl) dL_isTold_582 ⟨by show _ ≤ 130; omega, by show _ ≤ 1600; omega⟩ (fun r H1 locs hp hS hk => ?_)
                                      obtain ⟨rfl, rfl⟩ := hp
                                      refine lv_aload hx hb dL_isTold_585 (lv_at hl 12 rfl) ?_
                                      refine lv_iconst (v := nI 1) hx hb dL_isTold_587 (by decide) ?_
                                      refine m_iald hx hb hE.k hP 5 rfl (by omega) (by omega) hm.2.1 dL_isTold_588 ?_
                                      refine m_icmp_ne (tgt := 596) hx hb (by omega) (by omega) dL_isTold_589 (by decide) (fun c_589 => ?_) (fun c_589 => ?_)
                                      · exact absurd rfl c_589
                                      · refine lv_iconst (v := nI 1) hx hb dL_isTold_592 (by decide) ?_
                                        refine lv_goto (tgt := 597) hx hb dL_isTold_593 (by decide) ?_
                                        refine W.eq (g2 := F0 m 597 ls [.int (bI true)]) (by rfl) ?_
                                        refine lv_istore (lv' := [(15, .int (bI true)), (19, .int (nI (enR (foR (some P.2.2))))), (18, .int (nI i8)), (17, .int (nI m9)), (16, .int (nI n3)), (14, .int (nI (enR (foR fo9)))), (0, .ref o), (1, .ref (b 0)), (2, .ref (b 1)), (3, .ref (b 2)), (4, .ref (b 3)), (5, .ref (b 4)), (6, .ref (b 5)), (8, .int (nI k)), (9, .int (nI l9)), (10, .int (nI x)), (11, .int (nI u)), (12, .int (nI kd))]) hx hb dL_isTold_597 hl (by decide) rfl (fun ls hl => ?_)
                                        refine lv_iload hx hb dL_isTold_599 (lv_at hl 0 rfl) ?_
                                        refine m_if_eq_b (tgt := 659) hx hb dL_isTold_601 (by decide) (fun c_601 => ?_) (fun c_601 => ?_)
                                        · exact absurd c_601 (by first | decide | exact (show ¬ false = true by decide) | exact (show ¬ true = false by decide))
                                        · refine lv_aload_n hx hb dL_isTold_604 rfl (lv_at hl 6 rfl) ?_
                                          refine lv_iload hx hb dL_isTold_605 (lv_at hl 13 rfl) ?_
                                          refine lv_iload hx hb dL_isTold_607 (lv_at hl 14 rfl) ?_
                                          refine lv_iload hx hb dL_isTold_609 (lv_at hl 17 rfl) ?_
                                          refine lv_iload hx hb dL_isTold_611 (lv_at hl 16 rfl) ?_
                                          obtain ⟨f7, d7, ft7, li7, T7, hPc, hDc, hRc⟩ := id hc
                                          refine m_xVi (rest := []) ⟨hx, hb, hml, hown, hts⟩ hE hS hsub (kX2_nearDistance l hl0 K Ac _ o ad fb on fw dr fm vs ch ps hc (nI k) (nI l9) (nI kd) (nI u)) (cwV 4 hts gL_isTold_X2_nearDistance rfl rfl rfl (by decide +kernel) ⟨Nat.le_of_ble_eq_true rfl, Nat.le_of_ble_eq_true rfl⟩) (va_recv hE.k hPc (ci := 3) (q0 := 0) rfl rfl) rfl rfl hl.1 rfl (Nat.le_of_ble_eq_true rfl) dL_isTold_613 ⟨by show _ ≤ 130; omega, by show _ ≤ 1600; omega⟩ (fun E ce q9 H9 locs9 hx9 hs9 hS9 y1 y2 y3 => (hx9.2 ⟨okN_nI (by omega) (by decide), okN_nI (by omega) (by decide), okN_nI (by omega) (by decide), okN_nI (by omega) (by decide)⟩).elim) (fun r Hx3 locs hp hS hk => ?_)
                                          rw [tN_nI (show k < 2147483648 by omega), tN_nI (show l9 < 2147483648 by omega), tN_nI (show kd < 2147483648 by omega), tN_nI (show u < 2147483648 by omega), show 54 * k + 3 * kd + u = 54 * k + (3 * kd + u) by omega] at hp
                                          obtain ⟨-, hr9, hc⟩ := hp
                                          have hP := lW_kept hP (fun i hi => hk (b i) (lW_lt hP hi) (hno i hi))
                                          rw [nearD_s hF9 hnF9] at hr9
                                          subst hr9
                                          have hd8 := dst_le8 hdP hgF.1
                                          refine lv_iload hx hb dL_isTold_616 (lv_at hl 2 rfl) ?_
                                          refine m_if_ge (tgt := 625) hx hb (by omega) dL_isTold_618 (by decide) ?_
                                          refine lv_aload hx hb dL_isTold_625 (lv_at hl 10 rfl) ?_
                                          refine lv_iconst (v := nI 3) hx hb dL_isTold_627 (by decide) ?_
                                          refine lv_iload hx hb dL_isTold_628 (lv_at hl 2 rfl) ?_
                                          refine m_imul hx hb dL_isTold_630 ?_
                                          refine lv_iconst (v := nI 1) hx hb dL_isTold_631 (by decide) ?_
                                          refine m_iadd hx hb dL_isTold_632 ?_
                                          refine m_iald hx hb hE.k hP 3 rfl (by omega) (by omega) ((hq _ P hPi).2.1) dL_isTold_633 ?_
                                          refine lv_aload_n hx hb dL_isTold_634 rfl (lv_at hl 7 rfl) ?_
                                          refine lv_bipush (v := nI 27) hx hb dL_isTold_635 (by decide) ?_
                                          refine lv_iload hx hb dL_isTold_637 (lv_at hl 13 rfl) ?_
                                          refine m_imul hx hb dL_isTold_639 ?_
                                          refine lv_iconst (v := nI 3) hx hb dL_isTold_640 (by decide) ?_
                                          refine lv_iload hx hb dL_isTold_641 (lv_at hl 17 rfl) ?_
                                          refine m_imul hx hb dL_isTold_643 ?_
                                          refine m_iadd hx hb dL_isTold_644 ?_
                                          refine lv_iload hx hb dL_isTold_645 (lv_at hl 16 rfl) ?_
                                          refine m_iadd hx hb dL_isTold_647 ?_
                                          refine m_iald hx hb hE.k hP 0 rfl (by omega) (by omega) ((by rw [Nat.add_assoc]; exact hf.r0 hk9 (by omega) : g 0 (27 * k + 3 * kd + u) = nI (enR (foR (fm (54 * k + (3 * kd + u)))))).trans (fR_s hF9)) dL_isTold_648 ?_
                                          refine m_cSi (rest := [.int (nI (dst P.2.1.1 F.1))]) ⟨hx, hb, hml, hown, hts⟩ hE hS (fun q h => hsub q (hA q (by rw [← hsz]; exact Nat.le_trans hS.1 h))) (kL_distance l K (fun q => Hx3.size ≤ q) Hx3 (fun q => Iff.rfl) (drR P.2.1.1) (drR F.1) hdP.g hgF.1.g) (va_cwS 2 hts gL_isTold_L_distance rfl rfl rfl (by decide +kernel) ⟨Nat.le_of_ble_eq_true rfl, Nat.le_of_ble_eq_true rfl⟩) rfl rfl hl.1 rfl (Nat.le_of_ble_eq_true rfl) dL_isTold_649 ⟨by show _ ≤ 130; omega, by show _ ≤ 1600; omega⟩ (fun r Hx4 locs hp hS hk => ?_)
                                          obtain ⟨rfl, hsm1⟩ := hp
                                          have hP := hsm1.P hP
                                          have hc := hc.same hsm1
                                          rw [dsR_eq hdP hgF.1]
                                          refine m_icmp_ne (tgt := 659) hx hb (by omega) (by omega) dL_isTold_652 (by decide) (fun c_652 => ?_) (fun c_652 => ?_)
                                          · exact absurd rfl c_652
                                          · refine lv_iconst (v := nI 1) hx hb dL_isTold_655 (by decide) ?_
                                            refine lv_goto (tgt := 660) hx hb dL_isTold_656 (by decide) ?_
                                            refine W.eq (g2 := F0 m 660 ls [.int (bI true)]) (by rfl) ?_
                                            refine lv_istore (lv' := [(15, .int (bI true)), (19, .int (nI (enR (foR (some P.2.2))))), (18, .int (nI i8)), (17, .int (nI m9)), (16, .int (nI n3)), (14, .int (nI (enR (foR fo9)))), (0, .ref o), (1, .ref (b 0)), (2, .ref (b 1)), (3, .ref (b 2)), (4, .ref (b 3)), (5, .ref (b 4)), (6, .ref (b 5)), (8, .int (nI k)), (9, .int (nI l9)), (10, .int (nI x)), (11, .int (nI u)), (12, .int (nI kd))]) hx hb dL_isTold_660 hl (by decide) rfl (fun ls hl => ?_)
                                            refine lv_iconst (v := nI 0) hx hb dL_isTold_662 (by decide) ?_
                                            refine lv_istore (lv' := [(20, .int (nI 0)), (15, .int (bI true)), (19, .int (nI (enR (foR (some P.2.2))))), (18, .int (nI i8)), (17, .int (nI m9)), (16, .int (nI n3)), (14, .int (nI (enR (foR fo9)))), (0, .ref o), (1, .ref (b 0)), (2, .ref (b 1)), (3, .ref (b 2)), (4, .ref (b 3)), (5, .ref (b 4)), (6, .ref (b 5)), (8, .int (nI k)), (9, .int (nI l9)), (10, .int (nI x)), (11, .int (nI u)), (12, .int (nI kd))]) hx hb dL_isTold_663 hl (by decide) rfl (fun ls hl => ?_)
                                            have hD := hD
                                            refine W.widen (k := 100 + 6 * 0) (n := 1400 + 36 * 0) (by omega) (by omega) ?_
                                            refine (?_ : ∀ (n9f : Nat) (v : Nat) (H : Heap) (locs : List Loc) (ls : Array Slot), v ≤ 5 → 5 < v + n9f → cOK K Ac H o ad fb on fw dr fm vs ch ps → va_P K.1 vwCl (lW K b g) H → va_D A (lW K b g) → va_S A s.heap H locs → lv_has ls 22 [(20, .int (nI v)), (15, .int (bI true)), (19, .int (nI (enR (foR (some P.2.2))))), (0, .ref o), (1, .ref (b 0)), (2, .ref (b 1)), (3, .ref (b 2)), (4, .ref (b 3)), (5, .ref (b 4)), (6, .ref (b 5)), (8, .int (nI k)), (9, .int (nI l9)), (10, .int (nI x)), (11, .int (nI u)), (12, .int (nI kd))] → W p l e _ s m args below meth c H locs (100 + 6 * v) (1400 + 36 * v) _ (F0 m 665 ls [])) (5 + 1) 0 _ _ ls (by omega) (by omega) hc hP hD hS (lv_sub hl [0, 1, 2, 7, 8, 9, 10, 11, 12, 13, 14, 15, 16, 17, 18] rfl)
                                            clear hS hl hP hD
                                            intro n9f
                                            induction n9f with
                                            | zero => intro v H locs ls hi9 hn9; exact absurd hn9 (by omega)
                                            | succ n9f ihf =>
                                              intro v H locs ls hi9f hn9f hc hP hD hS hl
                                              refine lv_iload hx hb dL_isTold_665 (lv_at hl 0 rfl) ?_
                                              refine lv_iconst (v := nI 5) hx hb dL_isTold_667 (by decide) ?_
                                              refine m_icmp_ge (tgt := 727) hx hb (by omega) (by omega) dL_isTold_668 (by decide) (fun c_668 => ?_) (fun c_668 => ?_)
                                              · refine lv_iload hx hb dL_isTold_727 (lv_at hl 1 rfl) ?_
                                                refine W.widen (k := 130) (n := 1600) (by omega) (by omega) ?_
                                                exact m_zret hx hb hr hlk hS (Nat.le_of_ble_eq_true rfl) (Nat.le_of_ble_eq_true rfl) dL_isTold_729 (⟨rfl, g, _, _, _, _, _, _, _, _, hP, hD, hc, hR⟩)
                                              · refine lv_iload hx hb dL_isTold_671 (lv_at hl 1 rfl) ?_
                                                refine m_if_eq_b (tgt := 727) hx hb dL_isTold_673 (by decide) (fun c_673 => ?_) (fun c_673 => ?_)
                                                · exact absurd c_673 (by first | decide | exact (show ¬ false = true by decide) | exact (show ¬ true = false by decide))
                                                · refine lv_aload_n hx hb dL_isTold_676 rfl (lv_at hl 3 rfl) ?_
                                                  refine lv_iload hx hb dL_isTold_677 (lv_at hl 10 rfl) ?_
                                                  refine lv_iload hx hb dL_isTold_679 (lv_at hl 11 rfl) ?_
                                                  refine lv_iload hx hb dL_isTold_681 (lv_at hl 14 rfl) ?_
                                                  refine lv_iload hx hb dL_isTold_683 (lv_at hl 13 rfl) ?_
                                                  refine lv_iload hx hb dL_isTold_685 (lv_at hl 0 rfl) ?_
                                                  obtain ⟨f7, d7, ft7, li7, T7, hPc, hDc, hRc⟩ := id hc
                                                  refine m_xVi (rest := []) ⟨hx, hb, hml, hown, hts⟩ hE hS hsub (kX2_nearSign l hl0 K Ac _ o ad fb on fw dr fm vs ch ps hc (nI k) (nI l9) (nI kd) (nI u) (nI v)) (cwV 5 hts gL_isTold_X2_nearSign rfl rfl rfl (by decide +kernel) ⟨Nat.le_of_ble_eq_true rfl, Nat.le_of_ble_eq_true rfl⟩) (va_recv hE.k hPc (ci := 3) (q0 := 0) rfl rfl) rfl rfl hl.1 rfl (Nat.le_of_ble_eq_true rfl) dL_isTold_687 ⟨by show _ ≤ 130; omega, by show _ ≤ 1600; omega⟩ (fun E ce q9 H9 locs9 hx9 hs9 hS9 y1 y2 y3 => (hx9.2 ⟨⟨okN_nI (by omega) (by decide), okN_nI (by omega) (by decide), okN_nI (by omega) (by decide), okN_nI (by omega) (by decide)⟩, okN_max (by omega)⟩).elim) (fun r Hx5 locs hp hS hk => ?_)
                                                  rw [tN_nI (show k < 2147483648 by omega), tN_nI (show l9 < 2147483648 by omega), tN_nI (show kd < 2147483648 by omega), tN_nI (show u < 2147483648 by omega), tN_nI (show v < 2147483648 by omega), show 54 * k + 3 * kd + u = 54 * k + (3 * kd + u) by omega] at hp
                                                  obtain ⟨-, -, hr9, hc⟩ := hp
                                                  rw [hns v] at hr9
                                                  have hP := lW_kept hP (fun i hi => hk (b i) (lW_lt hP hi) (hno i hi))
                                                  refine lv_iload hx hb dL_isTold_690 (lv_at hl 0 rfl) ?_
                                                  refine lv_iload hx hb dL_isTold_692 (lv_at hl 2 rfl) ?_
                                                  refine m_cSi (rest := [.int (nI v), .int r]) ⟨hx, hb, hml, hown, hts⟩ hE hS (fun _ h => h) (kL_size l K A _ (foR (some P.2.2)) hg8) (va_cwS 1 hts gL_isTold_L_size rfl rfl rfl (by decide +kernel) ⟨Nat.le_of_ble_eq_true rfl, Nat.le_of_ble_eq_true rfl⟩) rfl rfl hl.1 rfl (Nat.le_of_ble_eq_true rfl) dL_isTold_694 ⟨by show _ ≤ 130; omega, by show _ ≤ 1600; omega⟩ (fun r H1 locs hp hS hk => ?_)
                                                  obtain ⟨rfl, rfl⟩ := hp
                                                  refine m_icmp_ge (tgt := 710) hx hb (by omega) (by omega) dL_isTold_697 (by decide) (fun c_697 => ?_) (fun c_697 => ?_)
                                                  · rw [if_neg (by omega)] at hr9
                                                    subst hr9
                                                    refine lv_iconst (v := nI 0) hx hb dL_isTold_710 (by decide) ?_
                                                    refine m_icmp_ne (tgt := 718) hx hb (by omega) (by omega) dL_isTold_711 (by decide) (fun c_711 => ?_) (fun c_711 => ?_)
                                                    · exact absurd rfl c_711
                                                    · refine lv_iconst (v := nI 1) hx hb dL_isTold_714 (by decide) ?_
                                                      refine lv_goto (tgt := 719) hx hb dL_isTold_715 (by decide) ?_
                                                      refine W.eq (g2 := F0 m 719 ls [.int (bI true)]) (by rfl) ?_
                                                      refine lv_istore (lv' := [(15, .int (bI true)), (20, .int (nI v)), (19, .int (nI (enR (foR (some P.2.2))))), (0, .ref o), (1, .ref (b 0)), (2, .ref (b 1)), (3, .ref (b 2)), (4, .ref (b 3)), (5, .ref (b 4)), (6, .ref (b 5)), (8, .int (nI k)), (9, .int (nI l9)), (10, .int (nI x)), (11, .int (nI u)), (12, .int (nI kd))]) hx hb dL_isTold_719 hl (by decide) rfl (fun ls hl => ?_)
                                                      refine lv_iinc (v := nI (v + 1)) (lv' := [(20, .int (nI (v + 1))), (15, .int (bI true)), (19, .int (nI (enR (foR (some P.2.2))))), (0, .ref o), (1, .ref (b 0)), (2, .ref (b 1)), (3, .ref (b 2)), (4, .ref (b 3)), (5, .ref (b 4)), (6, .ref (b 5)), (8, .int (nI k)), (9, .int (nI l9)), (10, .int (nI x)), (11, .int (nI u)), (12, .int (nI kd))]) hx hb dL_isTold_721 hl (k := 1) rfl (m_inc _) (by decide) rfl (fun ls hl => ?_)
                                                      refine lv_goto (tgt := 665) hx hb dL_isTold_724 (by decide) ?_
                                                      refine W.widen (k := 100 + 6 * (v + 1)) (n := 1400 + 36 * (v + 1)) (by omega) (by omega) ?_
                                                      exact ihf (v + 1) _ _ ls (by omega) (by omega) hc hP hD hS (lv_sub hl [0, 1, 2, 3, 4, 5, 6, 7, 8, 9, 10, 11, 12, 13, 14] rfl)
                                                  · rw [if_pos (by omega)] at hr9
                                                    subst hr9
                                                    refine lv_iload hx hb dL_isTold_700 (lv_at hl 2 rfl) ?_
                                                    refine lv_iload hx hb dL_isTold_702 (lv_at hl 0 rfl) ?_
                                                    have hsb := hg8.s (p := v) (by omega)
                                                    refine m_cSi (rest := [.int (nI (sgR (foR (some P.2.2)) v))]) ⟨hx, hb, hml, hown, hts⟩ hE hS (fun _ h => h) (kL_signAt l K A _ (foR (some P.2.2)) hg8 v (by omega)) (va_cwS 2 hts gL_isTold_L_signAt rfl rfl rfl (by decide +kernel) ⟨Nat.le_of_ble_eq_true rfl, Nat.le_of_ble_eq_true rfl⟩) rfl rfl hl.1 rfl (Nat.le_of_ble_eq_true rfl) dL_isTold_704 ⟨by show _ ≤ 130; omega, by show _ ≤ 1600; omega⟩ (fun r H1 locs hp hS hk => ?_)
                                                    obtain ⟨rfl, rfl⟩ := hp
                                                    refine lv_goto (tgt := 711) hx hb dL_isTold_707 (by decide) ?_
                                                    refine m_icmp_ne (tgt := 718) hx hb (by omega) (by omega) dL_isTold_711 (by decide) (fun c_711 => ?_) (fun c_711 => ?_)
                                                    · exact absurd rfl c_711
                                                    · refine lv_iconst (v := nI 1) hx hb dL_isTold_714 (by decide) ?_
                                                      refine lv_goto (tgt := 719) hx hb dL_isTold_715 (by decide) ?_
                                                      refine W.eq (g2 := F0 m 719 ls [.int (bI true)]) (by rfl) ?_
                                                      refine lv_istore (lv' := [(15, .int (bI true)), (20, .int (nI v)), (19, .int (nI (enR (foR (some P.2.2))))), (0, .ref o), (1, .ref (b 0)), (2, .ref (b 1)), (3, .ref (b 2)), (4, .ref (b 3)), (5, .ref (b 4)), (6, .ref (b 5)), (8, .int (nI k)), (9, .int (nI l9)), (10, .int (nI x)), (11, .int (nI u)), (12, .int (nI kd))]) hx hb dL_isTold_719 hl (by decide) rfl (fun ls hl => ?_)
                                                      refine lv_iinc (v := nI (v + 1)) (lv' := [(20, .int (nI (v + 1))), (15, .int (bI true)), (19, .int (nI (enR (foR (some P.2.2))))), (0, .ref o), (1, .ref (b 0)), (2, .ref (b 1)), (3, .ref (b 2)), (4, .ref (b 3)), (5, .ref (b 4)), (6, .ref (b 5)), (8, .int (nI k)), (9, .int (nI l9)), (10, .int (nI x)), (11, .int (nI u)), (12, .int (nI kd))]) hx hb dL_isTold_721 hl (k := 1) rfl (m_inc _) (by decide) rfl (fun ls hl => ?_)
                                                      refine lv_goto (tgt := 665) hx hb dL_isTold_724 (by decide) ?_
                                                      refine W.widen (k := 100 + 6 * (v + 1)) (n := 1400 + 36 * (v + 1)) (by omega) (by omega) ?_
                                                      exact ihf (v + 1) _ _ ls (by omega) (by omega) hc hP hD hS (lv_sub hl [0, 1, 2, 3, 4, 5, 6, 7, 8, 9, 10, 11, 12, 13, 14] rfl)
                · refine lv_iconst (v := nI 0) hx hb dL_isTold_300 (by decide) ?_
                  refine lv_istore (lv' := [(19, .int (nI 0)), (18, .int (nI v9)), (17, .int (nI m9)), (16, .int (nI n3)), (15, .int (bI true)), (14, .int (nI (enR (foR fo9)))), (0, .ref o), (1, .ref (b 0)), (2, .ref (b 1)), (3, .ref (b 2)), (4, .ref (b 3)), (5, .ref (b 4)), (6, .ref (b 5)), (8, .int (nI k)), (9, .int (nI l9)), (10, .int (nI x)), (11, .int (nI u)), (12, .int (nI kd))]) hx hb dL_isTold_301 hl (by decide) rfl (fun ls hl => ?_)
                  refine lv_iconst (v := nI 0) hx hb dL_isTold_303 (by decide) ?_
                  refine lv_istore (lv' := [(20, .int (nI 0)), (19, .int (nI 0)), (18, .int (nI v9)), (17, .int (nI m9)), (16, .int (nI n3)), (15, .int (bI true)), (14, .int (nI (enR (foR fo9)))), (0, .ref o), (1, .ref (b 0)), (2, .ref (b 1)), (3, .ref (b 2)), (4, .ref (b 3)), (5, .ref (b 4)), (6, .ref (b 5)), (8, .int (nI k)), (9, .int (nI l9)), (10, .int (nI x)), (11, .int (nI u)), (12, .int (nI kd))]) hx hb dL_isTold_304 hl (by decide) rfl (fun ls hl => ?_)
                  refine lv_iconst (v := nI 0) hx hb dL_isTold_306 (by decide) ?_
                  refine lv_istore (lv' := [(21, .int (nI 0)), (20, .int (nI 0)), (19, .int (nI 0)), (18, .int (nI v9)), (17, .int (nI m9)), (16, .int (nI n3)), (15, .int (bI true)), (14, .int (nI (enR (foR fo9)))), (0, .ref o), (1, .ref (b 0)), (2, .ref (b 1)), (3, .ref (b 2)), (4, .ref (b 3)), (5, .ref (b 4)), (6, .ref (b 5)), (8, .int (nI k)), (9, .int (nI l9)), (10, .int (nI x)), (11, .int (nI u)), (12, .int (nI kd))]) hx hb dL_isTold_307 hl (by decide) rfl (fun ls hl => ?_)
                  refine (?_ : ∀ (n9e : Nat) (i9 : Nat) (n4 : Nat) (n5 : Nat) (locs : List Loc) (ls : Array Slot), i9 ≤ 9 → 9 < i9 + n9e → n4 = cntN (fun j => (fm (54 * v9 + j)).isSome) i9 → n5 = cntN (fun j => (fm (54 * v9 + 9 * l9 + j)).isSome) i9 → va_S A s.heap H locs → lv_has ls 22 [(21, .int (nI i9)), (20, .int (nI n5)), (19, .int (nI n4)), (18, .int (nI v9)), (17, .int (nI m9)), (16, .int (nI n3)), (15, .int (bI true)), (14, .int (nI (enR (foR fo9)))), (0, .ref o), (1, .ref (b 0)), (2, .ref (b 1)), (3, .ref (b 2)), (4, .ref (b 3)), (5, .ref (b 4)), (6, .ref (b 5)), (8, .int (nI k)), (9, .int (nI l9)), (10, .int (nI x)), (11, .int (nI u)), (12, .int (nI kd))] → W p l e _ s m args below meth c H locs 42 252 _ (F0 m 309 ls [])) (9 + 1) 0 0 0 _ ls (by omega) (by omega) rfl rfl hS (lv_sub hl [0, 1, 2, 3, 4, 5, 6, 7, 8, 9, 10, 11, 12, 13, 14, 15, 16, 17, 18, 19] rfl)
                  clear hS hl
                  intro n9e
                  induction n9e with
                  | zero => intro i9 n4 n5 locs ls hi9 hn9; exact absurd hn9 (by omega)
                  | succ n9e ihe =>
                    intro i9 n4 n5 locs ls hi9e hn9e hs9 ho9 hS hl
                    refine lv_iload hx hb dL_isTold_309 (lv_at hl 0 rfl) ?_
                    refine lv_bipush (v := nI 9) hx hb dL_isTold_311 (by decide) ?_
                    refine m_icmp_ge (tgt := 374) hx hb (by omega) (by omega) dL_isTold_313 (by decide) (fun c_313 => ?_) (fun c_313 => ?_)
                    · have hs9 : n4 = cntF fm (54 * v9) := by rw [hs9, show i9 = 9 by omega]; rfl
                      have ho9 : n5 = cntF fm (54 * v9 + 9 * l9) := by rw [ho9, show i9 = 9 by omega]; rfl
                      have hn4 := cntF_le fm (54 * v9)
                      have hn5 := cntF_le fm (54 * v9 + 9 * l9)
                      refine lv_iload hx hb dL_isTold_374 (lv_at hl 4 rfl) ?_
                      refine lv_iload hx hb dL_isTold_376 (lv_at hl 2 rfl) ?_
                      refine m_if_le (tgt := 390) hx hb (by omega) dL_isTold_378 (by decide) (fun c_378 => ?_) (fun c_378 => ?_)
                      · refine lv_iconst (v := nI 0) hx hb dL_isTold_390 (by decide) ?_
                        refine m_iadd hx hb dL_isTold_391 ?_
                        refine lv_istore (lv' := [(17, .int (nI (m9 + 0))), (21, .int (nI i9)), (20, .int (nI n5)), (19, .int (nI n4)), (18, .int (nI v9)), (16, .int (nI n3)), (15, .int (bI true)), (14, .int (nI (enR (foR fo9)))), (0, .ref o), (1, .ref (b 0)), (2, .ref (b 1)), (3, .ref (b 2)), (4, .ref (b 3)), (5, .ref (b 4)), (6, .ref (b 5)), (8, .int (nI k)), (9, .int (nI l9)), (10, .int (nI x)), (11, .int (nI u)), (12, .int (nI kd))]) hx hb dL_isTold_392 hl (by decide) rfl (fun ls hl => ?_)
                        refine lv_iinc (v := nI (v9 + 1)) (lv' := [(18, .int (nI (v9 + 1))), (17, .int (nI (m9 + 0))), (21, .int (nI i9)), (20, .int (nI n5)), (19, .int (nI n4)), (16, .int (nI n3)), (15, .int (bI true)), (14, .int (nI (enR (foR fo9)))), (0, .ref o), (1, .ref (b 0)), (2, .ref (b 1)), (3, .ref (b 2)), (4, .ref (b 3)), (5, .ref (b 4)), (6, .ref (b 5)), (8, .int (nI k)), (9, .int (nI l9)), (10, .int (nI x)), (11, .int (nI u)), (12, .int (nI kd))]) hx hb dL_isTold_394 hl (k := 4) rfl (m_inc _) (by decide) rfl (fun ls hl => ?_)
                        refine lv_goto (tgt := 294) hx hb dL_isTold_397 (by decide) ?_
                        exact ihd (v9 + 1) (m9 + 0) _ ls (by omega) (by omega) (by show _ = cntN (fun k => decide (0 < cntF fm (54 * k)) && decide (cntF fm (54 * k + 9 * l9) = 0)) v9 + (if (decide (0 < cntF fm (54 * v9)) && decide (cntF fm (54 * v9 + 9 * l9) = 0)) = true then 1 else 0); rw [← (show m9 = cntN (fun k => decide (0 < cntF fm (54 * k)) && decide (cntF fm (54 * k + 9 * l9) = 0)) v9 from hm9), ← hs9, ← ho9, show decide (0 < n4) = false from decide_eq_false (by omega), Bool.false_and]; rfl) hS (lv_sub hl [0, 1, 5, 6, 7, 8, 9, 10, 11, 12, 13, 14, 15, 16, 17, 18, 19] rfl)
                      · refine lv_iload hx hb dL_isTold_381 (lv_at hl 1 rfl) ?_
                        refine m_if_ne (tgt := 390) hx hb (by omega) dL_isTold_383 (by decide) (fun c_383 => ?_) (fun c_383 => ?_)
                        · refine lv_iconst (v := nI 0) hx hb dL_isTold_390 (by decide) ?_
                          refine m_iadd hx hb dL_isTold_391 ?_
                          refine lv_istore (lv' := [(17, .int (nI (m9 + 0))), (21, .int (nI i9)), (20, .int (nI n5)), (19, .int (nI n4)), (18, .int (nI v9)), (16, .int (nI n3)), (15, .int (bI true)), (14, .int (nI (enR (foR fo9)))), (0, .ref o), (1, .ref (b 0)), (2, .ref (b 1)), (3, .ref (b 2)), (4, .ref (b 3)), (5, .ref (b 4)), (6, .ref (b 5)), (8, .int (nI k)), (9, .int (nI l9)), (10, .int (nI x)), (11, .int (nI u)), (12, .int (nI kd))]) hx hb dL_isTold_392 hl (by decide) rfl (fun ls hl => ?_)
                          refine lv_iinc (v := nI (v9 + 1)) (lv' := [(18, .int (nI (v9 + 1))), (17, .int (nI (m9 + 0))), (21, .int (nI i9)), (20, .int (nI n5)), (19, .int (nI n4)), (16, .int (nI n3)), (15, .int (bI true)), (14, .int (nI (enR (foR fo9)))), (0, .ref o), (1, .ref (b 0)), (2, .ref (b 1)), (3, .ref (b 2)), (4, .ref (b 3)), (5, .ref (b 4)), (6, .ref (b 5)), (8, .int (nI k)), (9, .int (nI l9)), (10, .int (nI x)), (11, .int (nI u)), (12, .int (nI kd))]) hx hb dL_isTold_394 hl (k := 4) rfl (m_inc _) (by decide) rfl (fun ls hl => ?_)
                          refine lv_goto (tgt := 294) hx hb dL_isTold_397 (by decide) ?_
                          exact ihd (v9 + 1) (m9 + 0) _ ls (by omega) (by omega) (by show _ = cntN (fun k => decide (0 < cntF fm (54 * k)) && decide (cntF fm (54 * k + 9 * l9) = 0)) v9 + (if (decide (0 < cntF fm (54 * v9)) && decide (cntF fm (54 * v9 + 9 * l9) = 0)) = true then 1 else 0); rw [← (show m9 = cntN (fun k => decide (0 < cntF fm (54 * k)) && decide (cntF fm (54 * k + 9 * l9) = 0)) v9 from hm9), ← hs9, ← ho9, show decide (0 < n4) = true from decide_eq_true (by omega), show decide (n5 = 0) = false from decide_eq_false (by omega)]; rfl) hS (lv_sub hl [0, 1, 5, 6, 7, 8, 9, 10, 11, 12, 13, 14, 15, 16, 17, 18, 19] rfl)
                        · refine lv_iconst (v := nI 1) hx hb dL_isTold_386 (by decide) ?_
                          refine lv_goto (tgt := 391) hx hb dL_isTold_387 (by decide) ?_
                          refine m_iadd hx hb dL_isTold_391 ?_
                          refine lv_istore (lv' := [(17, .int (nI (m9 + 1))), (21, .int (nI i9)), (20, .int (nI n5)), (19, .int (nI n4)), (18, .int (nI v9)), (16, .int (nI n3)), (15, .int (bI true)), (14, .int (nI (enR (foR fo9)))), (0, .ref o), (1, .ref (b 0)), (2, .ref (b 1)), (3, .ref (b 2)), (4, .ref (b 3)), (5, .ref (b 4)), (6, .ref (b 5)), (8, .int (nI k)), (9, .int (nI l9)), (10, .int (nI x)), (11, .int (nI u)), (12, .int (nI kd))]) hx hb dL_isTold_392 hl (by decide) rfl (fun ls hl => ?_)
                          refine lv_iinc (v := nI (v9 + 1)) (lv' := [(18, .int (nI (v9 + 1))), (17, .int (nI (m9 + 1))), (21, .int (nI i9)), (20, .int (nI n5)), (19, .int (nI n4)), (16, .int (nI n3)), (15, .int (bI true)), (14, .int (nI (enR (foR fo9)))), (0, .ref o), (1, .ref (b 0)), (2, .ref (b 1)), (3, .ref (b 2)), (4, .ref (b 3)), (5, .ref (b 4)), (6, .ref (b 5)), (8, .int (nI k)), (9, .int (nI l9)), (10, .int (nI x)), (11, .int (nI u)), (12, .int (nI kd))]) hx hb dL_isTold_394 hl (k := 4) rfl (m_inc _) (by decide) rfl (fun ls hl => ?_)
                          refine lv_goto (tgt := 294) hx hb dL_isTold_397 (by decide) ?_
                          exact ihd (v9 + 1) (m9 + 1) _ ls (by omega) (by omega) (by show _ = cntN (fun k => decide (0 < cntF fm (54 * k)) && decide (cntF fm (54 * k + 9 * l9) = 0)) v9 + (if (decide (0 < cntF fm (54 * v9)) && decide (cntF fm (54 * v9 + 9 * l9) = 0)) = true then 1 else 0); rw [← (show m9 = cntN (fun k => decide (0 < cntF fm (54 * k)) && decide (cntF fm (54 * k + 9 * l9) = 0)) v9 from hm9), ← hs9, ← ho9, show decide (0 < n4) = true from decide_eq_true (by omega), show decide (n5 = 0) = true from decide_eq_true (by omega)]; rfl) hS (lv_sub hl [0, 1, 5, 6, 7, 8, 9, 10, 11, 12, 13, 14, 15, 16, 17, 18, 19] rfl)
                    · have hb6 := (hfm.1 (54 * v9 + i9)).g.lt0
                      have hb7 := (hfm.1 (54 * v9 + 9 * l9 + i9)).g.lt0
                      refine lv_iload hx hb dL_isTold_316 (lv_at hl 2 rfl) ?_
                      refine lv_aload_n hx hb dL_isTold_318 rfl (lv_at hl 9 rfl) ?_
                      refine lv_bipush (v := nI 27) hx hb dL_isTold_319 (by decide) ?_
                      refine lv_iload hx hb dL_isTold_321 (lv_at hl 3 rfl) ?_
                      refine m_imul hx hb dL_isTold_323 ?_
                      refine lv_iload hx hb dL_isTold_324 (lv_at hl 0 rfl) ?_
                      refine m_iadd hx hb dL_isTold_326 ?_
                      refine m_iald hx hb hE.k hP 0 rfl (by omega) (by omega) (hf.r0 (by omega) (by omega)) dL_isTold_327 ?_
                      refine m_if_le (tgt := 335) hx hb (by omega) dL_isTold_328 (by decide) (fun c_328 => ?_) (fun c_328 => ?_)
                      · refine lv_iconst (v := nI 0) hx hb dL_isTold_335 (by decide) ?_
                        refine m_iadd hx hb dL_isTold_336 ?_
                        refine lv_istore (lv' := [(19, .int (nI (n4 + 0))), (21, .int (nI i9)), (20, .int (nI n5)), (18, .int (nI v9)), (17, .int (nI m9)), (16, .int (nI n3)), (15, .int (bI true)), (14, .int (nI (enR (foR fo9)))), (0, .ref o), (1, .ref (b 0)), (2, .ref (b 1)), (3, .ref (b 2)), (4, .ref (b 3)), (5, .ref (b 4)), (6, .ref (b 5)), (8, .int (nI k)), (9, .int (nI l9)), (10, .int (nI x)), (11, .int (nI u)), (12, .int (nI kd))]) hx hb dL_isTold_337 hl (by decide) rfl (fun ls hl => ?_)
                        refine lv_iload hx hb dL_isTold_339 (lv_at hl 2 rfl) ?_
                        refine lv_aload_n hx hb dL_isTold_341 rfl (lv_at hl 9 rfl) ?_
                        refine lv_bipush (v := nI 27) hx hb dL_isTold_342 (by decide) ?_
                        refine lv_iload hx hb dL_isTold_344 (lv_at hl 3 rfl) ?_
                        refine m_imul hx hb dL_isTold_346 ?_
                        refine lv_bipush (v := nI 9) hx hb dL_isTold_347 (by decide) ?_
                        refine lv_iload hx hb dL_isTold_349 (lv_at hl 16 rfl) ?_
                        refine m_imul hx hb dL_isTold_351 ?_
                        refine m_iadd hx hb dL_isTold_352 ?_
                        refine lv_iload hx hb dL_isTold_353 (lv_at hl 1 rfl) ?_
                        refine m_iadd hx hb dL_isTold_355 ?_
                        refine m_iald hx hb hE.k hP 0 rfl (by omega) (by omega) (hf v9 l9 i9 (by omega) hl9 (by omega)) dL_isTold_356 ?_
                        refine m_if_le (tgt := 364) hx hb (by omega) dL_isTold_357 (by decide) (fun c_357 => ?_) (fun c_357 => ?_)
                        · refine lv_iconst (v := nI 0) hx hb dL_isTold_364 (by decide) ?_
                          refine m_iadd hx hb dL_isTold_365 ?_
                          refine lv_istore (lv' := [(20, .int (nI (n5 + 0))), (19, .int (nI (n4 + 0))), (21, .int (nI i9)), (18, .int (nI v9)), (17, .int (nI m9)), (16, .int (nI n3)), (15, .int (bI true)), (14, .int (nI (enR (foR fo9)))), (0, .ref o), (1, .ref (b 0)), (2, .ref (b 1)), (3, .ref (b 2)), (4, .ref (b 3)), (5, .ref (b 4)), (6, .ref (b 5)), (8, .int (nI k)), (9, .int (nI l9)), (10, .int (nI x)), (11, .int (nI u)), (12, .int (nI kd))]) hx hb dL_isTold_366 hl (by decide) rfl (fun ls hl => ?_)
                          refine lv_iinc (v := nI (i9 + 1)) (lv' := [(21, .int (nI (i9 + 1))), (20, .int (nI (n5 + 0))), (19, .int (nI (n4 + 0))), (18, .int (nI v9)), (17, .int (nI m9)), (16, .int (nI n3)), (15, .int (bI true)), (14, .int (nI (enR (foR fo9)))), (0, .ref o), (1, .ref (b 0)), (2, .ref (b 1)), (3, .ref (b 2)), (4, .ref (b 3)), (5, .ref (b 4)), (6, .ref (b 5)), (8, .int (nI k)), (9, .int (nI l9)), (10, .int (nI x)), (11, .int (nI u)), (12, .int (nI kd))]) hx hb dL_isTold_368 hl (k := 2) rfl (m_inc _) (by decide) rfl (fun ls hl => ?_)
                          refine lv_goto (tgt := 309) hx hb dL_isTold_371 (by decide) ?_
                          exact ihe (i9 + 1) (n4 + 0) (n5 + 0) _ ls (by omega) (by omega) (by show _ = cntN (fun j => (fm (54 * v9 + j)).isSome) i9 + (if (fm (54 * v9 + i9)).isSome = true then 1 else 0); rw [← hs9, show (fm (54 * v9 + i9)).isSome = false by rw [(hfm.1 (54 * v9 + i9)).zero c_328]; rfl]; rfl) (by show _ = cntN (fun j => (fm (54 * v9 + 9 * l9 + j)).isSome) i9 + (if (fm (54 * v9 + 9 * l9 + i9)).isSome = true then 1 else 0); rw [← ho9, show (fm (54 * v9 + 9 * l9 + i9)).isSome = false by rw [(hfm.1 (54 * v9 + 9 * l9 + i9)).zero c_357]; rfl]; rfl) hS (lv_sub hl [0, 1, 2, 3, 4, 5, 6, 7, 8, 9, 10, 11, 12, 13, 14, 15, 16, 17, 18, 19] rfl)
                        · refine lv_iconst (v := nI 1) hx hb dL_isTold_360 (by decide) ?_
                          refine lv_goto (tgt := 365) hx hb dL_isTold_361 (by decide) ?_
                          refine m_iadd hx hb dL_isTold_365 ?_
                          refine lv_istore (lv' := [(20, .int (nI (n5 + 1))), (19, .int (nI (n4 + 0))), (21, .int (nI i9)), (18, .int (nI v9)), (17, .int (nI m9)), (16, .int (nI n3)), (15, .int (bI true)), (14, .int (nI (enR (foR fo9)))), (0, .ref o), (1, .ref (b 0)), (2, .ref (b 1)), (3, .ref (b 2)), (4, .ref (b 3)), (5, .ref (b 4)), (6, .ref (b 5)), (8, .int (nI k)), (9, .int (nI l9)), (10, .int (nI x)), (11, .int (nI u)), (12, .int (nI kd))]) hx hb dL_isTold_366 hl (by decide) rfl (fun ls hl => ?_)
                          refine lv_iinc (v := nI (i9 + 1)) (lv' := [(21, .int (nI (i9 + 1))), (20, .int (nI (n5 + 1))), (19, .int (nI (n4 + 0))), (18, .int (nI v9)), (17, .int (nI m9)), (16, .int (nI n3)), (15, .int (bI true)), (14, .int (nI (enR (foR fo9)))), (0, .ref o), (1, .ref (b 0)), (2, .ref (b 1)), (3, .ref (b 2)), (4, .ref (b 3)), (5, .ref (b 4)), (6, .ref (b 5)), (8, .int (nI k)), (9, .int (nI l9)), (10, .int (nI x)), (11, .int (nI u)), (12, .int (nI kd))]) hx hb dL_isTold_368 hl (k := 2) rfl (m_inc _) (by decide) rfl (fun ls hl => ?_)
                          refine lv_goto (tgt := 309) hx hb dL_isTold_371 (by decide) ?_
                          exact ihe (i9 + 1) (n4 + 0) (n5 + 1) _ ls (by omega) (by omega) (by show _ = cntN (fun j => (fm (54 * v9 + j)).isSome) i9 + (if (fm (54 * v9 + i9)).isSome = true then 1 else 0); rw [← hs9, show (fm (54 * v9 + i9)).isSome = false by rw [(hfm.1 (54 * v9 + i9)).zero c_328]; rfl]; rfl) (by show _ = cntN (fun j => (fm (54 * v9 + 9 * l9 + j)).isSome) i9 + (if (fm (54 * v9 + 9 * l9 + i9)).isSome = true then 1 else 0); rw [← ho9, show (fm (54 * v9 + 9 * l9 + i9)).isSome = true from (hfm.1 (54 * v9 + 9 * l9 + i9)).pos.mp (by omega)]; rfl) hS (lv_sub hl [0, 1, 2, 3, 4, 5, 6, 7, 8, 9, 10, 11, 12, 13, 14, 15, 16, 17, 18, 19] rfl)
                      · refine lv_iconst (v := nI 1) hx hb dL_isTold_331 (by decide) ?_
                        refine lv_goto (tgt := 336) hx hb dL_isTold_332 (by decide) ?_
                        refine m_iadd hx hb dL_isTold_336 ?_
                        refine lv_istore (lv' := [(19, .int (nI (n4 + 1))), (21, .int (nI i9)), (20, .int (nI n5)), (18, .int (nI v9)), (17, .int (nI m9)), (16, .int (nI n3)), (15, .int (bI true)), (14, .int (nI (enR (foR fo9)))), (0, .ref o), (1, .ref (b 0)), (2, .ref (b 1)), (3, .ref (b 2)), (4, .ref (b 3)), (5, .ref (b 4)), (6, .ref (b 5)), (8, .int (nI k)), (9, .int (nI l9)), (10, .int (nI x)), (11, .int (nI u)), (12, .int (nI kd))]) hx hb dL_isTold_337 hl (by decide) rfl (fun ls hl => ?_)
                        refine lv_iload hx hb dL_isTold_339 (lv_at hl 2 rfl) ?_
                        refine lv_aload_n hx hb dL_isTold_341 rfl (lv_at hl 9 rfl) ?_
                        refine lv_bipush (v := nI 27) hx hb dL_isTold_342 (by decide) ?_
                        refine lv_iload hx hb dL_isTold_344 (lv_at hl 3 rfl) ?_
                        refine m_imul hx hb dL_isTold_346 ?_
                        refine lv_bipush (v := nI 9) hx hb dL_isTold_347 (by decide) ?_
                        refine lv_iload hx hb dL_isTold_349 (lv_at hl 16 rfl) ?_
                        refine m_imul hx hb dL_isTold_351 ?_
                        refine m_iadd hx hb dL_isTold_352 ?_
                        refine lv_iload hx hb dL_isTold_353 (lv_at hl 1 rfl) ?_
                        refine m_iadd hx hb dL_isTold_355 ?_
                        refine m_iald hx hb hE.k hP 0 rfl (by omega) (by omega) (hf v9 l9 i9 (by omega) hl9 (by omega)) dL_isTold_356 ?_
                        refine m_if_le (tgt := 364) hx hb (by omega) dL_isTold_357 (by decide) (fun c_357 => ?_) (fun c_357 => ?_)
                        · refine lv_iconst (v := nI 0) hx hb dL_isTold_364 (by decide) ?_
                          refine m_iadd hx hb dL_isTold_365 ?_
                          refine lv_istore (lv' := [(20, .int (nI (n5 + 0))), (19, .int (nI (n4 + 1))), (21, .int (nI i9)), (18, .int (nI v9)), (17, .int (nI m9)), (16, .int (nI n3)), (15, .int (bI true)), (14, .int (nI (enR (foR fo9)))), (0, .ref o), (1, .ref (b 0)), (2, .ref (b 1)), (3, .ref (b 2)), (4, .ref (b 3)), (5, .ref (b 4)), (6, .ref (b 5)), (8, .int (nI k)), (9, .int (nI l9)), (10, .int (nI x)), (11, .int (nI u)), (12, .int (nI kd))]) hx hb dL_isTold_366 hl (by decide) rfl (fun ls hl => ?_)
                          refine lv_iinc (v := nI (i9 + 1)) (lv' := [(21, .int (nI (i9 + 1))), (20, .int (nI (n5 + 0))), (19, .int (nI (n4 + 1))), (18, .int (nI v9)), (17, .int (nI m9)), (16, .int (nI n3)), (15, .int (bI true)), (14, .int (nI (enR (foR fo9)))), (0, .ref o), (1, .ref (b 0)), (2, .ref (b 1)), (3, .ref (b 2)), (4, .ref (b 3)), (5, .ref (b 4)), (6, .ref (b 5)), (8, .int (nI k)), (9, .int (nI l9)), (10, .int (nI x)), (11, .int (nI u)), (12, .int (nI kd))]) hx hb dL_isTold_368 hl (k := 2) rfl (m_inc _) (by decide) rfl (fun ls hl => ?_)
                          refine lv_goto (tgt := 309) hx hb dL_isTold_371 (by decide) ?_
                          exact ihe (i9 + 1) (n4 + 1) (n5 + 0) _ ls (by omega) (by omega) (by show _ = cntN (fun j => (fm (54 * v9 + j)).isSome) i9 + (if (fm (54 * v9 + i9)).isSome = true then 1 else 0); rw [← hs9, show (fm (54 * v9 + i9)).isSome = true from (hfm.1 (54 * v9 + i9)).pos.mp (by omega)]; rfl) (by show _ = cntN (fun j => (fm (54 * v9 + 9 * l9 + j)).isSome) i9 + (if (fm (54 * v9 + 9 * l9 + i9)).isSome = true then 1 else 0); rw [← ho9, show (fm (54 * v9 + 9 * l9 + i9)).isSome = false by rw [(hfm.1 (54 * v9 + 9 * l9 + i9)).zero c_357]; rfl]; rfl) hS (lv_sub hl [0, 1, 2, 3, 4, 5, 6, 7, 8, 9, 10, 11, 12, 13, 14, 15, 16, 17, 18, 19] rfl)
                        · refine lv_iconst (v := nI 1) hx hb dL_isTold_360 (by decide) ?_
                          refine lv_goto (tgt := 365) hx hb dL_isTold_361 (by decide) ?_
                          refine m_iadd hx hb dL_isTold_365 ?_
                          refine lv_istore (lv' := [(20, .int (nI (n5 + 1))), (19, .int (nI (n4 + 1))), (21, .int (nI i9)), (18, .int (nI v9)), (17, .int (nI m9)), (16, .int (nI n3)), (15, .int (bI true)), (14, .int (nI (enR (foR fo9)))), (0, .ref o), (1, .ref (b 0)), (2, .ref (b 1)), (3, .ref (b 2)), (4, .ref (b 3)), (5, .ref (b 4)), (6, .ref (b 5)), (8, .int (nI k)), (9, .int (nI l9)), (10, .int (nI x)), (11, .int (nI u)), (12, .int (nI kd))]) hx hb dL_isTold_366 hl (by decide) rfl (fun ls hl => ?_)
                          refine lv_iinc (v := nI (i9 + 1)) (lv' := [(21, .int (nI (i9 + 1))), (20, .int (nI (n5 + 1))), (19, .int (nI (n4 + 1))), (18, .int (nI v9)), (17, .int (nI m9)), (16, .int (nI n3)), (15, .int (bI true)), (14, .int (nI (enR (foR fo9)))), (0, .ref o), (1, .ref (b 0)), (2, .ref (b 1)), (3, .ref (b 2)), (4, .ref (b 3)), (5, .ref (b 4)), (6, .ref (b 5)), (8, .int (nI k)), (9, .int (nI l9)), (10, .int (nI x)), (11, .int (nI u)), (12, .int (nI kd))]) hx hb dL_isTold_368 hl (k := 2) rfl (m_inc _) (by decide) rfl (fun ls hl => ?_)
                          refine lv_goto (tgt := 309) hx hb dL_isTold_371 (by decide) ?_
                          exact ihe (i9 + 1) (n4 + 1) (n5 + 1) _ ls (by omega) (by omega) (by show _ = cntN (fun j => (fm (54 * v9 + j)).isSome) i9 + (if (fm (54 * v9 + i9)).isSome = true then 1 else 0); rw [← hs9, show (fm (54 * v9 + i9)).isSome = true from (hfm.1 (54 * v9 + i9)).pos.mp (by omega)]; rfl) (by show _ = cntN (fun j => (fm (54 * v9 + 9 * l9 + j)).isSome) i9 + (if (fm (54 * v9 + 9 * l9 + i9)).isSome = true then 1 else 0); rw [← ho9, show (fm (54 * v9 + 9 * l9 + i9)).isSome = true from (hfm.1 (54 * v9 + 9 * l9 + i9)).pos.mp (by omega)]; rfl) hS (lv_sub hl [0, 1, 2, 3, 4, 5, 6, 7, 8, 9, 10, 11, 12, 13, 14, 15, 16, 17, 18, 19] rfl)
            · have hb7 := (hfm.1 (54 * k + 9 * l9 + i9)).g.lt0
              have hn7 := cntN_le (fun j => (fm (54 * k + 9 * l9 + j)).isSome) i9
              refine lv_iload hx hb dL_isTold_256 (lv_at hl 1 rfl) ?_
              refine lv_aload_n hx hb dL_isTold_258 rfl (lv_at hl 6 rfl) ?_
              refine lv_bipush (v := nI 27) hx hb dL_isTold_259 (by decide) ?_
              refine lv_iload hx hb dL_isTold_261 (lv_at hl 12 rfl) ?_
              refine m_imul hx hb dL_isTold_263 ?_
              refine lv_bipush (v := nI 9) hx hb dL_isTold_264 (by decide) ?_
              refine lv_iload hx hb dL_isTold_266 (lv_at hl 13 rfl) ?_
              refine m_imul hx hb dL_isTold_268 ?_
              refine m_iadd hx hb dL_isTold_269 ?_
              refine lv_iload hx hb dL_isTold_270 (lv_at hl 0 rfl) ?_
              refine m_iadd hx hb dL_isTold_272 ?_
              refine m_iald hx hb hE.k hP 0 rfl (by omega) (by omega) (hf k l9 i9 hk9 hl9 (by omega)) dL_isTold_273 ?_
              refine m_if_le (tgt := 281) hx hb (by omega) dL_isTold_274 (by decide) (fun c_274 => ?_) (fun c_274 => ?_)
              · refine lv_iconst (v := nI 0) hx hb dL_isTold_281 (by decide) ?_
                refine m_iadd hx hb dL_isTold_282 ?_
                refine lv_istore (lv' := [(16, .int (nI (n3 + 0))), (18, .int (nI i9)), (17, .int (nI 0)), (15, .int (bI true)), (14, .int (nI (enR (foR fo9)))), (0, .ref o), (1, .ref (b 0)), (2, .ref (b 1)), (3, .ref (b 2)), (4, .ref (b 3)), (5, .ref (b 4)), (6, .ref (b 5)), (8, .int (nI k)), (9, .int (nI l9)), (10, .int (nI x)), (11, .int (nI u)), (12, .int (nI kd))]) hx hb dL_isTold_283 hl (by decide) rfl (fun ls hl => ?_)
                refine lv_iinc (v := nI (i9 + 1)) (lv' := [(18, .int (nI (i9 + 1))), (16, .int (nI (n3 + 0))), (17, .int (nI 0)), (15, .int (bI true)), (14, .int (nI (enR (foR fo9)))), (0, .ref o), (1, .ref (b 0)), (2, .ref (b 1)), (3, .ref (b 2)), (4, .ref (b 3)), (5, .ref (b 4)), (6, .ref (b 5)), (8, .int (nI k)), (9, .int (nI l9)), (10, .int (nI x)), (11, .int (nI u)), (12, .int (nI kd))]) hx hb dL_isTold_285 hl (k := 1) rfl (m_inc _) (by decide) rfl (fun ls hl => ?_)
                refine lv_goto (tgt := 249) hx hb dL_isTold_288 (by decide) ?_
                exact ihc (i9 + 1) (n3 + 0) _ ls (by omega) (by omega) (by show _ = cntN (fun j => (fm (54 * k + 9 * l9 + j)).isSome) i9 + (if (fm (54 * k + 9 * l9 + i9)).isSome = true then 1 else 0); rw [← hn3, show (fm (54 * k + 9 * l9 + i9)).isSome = false by rw [(hfm.1 (54 * k + 9 * l9 + i9)).zero c_274]; rfl]; rfl) hS (lv_sub hl [0, 1, 2, 3, 4, 5, 6, 7, 8, 9, 10, 11, 12, 13, 14, 15, 16] rfl)
              · refine lv_iconst (v := nI 1) hx hb dL_isTold_277 (by decide) ?_
                refine lv_goto (tgt := 282) hx hb dL_isTold_278 (by decide) ?_
                refine m_iadd hx hb dL_isTold_282 ?_
                refine lv_istore (lv' := [(16, .int (nI (n3 + 1))), (18, .int (nI i9)), (17, .int (nI 0)), (15, .int (bI true)), (14, .int (nI (enR (foR fo9)))), (0, .ref o), (1, .ref (b 0)), (2, .ref (b 1)), (3, .ref (b 2)), (4, .ref (b 3)), (5, .ref (b 4)), (6, .ref (b 5)), (8, .int (nI k)), (9, .int (nI l9)), (10, .int (nI x)), (11, .int (nI u)), (12, .int (nI kd))]) hx hb dL_isTold_283 hl (by decide) rfl (fun ls hl => ?_)
                refine lv_iinc (v := nI (i9 + 1)) (lv' := [(18, .int (nI (i9 + 1))), (16, .int (nI (n3 + 1))), (17, .int (nI 0)), (15, .int (bI true)), (14, .int (nI (enR (foR fo9)))), (0, .ref o), (1, .ref (b 0)), (2, .ref (b 1)), (3, .ref (b 2)), (4, .ref (b 3)), (5, .ref (b 4)), (6, .ref (b 5)), (8, .int (nI k)), (9, .int (nI l9)), (10, .int (nI x)), (11, .int (nI u)), (12, .int (nI kd))]) hx hb dL_isTold_285 hl (k := 1) rfl (m_inc _) (by decide) rfl (fun ls hl => ?_)
                refine lv_goto (tgt := 249) hx hb dL_isTold_288 (by decide) ?_
                exact ihc (i9 + 1) (n3 + 1) _ ls (by omega) (by omega) (by show _ = cntN (fun j => (fm (54 * k + 9 * l9 + j)).isSome) i9 + (if (fm (54 * k + 9 * l9 + i9)).isSome = true then 1 else 0); rw [← hn3, show (fm (54 * k + 9 * l9 + i9)).isSome = true from (hfm.1 (54 * k + 9 * l9 + i9)).pos.mp (by omega)]; rfl) hS (lv_sub hl [0, 1, 2, 3, 4, 5, 6, 7, 8, 9, 10, 11, 12, 13, 14, 15, 16] rfl)
        · refine lv_iload hx hb dL_isTold_183 (lv_at hl 1 rfl) ?_
          refine m_if_eq_b (tgt := 240) hx hb dL_isTold_185 (by decide) (fun c_185 => ?_) (fun c_185 => ?_)
          · exact absurd c_185 (by first | decide | exact (show ¬ false = true by decide) | exact (show ¬ true = false by decide))
          · refine lv_aload_n hx hb dL_isTold_188 rfl (lv_at hl 3 rfl) ?_
            refine lv_iload hx hb dL_isTold_189 (lv_at hl 10 rfl) ?_
            refine lv_iload hx hb dL_isTold_191 (lv_at hl 11 rfl) ?_
            refine lv_iload hx hb dL_isTold_193 (lv_at hl 12 rfl) ?_
            refine lv_iload hx hb dL_isTold_195 (lv_at hl 13 rfl) ?_
            refine lv_iload hx hb dL_isTold_197 (lv_at hl 0 rfl) ?_
            have hc := hc9.same hsm
            refine m_cWi (rest := []) ⟨hx, hb, hml, hown, hts⟩ hE hS hsub (kL_signTold l K Ac _ hl0 o ad fb on fw dr fm vs ch ps hc k l9 x u v (by omega) (by omega) (by omega) hu9 (by omega)) (vx_cwSW 6 hts gL_isTold_L_signTold rfl rfl rfl (by decide +kernel) ⟨Nat.le_of_ble_eq_true rfl, Nat.le_of_ble_eq_true rfl⟩) rfl rfl hl.1 rfl (Nat.le_of_ble_eq_true rfl) dL_isTold_199 ⟨by show _ ≤ 130; omega, by show _ ≤ 1600; omega⟩ (fun r Hx1 locs hp hS hk => ?_)
            obtain ⟨hr9, hsm1⟩ := hp
            rw [hsg v (by omega)] at hr9
            have hsm := hsm.trans hsm1
            have hP := hsm.P hP0
            refine lv_iload hx hb dL_isTold_202 (lv_at hl 0 rfl) ?_
            refine lv_iload hx hb dL_isTold_204 (lv_at hl 2 rfl) ?_
            refine m_cSi (rest := [.int (nI v), .int r]) ⟨hx, hb, hml, hown, hts⟩ hE hS (fun _ h => h) (kL_size l K A _ (foR fo9) hR9) (va_cwS 1 hts gL_isTold_L_size rfl rfl rfl (by decide +kernel) ⟨Nat.le_of_ble_eq_true rfl, Nat.le_of_ble_eq_true rfl⟩) rfl rfl hl.1 rfl (Nat.le_of_ble_eq_true rfl) dL_isTold_206 ⟨by show _ ≤ 130; omega, by show _ ≤ 1600; omega⟩ (fun r H1 locs hp hS hk => ?_)
            obtain ⟨rfl, rfl⟩ := hp
            refine m_icmp_ge (tgt := 222) hx hb (by omega) (by omega) dL_isTold_209 (by decide) (fun c_209 => ?_) (fun c_209 => ?_)
            · rw [if_neg (by omega)] at hr9
              subst hr9
              refine lv_bipush (v := (-5)) hx hb dL_isTold_222 (by decide) ?_
              refine lv_icmp_ne (tgt := 231) hx hb dL_isTold_224 (by decide) (fun c_224 => ?_) (fun c_224 => ?_)
              · exact absurd rfl c_224
              · refine lv_iconst (v := nI 1) hx hb dL_isTold_227 (by decide) ?_
                refine lv_goto (tgt := 232) hx hb dL_isTold_228 (by decide) ?_
                refine W.eq (g2 := F0 m 232 ls [.int (bI true)]) (by rfl) ?_
                refine lv_istore (lv' := [(15, .int (bI true)), (16, .int (nI v)), (14, .int (nI (enR (foR fo9)))), (0, .ref o), (1, .ref (b 0)), (2, .ref (b 1)), (3, .ref (b 2)), (4, .ref (b 3)), (5, .ref (b 4)), (6, .ref (b 5)), (8, .int (nI k)), (9, .int (nI l9)), (10, .int (nI x)), (11, .int (nI u)), (12, .int (nI kd))]) hx hb dL_isTold_232 hl (by decide) rfl (fun ls hl => ?_)
                refine lv_iinc (v := nI (v + 1)) (lv' := [(16, .int (nI (v + 1))), (15, .int (bI true)), (14, .int (nI (enR (foR fo9)))), (0, .ref o), (1, .ref (b 0)), (2, .ref (b 1)), (3, .ref (b 2)), (4, .ref (b 3)), (5, .ref (b 4)), (6, .ref (b 5)), (8, .int (nI k)), (9, .int (nI l9)), (10, .int (nI x)), (11, .int (nI u)), (12, .int (nI kd))]) hx hb dL_isTold_234 hl (k := 1) rfl (m_inc _) (by decide) rfl (fun ls hl => ?_)
                refine lv_goto (tgt := 177) hx hb dL_isTold_237 (by decide) ?_
                refine W.widen (k := 12 + 6 * (v + 1)) (n := 72 + 36 * (v + 1)) (by omega) (by omega) ?_
                exact ih (v + 1) _ _ ls (by omega) (by omega)  hsm hS (lv_sub hl [0, 1, 2, 3, 4, 5, 6, 7, 8, 9, 10, 11, 12, 13, 14] rfl)
            · rw [if_pos (by omega)] at hr9
              subst hr9
              refine lv_iload hx hb dL_isTold_212 (lv_at hl 2 rfl) ?_
              refine lv_iload hx hb dL_isTold_214 (lv_at hl 0 rfl) ?_
              have hsb := hR9.s (p := v) (by omega)
              refine m_cSi (rest := [.int (nI (sgR (foR fo9) v))]) ⟨hx, hb, hml, hown, hts⟩ hE hS (fun _ h => h) (kL_signAt l K A _ (foR fo9) hR9 v (by omega)) (va_cwS 2 hts gL_isTold_L_signAt rfl rfl rfl (by decide +kernel) ⟨Nat.le_of_ble_eq_true rfl, Nat.le_of_ble_eq_true rfl⟩) rfl rfl hl.1 rfl (Nat.le_of_ble_eq_true rfl) dL_isTold_216 ⟨by show _ ≤ 130; omega, by show _ ≤ 1600; omega⟩ (fun r H1 locs hp hS hk => ?_)
              obtain ⟨rfl, rfl⟩ := hp
              refine lv_goto (tgt := 224) hx hb dL_isTold_219 (by decide) ?_
              refine m_icmp_ne (tgt := 231) hx hb (by omega) (by omega) dL_isTold_224 (by decide) (fun c_224 => ?_) (fun c_224 => ?_)
              · exact absurd rfl c_224
              · refine lv_iconst (v := nI 1) hx hb dL_isTold_227 (by decide) ?_
                refine lv_goto (tgt := 232) hx hb dL_isTold_228 (by decide) ?_
                refine W.eq (g2 := F0 m 232 ls [.int (bI true)]) (by rfl) ?_
                refine lv_istore (lv' := [(15, .int (bI true)), (16, .int (nI v)), (14, .int (nI (enR (foR fo9)))), (0, .ref o), (1, .ref (b 0)), (2, .ref (b 1)), (3, .ref (b 2)), (4, .ref (b 3)), (5, .ref (b 4)), (6, .ref (b 5)), (8, .int (nI k)), (9, .int (nI l9)), (10, .int (nI x)), (11, .int (nI u)), (12, .int (nI kd))]) hx hb dL_isTold_232 hl (by decide) rfl (fun ls hl => ?_)
                refine lv_iinc (v := nI (v + 1)) (lv' := [(16, .int (nI (v + 1))), (15, .int (bI true)), (14, .int (nI (enR (foR fo9)))), (0, .ref o), (1, .ref (b 0)), (2, .ref (b 1)), (3, .ref (b 2)), (4, .ref (b 3)), (5, .ref (b 4)), (6, .ref (b 5)), (8, .int (nI k)), (9, .int (nI l9)), (10, .int (nI x)), (11, .int (nI u)), (12, .int (nI kd))]) hx hb dL_isTold_234 hl (k := 1) rfl (m_inc _) (by decide) rfl (fun ls hl => ?_)
                refine lv_goto (tgt := 177) hx hb dL_isTold_237 (by decide) ?_
                refine W.widen (k := 12 + 6 * (v + 1)) (n := 72 + 36 * (v + 1)) (by omega) (by omega) ?_
                exact ih (v + 1) _ _ ls (by omega) (by omega)  hsm hS (lv_sub hl [0, 1, 2, 3, 4, 5, 6, 7, 8, 9, 10, 11, 12, 13, 14] rfl)
    refine lv_aload_n hx hb dL_isTold_42 rfl (lv_at hl 3 rfl) ?_
    refine lv_aload_n hx hb dL_isTold_43 rfl (lv_at hl 4 rfl) ?_
    refine lv_aload hx hb dL_isTold_44 (lv_at hl 7 rfl) ?_
    refine lv_iload hx hb dL_isTold_46 (lv_at hl 0 rfl) ?_
    refine lv_iload hx hb dL_isTold_48 (lv_at hl 1 rfl) ?_
    refine lv_iload hx hb dL_isTold_50 (lv_at hl 9 rfl) ?_
    refine lv_iload hx hb dL_isTold_52 (lv_at hl 10 rfl) ?_
    refine m_cSi (rest := []) ⟨hx, hb, hml, hown, hts⟩ hE hS (fun _ h => h) (kL_told l K A _ (b 0) (b 1) (b 4) (g 0) (g 1) (g 4) (hP.sub [0, 1, 4] rfl) fm hfm hf hx1 fb on fw hn hfb k l9 (nI x) u hk9 hl9 hu9) (va_cwS 7 hts gL_isTold_L_told rfl rfl rfl (by decide +kernel) ⟨Nat.le_of_ble_eq_true rfl, Nat.le_of_ble_eq_true rfl⟩) rfl rfl hl.1 rfl (Nat.le_of_ble_eq_true rfl) dL_isTold_54 ⟨by show _ ≤ 130; omega, by show _ ≤ 1600; omega⟩ (fun r H1 locs hp hS hk => ?_)
    obtain ⟨rfl, rfl⟩ := hp
    rcases told_cases (on := on) (fw := fw) (fm := fm) (k := k) (x := nI x) hfb hl9 hu9 with ⟨hT9, hS9⟩ | ⟨t, F, hT9, hS9, hF9, ht9⟩
    · rw [hT9]
      refine W.eq (g2 := F0 m 57 ls [.int (-1)]) (by rfl) ?_
      refine lv_istore (lv' := [(13, .int (-1)), (8, .int (nI k)), (9, .int (nI l9)), (0, .ref o), (1, .ref (b 0)), (2, .ref (b 1)), (3, .ref (b 2)), (4, .ref (b 3)), (5, .ref (b 4)), (6, .ref (b 5)), (10, .int (nI x)), (11, .int (nI u)), (12, .int (nI kd))]) hx hb dL_isTold_57 hl (by decide) rfl (fun ls hl => ?_)
      refine lv_iload hx hb dL_isTold_59 (lv_at hl 0 rfl) ?_
      refine lv_if_ge (tgt := 68) hx hb dL_isTold_61 (by decide) (fun c_61 => ?_) (fun c_61 => ?_)
      · exact absurd c_61 (by decide)
      · refine lv_iconst (v := nI 0) hx hb dL_isTold_64 (by decide) ?_
        refine lv_goto (tgt := 78) hx hb dL_isTold_65 (by decide) ?_
        refine lv_istore (lv' := [(14, .int (nI 0)), (13, .int (-1)), (8, .int (nI k)), (9, .int (nI l9)), (0, .ref o), (1, .ref (b 0)), (2, .ref (b 1)), (3, .ref (b 2)), (4, .ref (b 3)), (5, .ref (b 4)), (6, .ref (b 5)), (10, .int (nI x)), (11, .int (nI u)), (12, .int (nI kd))]) hx hb dL_isTold_78 hl (by decide) rfl (fun ls hl => ?_)
        refine lv_aload_n hx hb dL_isTold_80 rfl (lv_at hl 4 rfl) ?_
        refine lv_iload hx hb dL_isTold_81 (lv_at hl 2 rfl) ?_
        refine lv_iload hx hb dL_isTold_83 (lv_at hl 3 rfl) ?_
        refine lv_iload hx hb dL_isTold_85 (lv_at hl 11 rfl) ?_
        refine lv_iload hx hb dL_isTold_87 (lv_at hl 12 rfl) ?_
        obtain ⟨f7, d7, ft7, li7, T7, hPc, hDc, hRc⟩ := id hc
        refine m_xVi (rest := []) ⟨hx, hb, hml, hown, hts⟩ hE hS hsub (kX2_toldBy l hl0 K Ac _ o ad fb on fw dr fm vs ch ps hc (nI k) (nI l9) (nI x) (nI u)) (cwV 4 hts gL_isTold_X2_toldBy rfl rfl rfl (by decide +kernel) ⟨Nat.le_of_ble_eq_true rfl, Nat.le_of_ble_eq_true rfl⟩) (va_recv hE.k hPc (ci := 3) (q0 := 0) rfl rfl) rfl rfl hl.1 rfl (Nat.le_of_ble_eq_true rfl) dL_isTold_89 ⟨by show _ ≤ 130; omega, by show _ ≤ 1600; omega⟩ (fun E ce q9 H9 locs9 hx9 hs9 hS9 y1 y2 y3 => (hx9.elim (fun h => h.2 ⟨okN_nI (by omega) (by decide), okN_nI (by omega) (by decide), okN_nI (by omega) (by decide)⟩) (fun h => h.2.2 (okN_max (by omega)))).elim) (fun r H1 locs hp hS hk => ?_)
        rw [tN_nI (show k < 2147483648 by omega), tN_nI (show l9 < 2147483648 by omega), tN_nI (show u < 2147483648 by omega)] at hp
        obtain ⟨-, hr9, rfl⟩ := hp
        have hr9 : r = -1 := by rw [hr9, hS9]; rfl
        subst hr9
        refine lv_iload hx hb dL_isTold_92 (lv_at hl 1 rfl) ?_
        refine lv_if_ge (tgt := 101) hx hb dL_isTold_94 (by decide) (fun c_94 => ?_) (fun c_94 => ?_)
        · exact absurd c_94 (by decide)
        · refine lv_iconst (v := (-1)) hx hb dL_isTold_97 (by decide) ?_
          refine lv_goto (tgt := 106) hx hb dL_isTold_98 (by decide) ?_
          refine lv_icmp_ne (tgt := 171) hx hb dL_isTold_106 (by decide) (fun c_106 => ?_) (fun c_106 => ?_)
          · exact absurd rfl c_106
          · refine lv_aload_n hx hb dL_isTold_109 rfl (lv_at hl 4 rfl) ?_
            refine lv_iload hx hb dL_isTold_110 (lv_at hl 2 rfl) ?_
            refine lv_iload hx hb dL_isTold_112 (lv_at hl 3 rfl) ?_
            refine lv_iload hx hb dL_isTold_114 (lv_at hl 11 rfl) ?_
            refine lv_iload hx hb dL_isTold_116 (lv_at hl 12 rfl) ?_
            obtain ⟨f7, d7, ft7, li7, T7, hPc, hDc, hRc⟩ := id hc
            refine m_xVi (rest := []) ⟨hx, hb, hml, hown, hts⟩ hE hS hsub (kX2_toldByLooking l hl0 K Ac _ o ad fb on fw dr fm vs ch ps hc (nI k) (nI l9) (nI x) (nI u)) (cwV 4 hts gL_isTold_X2_toldByLooking rfl rfl rfl (by decide +kernel) ⟨Nat.le_of_ble_eq_true rfl, Nat.le_of_ble_eq_true rfl⟩) (va_recv hE.k hPc (ci := 3) (q0 := 0) rfl rfl) rfl rfl hl.1 rfl (Nat.le_of_ble_eq_true rfl) dL_isTold_118 ⟨by show _ ≤ 130; omega, by show _ ≤ 1600; omega⟩ (fun E ce q9 H9 locs9 hx9 hs9 hS9 y1 y2 y3 => (hx9.elim (fun h => h.2 ⟨okN_nI (by omega) (by decide), okN_nI (by omega) (by decide), okN_nI (by omega) (by decide)⟩) (fun h => h.2.2 (okN_max (by omega)))).elim) (fun r H1 locs hp hS hk => ?_)
            rw [tN_nI (show k < 2147483648 by omega), tN_nI (show l9 < 2147483648 by omega), tN_nI (show u < 2147483648 by omega)] at hp
            obtain ⟨-, hr9, rfl⟩ := hp
            rw [look_tell (hc.fb6) (by omega) (by omega) hu9] at hr9
            have hr9 : r = -1 := by rw [hr9, hS9]; rfl
            subst hr9
            refine lv_iload hx hb dL_isTold_121 (lv_at hl 1 rfl) ?_
            refine lv_if_ge (tgt := 130) hx hb dL_isTold_123 (by decide) (fun c_123 => ?_) (fun c_123 => ?_)
            · exact absurd c_123 (by decide)
            · refine lv_iconst (v := (-1)) hx hb dL_isTold_126 (by decide) ?_
              refine lv_goto (tgt := 135) hx hb dL_isTold_127 (by decide) ?_
              refine lv_icmp_ne (tgt := 171) hx hb dL_isTold_135 (by decide) (fun c_135 => ?_) (fun c_135 => ?_)
              · exact absurd rfl c_135
              · refine lv_aload_n hx hb dL_isTold_138 rfl (lv_at hl 4 rfl) ?_
                refine lv_iload hx hb dL_isTold_139 (lv_at hl 2 rfl) ?_
                refine lv_iload hx hb dL_isTold_141 (lv_at hl 3 rfl) ?_
                refine lv_iload hx hb dL_isTold_143 (lv_at hl 11 rfl) ?_
                refine lv_iload hx hb dL_isTold_145 (lv_at hl 12 rfl) ?_
                obtain ⟨f7, d7, ft7, li7, T7, hPc, hDc, hRc⟩ := id hc
                refine m_xVi (rest := []) ⟨hx, hb, hml, hown, hts⟩ hE hS hsub (kX2_toldForm l hl0 K Ac _ o ad fb on fw dr fm vs ch ps hc (nI k) (nI l9) (nI x) (nI u)) (cwV 4 hts gL_isTold_X2_toldForm rfl rfl rfl (by decide +kernel) ⟨Nat.le_of_ble_eq_true rfl, Nat.le_of_ble_eq_true rfl⟩) (va_recv hE.k hPc (ci := 3) (q0 := 0) rfl rfl) rfl rfl hl.1 rfl (Nat.le_of_ble_eq_true rfl) dL_isTold_147 ⟨by show _ ≤ 130; omega, by show _ ≤ 1600; omega⟩ (fun E ce q9 H9 locs9 hx9 hs9 hS9 y1 y2 y3 => (hx9.elim (fun h => h.2 ⟨okN_nI (by omega) (by decide), okN_nI (by omega) (by decide), okN_nI (by omega) (by decide)⟩) (fun h => h.2.2 (okN_max (by omega)))).elim) (fun r H1 locs hp hS hk => ?_)
                rw [tN_nI (show k < 2147483648 by omega), tN_nI (show l9 < 2147483648 by omega), tN_nI (show u < 2147483648 by omega)] at hp
                obtain ⟨-, hr9, rfl⟩ := hp
                have hr9 : r = -1 := by rw [hr9, hS9]; rfl
                subst hr9
                refine lv_iload hx hb dL_isTold_150 (lv_at hl 1 rfl) ?_
                refine lv_if_ge (tgt := 159) hx hb dL_isTold_152 (by decide) (fun c_152 => ?_) (fun c_152 => ?_)
                · exact absurd c_152 (by decide)
                · refine lv_iconst (v := (-1)) hx hb dL_isTold_155 (by decide) ?_
                  refine lv_goto (tgt := 164) hx hb dL_isTold_156 (by decide) ?_
                  refine lv_icmp_ne (tgt := 171) hx hb dL_isTold_164 (by decide) (fun c_164 => ?_) (fun c_164 => ?_)
                  · exact absurd rfl c_164
                  · refine lv_iconst (v := nI 1) hx hb dL_isTold_167 (by decide) ?_
                    refine lv_goto (tgt := 172) hx hb dL_isTold_168 (by decide) ?_
                    refine W.eq (g2 := F0 m 172 ls [.int (bI true)]) (by rfl) ?_
                    refine lv_istore (lv' := [(15, .int (bI true)), (14, .int (nI 0)), (13, .int (-1)), (8, .int (nI k)), (9, .int (nI l9)), (0, .ref o), (1, .ref (b 0)), (2, .ref (b 1)), (3, .ref (b 2)), (4, .ref (b 3)), (5, .ref (b 4)), (6, .ref (b 5)), (10, .int (nI x)), (11, .int (nI u)), (12, .int (nI kd))]) hx hb dL_isTold_172 hl (by decide) rfl (fun ls hl => ?_)
                    refine W.widen (k := 12) (n := 72) (by omega) (by omega) ?_
                    exact kk1 none _ ls (fun F e => by cases e) (fun v _ => by rw [hS9]; exact sg_none) hS (lv_sub hl [0, 1, 5, 6, 7, 8, 9, 10, 11, 3, 4, 12, 13, 14] rfl)
    · rw [hT9]
      refine W.eq (g2 := F0 m 57 ls [.int (nI t)]) (by rfl) ?_
      have hgF := hfm.1 _ F hF9
      have hFb := hgF.1.g.lt0
      refine lv_istore (lv' := [(13, .int (nI t)), (8, .int (nI k)), (9, .int (nI l9)), (0, .ref o), (1, .ref (b 0)), (2, .ref (b 1)), (3, .ref (b 2)), (4, .ref (b 3)), (5, .ref (b 4)), (6, .ref (b 5)), (10, .int (nI x)), (11, .int (nI u)), (12, .int (nI kd))]) hx hb dL_isTold_57 hl (by decide) rfl (fun ls hl => ?_)
      refine lv_iload hx hb dL_isTold_59 (lv_at hl 0 rfl) ?_
      refine m_if_ge (tgt := 68) hx hb (by omega) dL_isTold_61 (by decide) ?_
      refine lv_aload_n hx hb dL_isTold_68 rfl (lv_at hl 4 rfl) ?_
      refine lv_bipush (v := nI 27) hx hb dL_isTold_69 (by decide) ?_
      refine lv_iload hx hb dL_isTold_71 (lv_at hl 1 rfl) ?_
      refine m_imul hx hb dL_isTold_73 ?_
      refine lv_iload hx hb dL_isTold_74 (lv_at hl 0 rfl) ?_
      refine m_iadd hx hb dL_isTold_76 ?_
      refine m_iald hx hb hE.k hP 0 rfl (by omega) (by omega) ((fRep_t hf hk9 ht9).trans (fR_s hF9)) dL_isTold_77 ?_
      refine lv_istore (lv' := [(14, .int (nI (enR (drR F.1)))), (13, .int (nI t)), (8, .int (nI k)), (9, .int (nI l9)), (0, .ref o), (1, .ref (b 0)), (2, .ref (b 1)), (3, .ref (b 2)), (4, .ref (b 3)), (5, .ref (b 4)), (6, .ref (b 5)), (10, .int (nI x)), (11, .int (nI u)), (12, .int (nI kd))]) hx hb dL_isTold_78 hl (by decide) rfl (fun ls hl => ?_)
      refine lv_aload_n hx hb dL_isTold_80 rfl (lv_at hl 4 rfl) ?_
      refine lv_iload hx hb dL_isTold_81 (lv_at hl 2 rfl) ?_
      refine lv_iload hx hb dL_isTold_83 (lv_at hl 3 rfl) ?_
      refine lv_iload hx hb dL_isTold_85 (lv_at hl 11 rfl) ?_
      refine lv_iload hx hb dL_isTold_87 (lv_at hl 12 rfl) ?_
      obtain ⟨f7, d7, ft7, li7, T7, hPc, hDc, hRc⟩ := id hc
      refine m_xVi (rest := []) ⟨hx, hb, hml, hown, hts⟩ hE hS hsub (kX2_toldBy l hl0 K Ac _ o ad fb on fw dr fm vs ch ps hc (nI k) (nI l9) (nI x) (nI u)) (cwV 4 hts gL_isTold_X2_toldBy rfl rfl rfl (by decide +kernel) ⟨Nat.le_of_ble_eq_true rfl, Nat.le_of_ble_eq_true rfl⟩) (va_recv hE.k hPc (ci := 3) (q0 := 0) rfl rfl) rfl rfl hl.1 rfl (Nat.le_of_ble_eq_true rfl) dL_isTold_89 ⟨by show _ ≤ 130; omega, by show _ ≤ 1600; omega⟩ (fun E ce q9 H9 locs9 hx9 hs9 hS9 y1 y2 y3 => (hx9.elim (fun h => h.2 ⟨okN_nI (by omega) (by decide), okN_nI (by omega) (by decide), okN_nI (by omega) (by decide)⟩) (fun h => h.2.2 (okN_max (by omega)))).elim) (fun r H1 locs hp hS hk => ?_)
      rw [tN_nI (show k < 2147483648 by omega), tN_nI (show l9 < 2147483648 by omega), tN_nI (show u < 2147483648 by omega)] at hp
      obtain ⟨-, hr9, rfl⟩ := hp
      have hr9 : r = nI (t / 9) := by
        rw [hr9, hS9]
        show nI ((54 * k + t) / 9 % 6) = _
        congr 1
        omega
      subst hr9
      refine lv_iload hx hb dL_isTold_92 (lv_at hl 1 rfl) ?_
      refine m_if_ge (tgt := 101) hx hb (by omega) dL_isTold_94 (by decide) ?_
      refine lv_iload hx hb dL_isTold_101 (lv_at hl 1 rfl) ?_
      refine lv_bipush (v := nI 9) hx hb dL_isTold_103 (by decide) ?_
      refine m_idiv hx hb (by omega) (by omega) (by omega) dL_isTold_105 ?_
      refine m_icmp_ne (tgt := 171) hx hb (by omega) (by omega) dL_isTold_106 (by decide) (fun c_106 => ?_) (fun c_106 => ?_)
      · exact absurd rfl c_106
      · refine lv_aload_n hx hb dL_isTold_109 rfl (lv_at hl 4 rfl) ?_
        refine lv_iload hx hb dL_isTold_110 (lv_at hl 2 rfl) ?_
        refine lv_iload hx hb dL_isTold_112 (lv_at hl 3 rfl) ?_
        refine lv_iload hx hb dL_isTold_114 (lv_at hl 11 rfl) ?_
        refine lv_iload hx hb dL_isTold_116 (lv_at hl 12 rfl) ?_
        obtain ⟨f7, d7, ft7, li7, T7, hPc, hDc, hRc⟩ := id hc
        refine m_xVi (rest := []) ⟨hx, hb, hml, hown, hts⟩ hE hS hsub (kX2_toldByLooking l hl0 K Ac _ o ad fb on fw dr fm vs ch ps hc (nI k) (nI l9) (nI x) (nI u)) (cwV 4 hts gL_isTold_X2_toldByLooking rfl rfl rfl (by decide +kernel) ⟨Nat.le_of_ble_eq_true rfl, Nat.le_of_ble_eq_true rfl⟩) (va_recv hE.k hPc (ci := 3) (q0 := 0) rfl rfl) rfl rfl hl.1 rfl (Nat.le_of_ble_eq_true rfl) dL_isTold_118 ⟨by show _ ≤ 130; omega, by show _ ≤ 1600; omega⟩ (fun E ce q9 H9 locs9 hx9 hs9 hS9 y1 y2 y3 => (hx9.elim (fun h => h.2 ⟨okN_nI (by omega) (by decide), okN_nI (by omega) (by decide), okN_nI (by omega) (by decide)⟩) (fun h => h.2.2 (okN_max (by omega)))).elim) (fun r H1 locs hp hS hk => ?_)
        rw [tN_nI (show k < 2147483648 by omega), tN_nI (show l9 < 2147483648 by omega), tN_nI (show u < 2147483648 by omega)] at hp
        obtain ⟨-, hr9, rfl⟩ := hp
        rw [look_tell (hc.fb6) (by omega) (by omega) hu9] at hr9
        have hr9 : r = nI (t / 9) := by
          rw [hr9, hS9]
          show nI ((54 * k + t) / 9 % 6) = _
          congr 1
          omega
        subst hr9
        refine lv_iload hx hb dL_isTold_121 (lv_at hl 1 rfl) ?_
        refine m_if_ge (tgt := 130) hx hb (by omega) dL_isTold_123 (by decide) ?_
        refine lv_iload hx hb dL_isTold_130 (lv_at hl 1 rfl) ?_
        refine lv_bipush (v := nI 9) hx hb dL_isTold_132 (by decide) ?_
        refine m_idiv hx hb (by omega) (by omega) (by omega) dL_isTold_134 ?_
        refine m_icmp_ne (tgt := 171) hx hb (by omega) (by omega) dL_isTold_135 (by decide) (fun c_135 => ?_) (fun c_135 => ?_)
        · exact absurd rfl c_135
        · refine lv_aload_n hx hb dL_isTold_138 rfl (lv_at hl 4 rfl) ?_
          refine lv_iload hx hb dL_isTold_139 (lv_at hl 2 rfl) ?_
          refine lv_iload hx hb dL_isTold_141 (lv_at hl 3 rfl) ?_
          refine lv_iload hx hb dL_isTold_143 (lv_at hl 11 rfl) ?_
          refine lv_iload hx hb dL_isTold_145 (lv_at hl 12 rfl) ?_
          obtain ⟨f7, d7, ft7, li7, T7, hPc, hDc, hRc⟩ := id hc
          refine m_xVi (rest := []) ⟨hx, hb, hml, hown, hts⟩ hE hS hsub (kX2_toldForm l hl0 K Ac _ o ad fb on fw dr fm vs ch ps hc (nI k) (nI l9) (nI x) (nI u)) (cwV 4 hts gL_isTold_X2_toldForm rfl rfl rfl (by decide +kernel) ⟨Nat.le_of_ble_eq_true rfl, Nat.le_of_ble_eq_true rfl⟩) (va_recv hE.k hPc (ci := 3) (q0 := 0) rfl rfl) rfl rfl hl.1 rfl (Nat.le_of_ble_eq_true rfl) dL_isTold_147 ⟨by show _ ≤ 130; omega, by show _ ≤ 1600; omega⟩ (fun E ce q9 H9 locs9 hx9 hs9 hS9 y1 y2 y3 => (hx9.elim (fun h => h.2 ⟨okN_nI (by omega) (by decide), okN_nI (by omega) (by decide), okN_nI (by omega) (by decide)⟩) (fun h => h.2.2 (okN_max (by omega)))).elim) (fun r H1 locs hp hS hk => ?_)
          rw [tN_nI (show k < 2147483648 by omega), tN_nI (show l9 < 2147483648 by omega), tN_nI (show u < 2147483648 by omega)] at hp
          obtain ⟨-, hr9, rfl⟩ := hp
          have hr9 : r = nI (t % 9) := by
            rw [hr9, hS9]
            show nI ((54 * k + t) % 9) = _
            congr 1
            omega
          subst hr9
          refine lv_iload hx hb dL_isTold_150 (lv_at hl 1 rfl) ?_
          refine m_if_ge (tgt := 159) hx hb (by omega) dL_isTold_152 (by decide) ?_
          refine lv_iload hx hb dL_isTold_159 (lv_at hl 1 rfl) ?_
          refine lv_bipush (v := nI 9) hx hb dL_isTold_161 (by decide) ?_
          refine m_irem hx hb (by omega) (by omega) (by omega) dL_isTold_163 ?_
          refine m_icmp_ne (tgt := 171) hx hb (by omega) (by omega) dL_isTold_164 (by decide) (fun c_164 => ?_) (fun c_164 => ?_)
          · exact absurd rfl c_164
          · refine lv_iconst (v := nI 1) hx hb dL_isTold_167 (by decide) ?_
            refine lv_goto (tgt := 172) hx hb dL_isTold_168 (by decide) ?_
            refine W.eq (g2 := F0 m 172 ls [.int (bI true)]) (by rfl) ?_
            refine lv_istore (lv' := [(15, .int (bI true)), (14, .int (nI (enR (drR F.1)))), (13, .int (nI t)), (8, .int (nI k)), (9, .int (nI l9)), (0, .ref o), (1, .ref (b 0)), (2, .ref (b 1)), (3, .ref (b 2)), (4, .ref (b 3)), (5, .ref (b 4)), (6, .ref (b 5)), (10, .int (nI x)), (11, .int (nI u)), (12, .int (nI kd))]) hx hb dL_isTold_172 hl (by decide) rfl (fun ls hl => ?_)
            refine W.widen (k := 12) (n := 72) (by omega) (by omega) ?_
            exact kk1 (some F) _ ls (fun G e => by cases e; exact hgF) (fun v hv => by rw [hS9]; exact sg_some hF9 hgF.1 (by omega)) hS (lv_sub hl [0, 1, 5, 6, 7, 8, 9, 10, 11, 3, 4, 12, 13, 14] rfl)
  refine lv_iload hx hb dL_isTold_0 (lv_at hl 7 rfl) ?_
  refine lv_iconst (v := nI 2) hx hb dL_isTold_2 (by decide) ?_
  refine m_irem hx hb (by omega) (by omega) (by omega) dL_isTold_3 ?_
  refine lv_istore (lv' := [(8, .int (nI (z % 2))), (0, .ref o), (1, .ref (b 0)), (2, .ref (b 1)), (3, .ref (b 2)), (4, .ref (b 3)), (5, .ref (b 4)), (6, .ref (b 5)), (7, .int (nI z))]) hx hb dL_isTold_4 hl (by decide) rfl (fun ls hl => ?_)
  refine lv_iload hx hb dL_isTold_6 (lv_at hl 8 rfl) ?_
  refine lv_iconst (v := nI 2) hx hb dL_isTold_8 (by decide) ?_
  refine m_idiv hx hb (by omega) (by omega) (by omega) dL_isTold_9 ?_
  refine lv_iconst (v := nI 3) hx hb dL_isTold_10 (by decide) ?_
  refine m_irem hx hb (by omega) (by omega) (by omega) dL_isTold_11 ?_
  refine lv_istore (lv' := [(9, .int (nI ((z / 2) % 3))), (8, .int (nI (z % 2))), (0, .ref o), (1, .ref (b 0)), (2, .ref (b 1)), (3, .ref (b 2)), (4, .ref (b 3)), (5, .ref (b 4)), (6, .ref (b 5)), (7, .int (nI z))]) hx hb dL_isTold_12 hl (by decide) rfl (fun ls hl => ?_)
  refine lv_iload hx hb dL_isTold_14 (lv_at hl 9 rfl) ?_
  refine lv_bipush (v := nI 6) hx hb dL_isTold_16 (by decide) ?_
  refine m_idiv hx hb (by omega) (by omega) (by omega) dL_isTold_18 ?_
  refine lv_bipush (v := nI 7) hx hb dL_isTold_19 (by decide) ?_
  refine m_irem hx hb (by omega) (by omega) (by omega) dL_isTold_21 ?_
  refine lv_istore (lv' := [(10, .int (nI ((z / 6) % 7))), (9, .int (nI ((z / 2) % 3))), (8, .int (nI (z % 2))), (0, .ref o), (1, .ref (b 0)), (2, .ref (b 1)), (3, .ref (b 2)), (4, .ref (b 3)), (5, .ref (b 4)), (6, .ref (b 5)), (7, .int (nI z))]) hx hb dL_isTold_22 hl (by decide) rfl (fun ls hl => ?_)
  refine lv_iload hx hb dL_isTold_24 (lv_at hl 10 rfl) ?_
  refine lv_bipush (v := nI 42) hx hb dL_isTold_26 (by decide) ?_
  refine m_idiv hx hb (by omega) (by omega) (by omega) dL_isTold_28 ?_
  refine lv_iconst (v := nI 3) hx hb dL_isTold_29 (by decide) ?_
  refine m_irem hx hb (by omega) (by omega) (by omega) dL_isTold_30 ?_
  refine lv_istore (lv' := [(11, .int (nI ((z / 42) % 3))), (10, .int (nI ((z / 6) % 7))), (9, .int (nI ((z / 2) % 3))), (8, .int (nI (z % 2))), (0, .ref o), (1, .ref (b 0)), (2, .ref (b 1)), (3, .ref (b 2)), (4, .ref (b 3)), (5, .ref (b 4)), (6, .ref (b 5)), (7, .int (nI z))]) hx hb dL_isTold_31 hl (by decide) rfl (fun ls hl => ?_)
  refine lv_iload hx hb dL_isTold_33 (lv_at hl 11 rfl) ?_
  refine lv_bipush (v := nI 126) hx hb dL_isTold_35 (by decide) ?_
  refine m_idiv hx hb (by omega) (by omega) (by omega) dL_isTold_37 ?_
  refine lv_iconst (v := nI 3) hx hb dL_isTold_38 (by decide) ?_
  refine m_irem hx hb (by omega) (by omega) (by omega) dL_isTold_39 ?_
  refine lv_istore (lv' := [(12, .int (nI ((z / 126) % 3))), (11, .int (nI ((z / 42) % 3))), (10, .int (nI ((z / 6) % 7))), (9, .int (nI ((z / 2) % 3))), (8, .int (nI (z % 2))), (0, .ref o), (1, .ref (b 0)), (2, .ref (b 1)), (3, .ref (b 2)), (4, .ref (b 3)), (5, .ref (b 4)), (6, .ref (b 5)), (7, .int (nI z))]) hx hb dL_isTold_40 hl (by decide) rfl (fun ls hl => ?_)
  exact kk0 _ _ _ _ _ _ ls (by omega) (by omega) (by omega) (by omega) (by omega) hS (lv_sub hl [4, 3, 5, 6, 7, 8, 9, 10, 11, 2, 1, 0] rfl)
