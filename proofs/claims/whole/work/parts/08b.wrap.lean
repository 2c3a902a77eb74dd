set_option maxHeartbeats 4000000 in
set_option maxRecDepth 100000 in
theorem kL_setFallback (l : Launch) (K : m_K) (A : Nat → Prop) (H0 : Heap) (hl0 : l.stackTraces = false) (Ac : Nat → Prop) (hsub : ∀ q, Ac q → A q) (out : Nat) (hAo : A out) (hno : ¬ Ac out) (wo : Nat → Int64) (hO : OUT K out wo H0) (o : Nat) (ad : Nat → Nat) (fb : Nat → Nat) (on fw : Nat → Int32) (dr : List Int32) (fm : Nat → Option Frm) (vs ch : Nat → Int32) (ps : List Pr) (hc9 : cOK K Ac H0 o ad fb on fw dr fm vs ch ps) (hA : ∀ q, H0.size ≤ q → Ac q) (x : Int32) (y : Int32) : Met l yL_setFallback wsL_setFallback ({ frames := 8, cells := 4, slots := 24, locals := 127 } : Room) (m_Pc K A H0 [.ref o, .int x, .int y, .ref out]) (va_Qi (fun r H1 => ∃ wo1, OUT K out wo1 H1 ∧ R3 (okN x 6 ∧ okN y 6 ∧ ¬ x = nI 0) (chP fb (tN x) 6 (tN y) 0 = none) r (∃ v : Int32, wo1 0 = v.toInt64 ∧ v = nI (fb (tN x)) ∧ cOK K Ac H1 o ad (va_up fb (tN x) (tN y)) on fw dr fm vs ch ps) (cOK K Ac H1 o ad fb on fw dr fm vs ch ps)) m_B A) 4 24 A := by
  refine m_ofH (hh := [(0, 10, 13, 13), (0, 10, 17, 15)]) (by decide) rfl (Nat.le_of_ble_eq_true rfl) ?_
  intro p e s m args below meth c ls hx hb hr hml hown hts hlk htab hE hsz hS hl
  have hl : lv_has ls 5 [(0, .ref o), (1, .int x), (2, .int y), (3, .ref out)] := hl
  obtain ⟨f9, d9, ft9, li9, T9, hP9, hD9, hR9⟩ := id hc9
  refine lv_aload_n hx hb dL_setFallback_0 rfl (lv_at hl 3 rfl) ?_
  refine lv_iconst (v := nI 0) hx hb dL_setFallback_1 (by decide) ?_
  refine lv_aload_n hx hb dL_setFallback_2 rfl (lv_at hl 0 rfl) ?_
  refine lv_iload_n hx hb dL_setFallback_3 rfl (lv_at hl 1 rfl) ?_
  refine lv_iload_n hx hb dL_setFallback_4 rfl (lv_at hl 2 rfl) ?_
  refine m_xVi (rest := [.int (nI 0), .ref out]) ⟨hx, hb, hml, hown, hts⟩ hE hS hsub (kX2_setFallback l hl0 K Ac H0 o ad fb on fw dr fm vs ch ps hc9 hA x y) (cwV 2 hts gL_setFallback_X2_setFallback rfl rfl rfl (by decide +kernel) ⟨Nat.le_of_ble_eq_true rfl, Nat.le_of_ble_eq_true rfl⟩) (va_recv hE.k hP9 (ci := 3) (q0 := 0) rfl rfl) rfl rfl hl.1 rfl (Nat.le_of_ble_eq_true rfl) dL_setFallback_5 ⟨Nat.le_of_ble_eq_true rfl, Nat.le_of_ble_eq_true rfl⟩ (fun E ce q9 H1 locs1 hx9 hs9 hS9 g1 g2 g3 => ?_) (fun r H1 locs hp hS hk => ?_)
  · rcases hx9 with ⟨rfl, h1⟩ | ⟨rfl, h1, h2⟩
    · refine m_catch1 (b0 := 0) (e0 := 10) (h0 := 13) (t0 := 13) hE hown htab rfl (by decide) (hts (.classLink RL 13 m_IO) (by decide +kernel)) (by simp [m_cas]) g1 g2 g3 ?_
      have hS := hS9
      refine lv_astore (lv' := [(4, .ref q9), (0, .ref o), (1, .int x), (2, .int y), (3, .ref out)]) hx hb dL_setFallback_13 hl (by decide) rfl (fun ls hl => ?_)
      refine lv_iconst (v := nI 1) hx hb dL_setFallback_15 (by decide) ?_
      exact m_iret hx hb hr hlk hS (Nat.le_of_ble_eq_true rfl) (Nat.le_of_ble_eq_true rfl) dL_setFallback_16 (⟨wo, hO.k1 (hs9.2 out ((hO 0 _ rfl).lt)), r3_1 h1 (hc9.kept (fun q hq _ => hs9.2 q hq))⟩)
    · refine m_catch2 (b0 := 0) (e0 := 10) (h0 := 13) (t0 := 13) (b1 := 0) (e1 := 10) (h9 := 17) (t1 := 15) hE hown htab rfl (by decide) (by decide) (hts (.classLink RL 13 m_IO) (by decide +kernel)) (hts (.classLink RL 15 m_IA) (by decide +kernel)) (by simp [m_nca]) (by simp [m_cas]) g1 g2 g3 ?_
      have hS := hS9
      refine lv_astore (lv' := [(4, .ref q9), (0, .ref o), (1, .int x), (2, .int y), (3, .ref out)]) hx hb dL_setFallback_17 hl (by decide) rfl (fun ls hl => ?_)
      refine lv_iconst (v := nI 2) hx hb dL_setFallback_19 (by decide) ?_
      exact m_iret hx hb hr hlk hS (Nat.le_of_ble_eq_true rfl) (Nat.le_of_ble_eq_true rfl) dL_setFallback_20 (⟨wo, hO.k1 (hs9.2 out ((hO 0 _ rfl).lt)), r3_2 h1 h2 (hc9.kept (fun q hq _ => hs9.2 q hq))⟩)
  obtain ⟨h1, h2, hz9, hc⟩ := hp
  have hO1 : OUT K out wo _ := hO.k1 (hk out ((hO 0 _ rfl).lt) hno)
  obtain ⟨f, d, ft, li, T, hP, hD, hR⟩ := hc
  refine lv_i2l hx hb dL_setFallback_8 rfl ?_
  refine m_last1 hx hb hE.k hP hD hO1 hAo hno hsub hS dL_setFallback_9 (fun H2 locs2 wo1 hw1 hP hO2 hS => ?_)
  refine lv_goto (tgt := 21) hx hb dL_setFallback_10 (by decide) ?_
  refine lv_iconst (v := nI 0) hx hb dL_setFallback_21 (by decide) ?_
  exact m_iret hx hb hr hlk hS (Nat.le_of_ble_eq_true rfl) (Nat.le_of_ble_eq_true rfl) dL_setFallback_22 (⟨wo1, hO2, r3_0 (h1) (h2) ⟨r, hw1, hz9, _, _, _, _, _, hP, hD, hR⟩⟩)

set_option maxHeartbeats 4000000 in
set_option maxRecDepth 100000 in
theorem kL_setNumbers (l : Launch) (K : m_K) (A : Nat → Prop) (H0 : Heap) (hl0 : l.stackTraces = false) (o : Nat) (ad : Nat → Nat) (fb : Nat → Nat) (on fw : Nat → Int32) (dr : List Int32) (fm : Nat → Option Frm) (vs ch : Nat → Int32) (ps : List Pr) (hc9 : cOK K A H0 o ad fb on fw dr fm vs ch ps) (hA : ∀ q, H0.size ≤ q → A q) (x : Int32) (y : Int32) (z : Int32) : Met l yL_setNumbers wsL_setNumbers ({ frames := 8, cells := 3, slots := 18, locals := 127 } : Room) (m_Pc K A H0 [.ref o, .int x, .int y, .int z]) (va_Qi (fun r H1 => R3 (okN x 6) (okN y 101 ∧ okN z 101) r (cOK K A H1 o ad fb (va_up on (tN x) y) (va_up fw (tN x) z) dr fm vs ch ps) (cOK K A H1 o ad fb on fw dr fm vs ch ps)) m_B A) 3 18 A := by
  refine m_ofH (hh := [(0, 7, 10, 13), (0, 7, 14, 15)]) (by decide) rfl (Nat.le_of_ble_eq_true rfl) ?_
  intro p e s m args below meth c ls hx hb hr hml hown hts hlk htab hE hsz hS hl
  have hl : lv_has ls 5 [(0, .ref o), (1, .int x), (2, .int y), (3, .int z)] := hl
  obtain ⟨f9, d9, ft9, li9, T9, hP9, hD9, hR9⟩ := id hc9
  refine lv_aload_n hx hb dL_setNumbers_0 rfl (lv_at hl 0 rfl) ?_
  refine lv_iload_n hx hb dL_setNumbers_1 rfl (lv_at hl 1 rfl) ?_
  refine lv_iload_n hx hb dL_setNumbers_2 rfl (lv_at hl 2 rfl) ?_
  refine lv_iload_n hx hb dL_setNumbers_3 rfl (lv_at hl 3 rfl) ?_
  refine m_xVv (rest := []) ⟨hx, hb, hml, hown, hts⟩ hE hS (fun _ h => h) (kX2_setNumbers l hl0 K A H0 o ad fb on fw dr fm vs ch ps hc9 hA x y z) (cwV 3 hts gL_setNumbers_X2_setNumbers rfl rfl rfl (by decide +kernel) ⟨Nat.le_of_ble_eq_true rfl, Nat.le_of_ble_eq_true rfl⟩) (va_recv hE.k hP9 (ci := 3) (q0 := 0) rfl rfl) rfl rfl hl.1 rfl (Nat.le_of_ble_eq_true rfl) dL_setNumbers_4 ⟨Nat.le_of_ble_eq_true rfl, Nat.le_of_ble_eq_true rfl⟩ (fun E ce q9 H1 locs1 hx9 hs9 hS9 g1 g2 g3 => ?_) (fun H1 locs hp hS hk => ?_)
  · rcases hx9 with ⟨rfl, h1⟩ | ⟨rfl, h1, h2⟩
    · refine m_catch1 (b0 := 0) (e0 := 7) (h0 := 10) (t0 := 13) hE hown htab rfl (by decide) (hts (.classLink RL 13 m_IO) (by decide +kernel)) (by simp [m_cas]) g1 g2 g3 ?_
      have hS := hS9
      refine lv_astore (lv' := [(4, .ref q9), (0, .ref o), (1, .int x), (2, .int y), (3, .int z)]) hx hb dL_setNumbers_10 hl (by decide) rfl (fun ls hl => ?_)
      refine lv_iconst (v := nI 1) hx hb dL_setNumbers_12 (by decide) ?_
      exact m_iret hx hb hr hlk hS (Nat.le_of_ble_eq_true rfl) (Nat.le_of_ble_eq_true rfl) dL_setNumbers_13 (r3_1 h1 (hc9.kept (fun q hq _ => hs9.2 q hq)))
    · refine m_catch2 (b0 := 0) (e0 := 7) (h0 := 10) (t0 := 13) (b1 := 0) (e1 := 7) (h9 := 14) (t1 := 15) hE hown htab rfl (by decide) (by decide) (hts (.classLink RL 13 m_IO) (by decide +kernel)) (hts (.classLink RL 15 m_IA) (by decide +kernel)) (by simp [m_nca]) (by simp [m_cas]) g1 g2 g3 ?_
      have hS := hS9
      refine lv_astore (lv' := [(4, .ref q9), (0, .ref o), (1, .int x), (2, .int y), (3, .int z)]) hx hb dL_setNumbers_14 hl (by decide) rfl (fun ls hl => ?_)
      refine lv_iconst (v := nI 2) hx hb dL_setNumbers_16 (by decide) ?_
      exact m_iret hx hb hr hlk hS (Nat.le_of_ble_eq_true rfl) (Nat.le_of_ble_eq_true rfl) dL_setNumbers_17 (r3_2 h1 h2 (hc9.kept (fun q hq _ => hs9.2 q hq)))
  obtain ⟨h1, h2, h3, hc⟩ := hp
  refine lv_goto (tgt := 18) hx hb dL_setNumbers_7 (by decide) ?_
  refine lv_iconst (v := nI 0) hx hb dL_setNumbers_18 (by decide) ?_
  exact m_iret hx hb hr hlk hS (Nat.le_of_ble_eq_true rfl) (Nat.le_of_ble_eq_true rfl) dL_setNumbers_19 (r3_0 (h1) (⟨h2, h3⟩) hc)

set_option maxHeartbeats 4000000 in
set_option maxRecDepth 100000 in
theorem kL_sign (l : Launch) (K : m_K) (A : Nat → Prop) (H0 : Heap) (hl0 : l.stackTraces = false) (Ac : Nat → Prop) (hsub : ∀ q, Ac q → A q) (out : Nat) (hAo : A out) (hno : ¬ Ac out) (wo : Nat → Int64) (hO : OUT K out wo H0) (o : Nat) (ad : Nat → Nat) (fb : Nat → Nat) (on fw : Nat → Int32) (dr : List Int32) (fm : Nat → Option Frm) (vs ch : Nat → Int32) (ps : List Pr) (hc9 : cOK K Ac H0 o ad fb on fw dr fm vs ch ps) (hA : ∀ q, H0.size ≤ q → Ac q) (x : Int32) : Met l yL_sign wsL_sign ({ frames := 7, cells := 2, slots := 12, locals := 105 } : Room) (m_Pc K A H0 [.ref o, .int x, .ref out]) (va_Qi (fun r H1 => ∃ wo1, OUT K out wo1 H1 ∧ R3 ((isWd x = true ∨ isPh x = true)) (dr.length < 8) r (∃ v : Int32, wo1 0 = v.toInt64 ∧ v = nI (dr.length + 1) ∧ cOK K Ac H1 o ad fb on fw (dr ++ [x]) fm vs ch ps) (cOK K Ac H1 o ad fb on fw dr fm vs ch ps)) m_B A) 2 12 A := by
  refine m_ofH (hh := [(0, 9, 12, 15), (0, 9, 15, 25)]) (by decide) rfl (Nat.le_of_ble_eq_true rfl) ?_
  intro p e s m args below meth c ls hx hb hr hml hown hts hlk htab hE hsz hS hl
  have hl : lv_has ls 4 [(0, .ref o), (1, .int x), (2, .ref out)] := hl
  obtain ⟨f9, d9, ft9, li9, T9, hP9, hD9, hR9⟩ := id hc9
  refine lv_aload_n hx hb dL_sign_0 rfl (lv_at hl 2 rfl) ?_
  refine lv_iconst (v := nI 0) hx hb dL_sign_1 (by decide) ?_
  refine lv_aload_n hx hb dL_sign_2 rfl (lv_at hl 0 rfl) ?_
  refine lv_iload_n hx hb dL_sign_3 rfl (lv_at hl 1 rfl) ?_
  refine m_xVi (rest := [.int (nI 0), .ref out]) ⟨hx, hb, hml, hown, hts⟩ hE hS hsub (kX2_sign l hl0 K Ac H0 o ad fb on fw dr fm vs ch ps hc9 hA x) (cwV 1 hts gL_sign_X2_sign rfl rfl rfl (by decide +kernel) ⟨Nat.le_of_ble_eq_true rfl, Nat.le_of_ble_eq_true rfl⟩) (va_recv hE.k hP9 (ci := 3) (q0 := 0) rfl rfl) rfl rfl hl.1 rfl (Nat.le_of_ble_eq_true rfl) dL_sign_4 ⟨Nat.le_of_ble_eq_true rfl, Nat.le_of_ble_eq_true rfl⟩ (fun E ce q9 H1 locs1 hx9 hs9 hS9 g1 g2 g3 => ?_) (fun r H1 locs hp hS hk => ?_)
  · rcases hx9 with ⟨rfl, h1⟩ | ⟨rfl, h1, h2⟩
    · refine m_catch1 (b0 := 0) (e0 := 9) (h0 := 12) (t0 := 15) hE hown htab rfl (by decide) (hts (.classLink RL 15 m_IA) (by decide +kernel)) (by simp [m_cas]) g1 g2 g3 ?_
      have hS := hS9
      refine lv_astore_n (lv' := [(3, .ref q9), (0, .ref o), (1, .int x), (2, .ref out)]) hx hb dL_sign_12 rfl hl (by decide) rfl (fun ls hl => ?_)
      refine lv_iconst (v := nI 1) hx hb dL_sign_13 (by decide) ?_
      exact m_iret hx hb hr hlk hS (Nat.le_of_ble_eq_true rfl) (Nat.le_of_ble_eq_true rfl) dL_sign_14 (⟨wo, hO.k1 (hs9.2 out ((hO 0 _ rfl).lt)), r3_1 h1 (hc9.kept (fun q hq _ => hs9.2 q hq))⟩)
    · refine m_catch2 (b0 := 0) (e0 := 9) (h0 := 12) (t0 := 15) (b1 := 0) (e1 := 9) (h9 := 15) (t1 := 25) hE hown htab rfl (by decide) (by decide) (hts (.classLink RL 15 m_IA) (by decide +kernel)) (hts (.classLink RL 25 m_IS) (by decide +kernel)) (by simp [m_nca]) (by simp [m_cas]) g1 g2 g3 ?_
      have hS := hS9
      refine lv_astore_n (lv' := [(3, .ref q9), (0, .ref o), (1, .int x), (2, .ref out)]) hx hb dL_sign_15 rfl hl (by decide) rfl (fun ls hl => ?_)
      refine lv_iconst (v := nI 2) hx hb dL_sign_16 (by decide) ?_
      exact m_iret hx hb hr hlk hS (Nat.le_of_ble_eq_true rfl) (Nat.le_of_ble_eq_true rfl) dL_sign_17 (⟨wo, hO.k1 (hs9.2 out ((hO 0 _ rfl).lt)), r3_2 h1 h2 (hc9.kept (fun q hq _ => hs9.2 q hq))⟩)
  obtain ⟨h1, h2, hz9, hc⟩ := hp
  have hO1 : OUT K out wo _ := hO.k1 (hk out ((hO 0 _ rfl).lt) hno)
  obtain ⟨f, d, ft, li, T, hP, hD, hR⟩ := hc
  refine lv_i2l hx hb dL_sign_7 rfl ?_
  refine m_last1 hx hb hE.k hP hD hO1 hAo hno hsub hS dL_sign_8 (fun H2 locs2 wo1 hw1 hP hO2 hS => ?_)
  refine lv_goto (tgt := 18) hx hb dL_sign_9 (by decide) ?_
  refine lv_iconst (v := nI 0) hx hb dL_sign_18 (by decide) ?_
  exact m_iret hx hb hr hlk hS (Nat.le_of_ble_eq_true rfl) (Nat.le_of_ble_eq_true rfl) dL_sign_19 (⟨wo1, hO2, r3_0 (h1) (h2) ⟨r, hw1, hz9, _, _, _, _, _, hP, hD, hR⟩⟩)

set_option maxHeartbeats 4000000 in
set_option maxRecDepth 100000 in
theorem kL_set (l : Launch) (K : m_K) (A : Nat → Prop) (H0 : Heap) (hl0 : l.stackTraces = false) (Ac : Nat → Prop) (hsub : ∀ q, Ac q → A q) (out : Nat) (hAo : A out) (hno : ¬ Ac out) (wo : Nat → Int64) (hO : OUT K out wo H0) (o : Nat) (ad : Nat → Nat) (fb : Nat → Nat) (on fw : Nat → Int32) (dr : List Int32) (fm : Nat → Option Frm) (vs ch : Nat → Int32) (ps : List Pr) (hc9 : cOK K Ac H0 o ad fb on fw dr fm vs ch ps) (hA : ∀ q, H0.size ≤ q → Ac q) (x : Int32) (y : Int32) (z : Int32) (w : Int32) (b9 : Bool) : Met l yL_set wsL_set ({ frames := 11, cells := 18, slots := 220, locals := 270 } : Room) (m_Pc K A H0 [.ref o, .int x, .int y, .int z, .int w, .int (bI b9), .ref out]) (va_Qi (fun r H1 => ∃ wo1, OUT K out wo1 H1 ∧ R3 (okF x y z w) (0 < dr.length) r (∃ v : Int32, wo1 0 = v.toInt64 ∧ v = vsC vs (tN x) (tN y) (tN x) ∧ cOK K Ac H1 o ad fb on fw [] (va_up fm (54 * tN x + 9 * tN y + 3 * tN z + tN w) (some (dr, b9))) (vsC vs (tN x) (tN y)) (chC ch vs (tN x) (tN y)) (psC fm ps (tN x) (tN y) (3 * tN z + tN w))) (cOK K Ac H1 o ad fb on fw dr fm vs ch ps)) m_B A) 18 220 A := by
  refine m_ofH (hh := [(0, 16, 19, 13), (0, 16, 23, 25)]) (by decide) rfl (Nat.le_of_ble_eq_true rfl) ?_
  intro p e s m args below meth c ls hx hb hr hml hown hts hlk htab hE hsz hS hl
  have hl : lv_has ls 8 [(0, .ref o), (1, .int x), (2, .int y), (3, .int z), (4, .int w), (5, .int (bI b9)), (6, .ref out)] := hl
  obtain ⟨f9, d9, ft9, li9, T9, hP9, hD9, hR9⟩ := id hc9
  refine lv_aload hx hb dL_set_0 (lv_at hl 6 rfl) ?_
  refine lv_iconst (v := nI 0) hx hb dL_set_2 (by decide) ?_
  refine lv_aload_n hx hb dL_set_3 rfl (lv_at hl 0 rfl) ?_
  refine lv_iload_n hx hb dL_set_4 rfl (lv_at hl 1 rfl) ?_
  refine lv_iload_n hx hb dL_set_5 rfl (lv_at hl 2 rfl) ?_
  refine lv_iload_n hx hb dL_set_6 rfl (lv_at hl 3 rfl) ?_
  refine lv_iload hx hb dL_set_7 (lv_at hl 4 rfl) ?_
  refine lv_iload hx hb dL_set_9 (lv_at hl 5 rfl) ?_
  refine m_xVi (rest := [.int (nI 0), .ref out]) ⟨hx, hb, hml, hown, hts⟩ hE hS hsub (kX2_set l hl0 K Ac H0 o ad fb on fw dr fm vs ch ps hc9 hA x y z w b9) (cwV 5 hts gL_set_X2_set rfl rfl rfl (by decide +kernel) ⟨Nat.le_of_ble_eq_true rfl, Nat.le_of_ble_eq_true rfl⟩) (va_recv hE.k hP9 (ci := 3) (q0 := 0) rfl rfl) rfl rfl hl.1 rfl (Nat.le_of_ble_eq_true rfl) dL_set_11 ⟨Nat.le_of_ble_eq_true rfl, Nat.le_of_ble_eq_true rfl⟩ (fun E ce q9 H1 locs1 hx9 hs9 hS9 g1 g2 g3 => ?_) (fun r H1 locs hp hS hk => ?_)
  · rcases hx9 with ⟨rfl, h1⟩ | ⟨rfl, h1, h2⟩
    · refine m_catch1 (b0 := 0) (e0 := 16) (h0 := 19) (t0 := 13) hE hown htab rfl (by decide) (hts (.classLink RL 13 m_IO) (by decide +kernel)) (by simp [m_cas]) g1 g2 g3 ?_
      have hS := hS9
      refine lv_astore (lv' := [(7, .ref q9), (0, .ref o), (1, .int x), (2, .int y), (3, .int z), (4, .int w), (5, .int (bI b9)), (6, .ref out)]) hx hb dL_set_19 hl (by decide) rfl (fun ls hl => ?_)
      refine lv_iconst (v := nI 1) hx hb dL_set_21 (by decide) ?_
      exact m_iret hx hb hr hlk hS (Nat.le_of_ble_eq_true rfl) (Nat.le_of_ble_eq_true rfl) dL_set_22 (⟨wo, hO.k1 (hs9.2 out ((hO 0 _ rfl).lt)), r3_1 h1 (hc9.kept (fun q hq _ => hs9.2 q hq))⟩)
    · refine m_catch2 (b0 := 0) (e0 := 16) (h0 := 19) (t0 := 13) (b1 := 0) (e1 := 16) (h9 := 23) (t1 := 25) hE hown htab rfl (by decide) (by decide) (hts (.classLink RL 13 m_IO) (by decide +kernel)) (hts (.classLink RL 25 m_IS) (by decide +kernel)) (by simp [m_nca]) (by simp [m_cas]) g1 g2 g3 ?_
      have hS := hS9
      refine lv_astore (lv' := [(7, .ref q9), (0, .ref o), (1, .int x), (2, .int y), (3, .int z), (4, .int w), (5, .int (bI b9)), (6, .ref out)]) hx hb dL_set_23 hl (by decide) rfl (fun ls hl => ?_)
      refine lv_iconst (v := nI 2) hx hb dL_set_25 (by decide) ?_
      exact m_iret hx hb hr hlk hS (Nat.le_of_ble_eq_true rfl) (Nat.le_of_ble_eq_true rfl) dL_set_26 (⟨wo, hO.k1 (hs9.2 out ((hO 0 _ rfl).lt)), r3_2 h1 h2 (hc9.kept (fun q hq _ => hs9.2 q hq))⟩)
  obtain ⟨h1, h2, hz9, hc⟩ := hp
  have hO1 : OUT K out wo _ := hO.k1 (hk out ((hO 0 _ rfl).lt) hno)
  obtain ⟨f, d, ft, li, T, hP, hD, hR⟩ := hc
  refine lv_i2l hx hb dL_set_14 rfl ?_
  refine m_last1 hx hb hE.k hP hD hO1 hAo hno hsub hS dL_set_15 (fun H2 locs2 wo1 hw1 hP hO2 hS => ?_)
  refine lv_goto (tgt := 27) hx hb dL_set_16 (by decide) ?_
  refine lv_iconst (v := nI 0) hx hb dL_set_27 (by decide) ?_
  exact m_iret hx hb hr hlk hS (Nat.le_of_ble_eq_true rfl) (Nat.le_of_ble_eq_true rfl) dL_set_28 (⟨wo1, hO2, r3_0 (h1) (h2) ⟨r, hw1, hz9, _, _, _, _, _, hP, hD, hR⟩⟩)

set_option maxHeartbeats 4000000 in
set_option maxRecDepth 100000 in
theorem kL_remove (l : Launch) (K : m_K) (A : Nat → Prop) (H0 : Heap) (hl0 : l.stackTraces = false) (Ac : Nat → Prop) (hsub : ∀ q, Ac q → A q) (out : Nat) (hAo : A out) (hno : ¬ Ac out) (wo : Nat → Int64) (hO : OUT K out wo H0) (o : Nat) (ad : Nat → Nat) (fb : Nat → Nat) (on fw : Nat → Int32) (dr : List Int32) (fm : Nat → Option Frm) (vs ch : Nat → Int32) (ps : List Pr) (hc9 : cOK K Ac H0 o ad fb on fw dr fm vs ch ps) (hA : ∀ q, H0.size ≤ q → Ac q) (x : Int32) (y : Int32) (z : Int32) (w : Int32) : Met l yL_remove wsL_remove ({ frames := 11, cells := 16, slots := 170, locals := 269 } : Room) (m_Pc K A H0 [.ref o, .int x, .int y, .int z, .int w, .ref out]) (va_Qi (fun r H1 => ∃ wo1, OUT K out wo1 H1 ∧ R3 (okF x y z w) (¬ fm (54 * tN x + 9 * tN y + 3 * tN z + tN w) = none) r (∃ v : Int32, wo1 0 = v.toInt64 ∧ v = nI (lenF (fm (54 * tN x + 9 * tN y + 3 * tN z + tN w))) ∧ cOK K Ac H1 o ad fb on fw dr (va_up fm (54 * tN x + 9 * tN y + 3 * tN z + tN w) none) (vsC vs (tN x) (tN y)) (chC ch vs (tN x) (tN y)) (psC fm ps (tN x) (tN y) (3 * tN z + tN w))) (cOK K Ac H1 o ad fb on fw dr fm vs ch ps)) m_B A) 16 170 A := by
  refine m_ofH (hh := [(0, 14, 17, 13), (0, 14, 21, 25)]) (by decide) rfl (Nat.le_of_ble_eq_true rfl) ?_
  intro p e s m args below meth c ls hx hb hr hml hown hts hlk htab hE hsz hS hl
  have hl : lv_has ls 7 [(0, .ref o), (1, .int x), (2, .int y), (3, .int z), (4, .int w), (5, .ref out)] := hl
  obtain ⟨f9, d9, ft9, li9, T9, hP9, hD9, hR9⟩ := id hc9
  refine lv_aload hx hb dL_remove_0 (lv_at hl 5 rfl) ?_
  refine lv_iconst (v := nI 0) hx hb dL_remove_2 (by decide) ?_
  refine lv_aload_n hx hb dL_remove_3 rfl (lv_at hl 0 rfl) ?_
  refine lv_iload_n hx hb dL_remove_4 rfl (lv_at hl 1 rfl) ?_
  refine lv_iload_n hx hb dL_remove_5 rfl (lv_at hl 2 rfl) ?_
  refine lv_iload_n hx hb dL_remove_6 rfl (lv_at hl 3 rfl) ?_
  refine lv_iload hx hb dL_remove_7 (lv_at hl 4 rfl) ?_
  refine m_xVi (rest := [.int (nI 0), .ref out]) ⟨hx, hb, hml, hown, hts⟩ hE hS hsub (kX2_remove l hl0 K Ac H0 o ad fb on fw dr fm vs ch ps hc9 hA x y z w) (cwV 4 hts gL_remove_X2_remove rfl rfl rfl (by decide +kernel) ⟨Nat.le_of_ble_eq_true rfl, Nat.le_of_ble_eq_true rfl⟩) (va_recv hE.k hP9 (ci := 3) (q0 := 0) rfl rfl) rfl rfl hl.1 rfl (Nat.le_of_ble_eq_true rfl) dL_remove_9 ⟨Nat.le_of_ble_eq_true rfl, Nat.le_of_ble_eq_true rfl⟩ (fun E ce q9 H1 locs1 hx9 hs9 hS9 g1 g2 g3 => ?_) (fun r H1 locs hp hS hk => ?_)
  · rcases hx9 with ⟨rfl, h1⟩ | ⟨rfl, h1, h2⟩
    · refine m_catch1 (b0 := 0) (e0 := 14) (h0 := 17) (t0 := 13) hE hown htab rfl (by decide) (hts (.classLink RL 13 m_IO) (by decide +kernel)) (by simp [m_cas]) g1 g2 g3 ?_
      have hS := hS9
      refine lv_astore (lv' := [(6, .ref q9), (0, .ref o), (1, .int x), (2, .int y), (3, .int z), (4, .int w), (5, .ref out)]) hx hb dL_remove_17 hl (by decide) rfl (fun ls hl => ?_)
      refine lv_iconst (v := nI 1) hx hb dL_remove_19 (by decide) ?_
      exact m_iret hx hb hr hlk hS (Nat.le_of_ble_eq_true rfl) (Nat.le_of_ble_eq_true rfl) dL_remove_20 (⟨wo, hO.k1 (hs9.2 out ((hO 0 _ rfl).lt)), r3_1 h1 (hc9.kept (fun q hq _ => hs9.2 q hq))⟩)
    · refine m_catch2 (b0 := 0) (e0 := 14) (h0 := 17) (t0 := 13) (b1 := 0) (e1 := 14) (h9 := 21) (t1 := 25) hE hown htab rfl (by decide) (by decide) (hts (.classLink RL 13 m_IO) (by decide +kernel)) (hts (.classLink RL 25 m_IS) (by decide +kernel)) (by simp [m_nca]) (by simp [m_cas]) g1 g2 g3 ?_
      have hS := hS9
      refine lv_astore (lv' := [(6, .ref q9), (0, .ref o), (1, .int x), (2, .int y), (3, .int z), (4, .int w), (5, .ref out)]) hx hb dL_remove_21 hl (by decide) rfl (fun ls hl => ?_)
      refine lv_iconst (v := nI 2) hx hb dL_remove_23 (by decide) ?_
      exact m_iret hx hb hr hlk hS (Nat.le_of_ble_eq_true rfl) (Nat.le_of_ble_eq_true rfl) dL_remove_24 (⟨wo, hO.k1 (hs9.2 out ((hO 0 _ rfl).lt)), r3_2 h1 (fun z9 => z9 h2) (hc9.kept (fun q hq _ => hs9.2 q hq))⟩)
  obtain ⟨h1, h2, hz9, hc⟩ := hp
  have hO1 : OUT K out wo _ := hO.k1 (hk out ((hO 0 _ rfl).lt) hno)
  obtain ⟨f, d, ft, li, T, hP, hD, hR⟩ := hc
  refine lv_i2l hx hb dL_remove_12 rfl ?_
  refine m_last1 hx hb hE.k hP hD hO1 hAo hno hsub hS dL_remove_13 (fun H2 locs2 wo1 hw1 hP hO2 hS => ?_)
  refine lv_goto (tgt := 25) hx hb dL_remove_14 (by decide) ?_
  refine lv_iconst (v := nI 0) hx hb dL_remove_25 (by decide) ?_
  exact m_iret hx hb hr hlk hS (Nat.le_of_ble_eq_true rfl) (Nat.le_of_ble_eq_true rfl) dL_remove_26 (⟨wo1, hO2, r3_0 (h1) (h2) ⟨r, hw1, hz9, _, _, _, _, _, hP, hD, hR⟩⟩)

set_option maxHeartbeats 4000000 in
set_option maxRecDepth 100000 in
theorem kL_kindOf (l : Launch) (K : m_K) (A : Nat → Prop) (H0 : Heap) (hl0 : l.stackTraces = false) (Ac : Nat → Prop) (hsub : ∀ q, Ac q → A q) (out : Nat) (hAo : A out) (hno : ¬ Ac out) (wo : Nat → Int64) (hO : OUT K out wo H0) (o : Nat) (ad : Nat → Nat) (fb : Nat → Nat) (on fw : Nat → Int32) (dr : List Int32) (fm : Nat → Option Frm) (vs ch : Nat → Int32) (ps : List Pr) (hc9 : cOK K Ac H0 o ad fb on fw dr fm vs ch ps) (hA : ∀ q, H0.size ≤ q → Ac q) (x : Int32) (y : Int32) : Met l yL_kindOf wsL_kindOf ({ frames := 8, cells := 2, slots := 12, locals := 126 } : Room) (m_Pc K A H0 [.ref o, .int x, .int y, .ref out]) (va_Qi (fun r H1 => ∃ wo1, OUT K out wo1 H1 ∧ R3 (okN x 6) (okN y 2147483648) r (∃ v : Int32, wo1 0 = v.toInt64 ∧ v = nI (kindF on fw (tN x) y) ∧ cOK K Ac H1 o ad fb on fw dr fm vs ch ps) (cOK K Ac H1 o ad fb on fw dr fm vs ch ps)) m_B A) 2 12 A := by
  refine m_ofH (hh := [(0, 10, 13, 13), (0, 10, 17, 15)]) (by decide) rfl (Nat.le_of_ble_eq_true rfl) ?_
  intro p e s m args below meth c ls hx hb hr hml hown hts hlk htab hE hsz hS hl
  have hl : lv_has ls 5 [(0, .ref o), (1, .int x), (2, .int y), (3, .ref out)] := hl
  obtain ⟨f9, d9, ft9, li9, T9, hP9, hD9, hR9⟩ := id hc9
  refine lv_aload_n hx hb dL_kindOf_0 rfl (lv_at hl 3 rfl) ?_
  refine lv_iconst (v := nI 0) hx hb dL_kindOf_1 (by decide) ?_
  refine lv_aload_n hx hb dL_kindOf_2 rfl (lv_at hl 0 rfl) ?_
  refine lv_iload_n hx hb dL_kindOf_3 rfl (lv_at hl 1 rfl) ?_
  refine lv_iload_n hx hb dL_kindOf_4 rfl (lv_at hl 2 rfl) ?_
  refine m_xVi (rest := [.int (nI 0), .ref out]) ⟨hx, hb, hml, hown, hts⟩ hE hS hsub (kX2_kindOf l hl0 K Ac H0 o ad fb on fw dr fm vs ch ps hc9 x y) (cwV 2 hts gL_kindOf_X2_kindOf rfl rfl rfl (by decide +kernel) ⟨Nat.le_of_ble_eq_true rfl, Nat.le_of_ble_eq_true rfl⟩) (va_recv hE.k hP9 (ci := 3) (q0 := 0) rfl rfl) rfl rfl hl.1 rfl (Nat.le_of_ble_eq_true rfl) dL_kindOf_5 ⟨Nat.le_of_ble_eq_true rfl, Nat.le_of_ble_eq_true rfl⟩ (fun E ce q9 H1 locs1 hx9 hs9 hS9 g1 g2 g3 => ?_) (fun r H1 locs hp hS hk => ?_)
  · rcases hx9 with ⟨rfl, h1⟩ | ⟨rfl, h1, h2⟩
    · refine m_catch1 (b0 := 0) (e0 := 10) (h0 := 13) (t0 := 13) hE hown htab rfl (by decide) (hts (.classLink RL 13 m_IO) (by decide +kernel)) (by simp [m_cas]) g1 g2 g3 ?_
      have hS := hS9
      refine lv_astore (lv' := [(4, .ref q9), (0, .ref o), (1, .int x), (2, .int y), (3, .ref out)]) hx hb dL_kindOf_13 hl (by decide) rfl (fun ls hl => ?_)
      refine lv_iconst (v := nI 1) hx hb dL_kindOf_15 (by decide) ?_
      exact m_iret hx hb hr hlk hS (Nat.le_of_ble_eq_true rfl) (Nat.le_of_ble_eq_true rfl) dL_kindOf_16 (⟨wo, hO.k1 (hs9.2 out ((hO 0 _ rfl).lt)), r3_1 h1 (hc9.kept (fun q hq _ => hs9.2 q hq))⟩)
    · refine m_catch2 (b0 := 0) (e0 := 10) (h0 := 13) (t0 := 13) (b1 := 0) (e1 := 10) (h9 := 17) (t1 := 15) hE hown htab rfl (by decide) (by decide) (hts (.classLink RL 13 m_IO) (by decide +kernel)) (hts (.classLink RL 15 m_IA) (by decide +kernel)) (by simp [m_nca]) (by simp [m_cas]) g1 g2 g3 ?_
      have hS := hS9
      refine lv_astore (lv' := [(4, .ref q9), (0, .ref o), (1, .int x), (2, .int y), (3, .ref out)]) hx hb dL_kindOf_17 hl (by decide) rfl (fun ls hl => ?_)
      refine lv_iconst (v := nI 2) hx hb dL_kindOf_19 (by decide) ?_
      exact m_iret hx hb hr hlk hS (Nat.le_of_ble_eq_true rfl) (Nat.le_of_ble_eq_true rfl) dL_kindOf_20 (⟨wo, hO.k1 (hs9.2 out ((hO 0 _ rfl).lt)), r3_2 h1 h2 (hc9.kept (fun q hq _ => hs9.2 q hq))⟩)
  obtain ⟨h1, h2, hz9, rfl⟩ := hp
  have hc := hc9
  have hO1 : OUT K out wo _ := hO.k1 (hk out ((hO 0 _ rfl).lt) hno)
  obtain ⟨f, d, ft, li, T, hP, hD, hR⟩ := hc
  refine lv_i2l hx hb dL_kindOf_8 rfl ?_
  refine m_last1 hx hb hE.k hP hD hO1 hAo hno hsub hS dL_kindOf_9 (fun H2 locs2 wo1 hw1 hP hO2 hS => ?_)
  refine lv_goto (tgt := 21) hx hb dL_kindOf_10 (by decide) ?_
  refine lv_iconst (v := nI 0) hx hb dL_kindOf_21 (by decide) ?_
  exact m_iret hx hb hr hlk hS (Nat.le_of_ble_eq_true rfl) (Nat.le_of_ble_eq_true rfl) dL_kindOf_22 (⟨wo1, hO2, r3_0 (h1) (h2) ⟨r, hw1, hz9, _, _, _, _, _, hP, hD, hR⟩⟩)

set_option maxHeartbeats 4000000 in
set_option maxRecDepth 100000 in
theorem kL_forms (l : Launch) (K : m_K) (A : Nat → Prop) (H0 : Heap) (hl0 : l.stackTraces = false) (Ac : Nat → Prop) (hsub : ∀ q, Ac q → A q) (out : Nat) (hAo : A out) (hno : ¬ Ac out) (wo : Nat → Int64) (hO : OUT K out wo H0) (o : Nat) (ad : Nat → Nat) (fb : Nat → Nat) (on fw : Nat → Int32) (dr : List Int32) (fm : Nat → Option Frm) (vs ch : Nat → Int32) (ps : List Pr) (hc9 : cOK K Ac H0 o ad fb on fw dr fm vs ch ps) (hA : ∀ q, H0.size ≤ q → Ac q) (x : Int32) (y : Int32) : Met l yL_forms wsL_forms ({ frames := 8, cells := 2, slots := 12, locals := 126 } : Room) (m_Pc K A H0 [.ref o, .int x, .int y, .ref out]) (va_Qi (fun r H1 => ∃ wo1, OUT K out wo1 H1 ∧ R3 (okN x 10 ∧ okN y 6) (True) r (∃ v : Int32, wo1 0 = v.toInt64 ∧ v = nI (cntF fm (54 * tN x + 9 * tN y)) ∧ cOK K Ac H1 o ad fb on fw dr fm vs ch ps) (cOK K Ac H1 o ad fb on fw dr fm vs ch ps)) m_B A) 2 12 A := by
  refine m_ofH (hh := [(0, 10, 13, 13)]) (by decide) rfl (Nat.le_of_ble_eq_true rfl) ?_
  intro p e s m args below meth c ls hx hb hr hml hown hts hlk htab hE hsz hS hl
  have hl : lv_has ls 5 [(0, .ref o), (1, .int x), (2, .int y), (3, .ref out)] := hl
  obtain ⟨f9, d9, ft9, li9, T9, hP9, hD9, hR9⟩ := id hc9
  refine lv_aload_n hx hb dL_forms_0 rfl (lv_at hl 3 rfl) ?_
  refine lv_iconst (v := nI 0) hx hb dL_forms_1 (by decide) ?_
  refine lv_aload_n hx hb dL_forms_2 rfl (lv_at hl 0 rfl) ?_
  refine lv_iload_n hx hb dL_forms_3 rfl (lv_at hl 1 rfl) ?_
  refine lv_iload_n hx hb dL_forms_4 rfl (lv_at hl 2 rfl) ?_
  refine m_xVi (rest := [.int (nI 0), .ref out]) ⟨hx, hb, hml, hown, hts⟩ hE hS hsub (kX2_forms l hl0 K Ac H0 o ad fb on fw dr fm vs ch ps hc9 x y) (cwV 2 hts gL_forms_X2_forms rfl rfl rfl (by decide +kernel) ⟨Nat.le_of_ble_eq_true rfl, Nat.le_of_ble_eq_true rfl⟩) (va_recv hE.k hP9 (ci := 3) (q0 := 0) rfl rfl) rfl rfl hl.1 rfl (Nat.le_of_ble_eq_true rfl) dL_forms_5 ⟨Nat.le_of_ble_eq_true rfl, Nat.le_of_ble_eq_true rfl⟩ (fun E ce q9 H1 locs1 hx9 hs9 hS9 g1 g2 g3 => ?_) (fun r H1 locs hp hS hk => ?_)
  · obtain ⟨rfl, h1⟩ := hx9
    refine m_catch1 (b0 := 0) (e0 := 10) (h0 := 13) (t0 := 13) hE hown htab rfl (by decide) (hts (.classLink RL 13 m_IO) (by decide +kernel)) (by simp [m_cas]) g1 g2 g3 ?_
    have hS := hS9
    refine lv_astore (lv' := [(4, .ref q9), (0, .ref o), (1, .int x), (2, .int y), (3, .ref out)]) hx hb dL_forms_13 hl (by decide) rfl (fun ls hl => ?_)
    refine lv_iconst (v := nI 1) hx hb dL_forms_15 (by decide) ?_
    exact m_iret hx hb hr hlk hS (Nat.le_of_ble_eq_true rfl) (Nat.le_of_ble_eq_true rfl) dL_forms_16 (⟨wo, hO.k1 (hs9.2 out ((hO 0 _ rfl).lt)), r3_1 h1 (hc9.kept (fun q hq _ => hs9.2 q hq))⟩)
  obtain ⟨h1, hz9, rfl⟩ := hp
  have hc := hc9
  have hO1 : OUT K out wo _ := hO.k1 (hk out ((hO 0 _ rfl).lt) hno)
  obtain ⟨f, d, ft, li, T, hP, hD, hR⟩ := hc
  refine lv_i2l hx hb dL_forms_8 rfl ?_
  refine m_last1 hx hb hE.k hP hD hO1 hAo hno hsub hS dL_forms_9 (fun H2 locs2 wo1 hw1 hP hO2 hS => ?_)
  refine lv_goto (tgt := 17) hx hb dL_forms_10 (by decide) ?_
  refine lv_iconst (v := nI 0) hx hb dL_forms_17 (by decide) ?_
  exact m_iret hx hb hr hlk hS (Nat.le_of_ble_eq_true rfl) (Nat.le_of_ble_eq_true rfl) dL_forms_18 (⟨wo1, hO2, r3_0 (h1) (trivial) ⟨r, hw1, hz9, _, _, _, _, _, hP, hD, hR⟩⟩)

set_option maxHeartbeats 4000000 in
set_option maxRecDepth 100000 in
theorem kL_version (l : Launch) (K : m_K) (A : Nat → Prop) (H0 : Heap) (hl0 : l.stackTraces = false) (Ac : Nat → Prop) (hsub : ∀ q, Ac q → A q) (out : Nat) (hAo : A out) (hno : ¬ Ac out) (wo : Nat → Int64) (hO : OUT K out wo H0) (o : Nat) (ad : Nat → Nat) (fb : Nat → Nat) (on fw : Nat → Int32) (dr : List Int32) (fm : Nat → Option Frm) (vs ch : Nat → Int32) (ps : List Pr) (hc9 : cOK K Ac H0 o ad fb on fw dr fm vs ch ps) (hA : ∀ q, H0.size ≤ q → Ac q) (x : Int32) : Met l yL_version wsL_version ({ frames := 8, cells := 1, slots := 6, locals := 125 } : Room) (m_Pc K A H0 [.ref o, .int x, .ref out]) (va_Qi (fun r H1 => ∃ wo1, OUT K out wo1 H1 ∧ R3 (okN x 10) (True) r (∃ v : Int32, wo1 0 = v.toInt64 ∧ v = vs (tN x) ∧ cOK K Ac H1 o ad fb on fw dr fm vs ch ps) (cOK K Ac H1 o ad fb on fw dr fm vs ch ps)) m_B A) 1 6 A := by
  refine m_ofH (hh := [(0, 9, 12, 13)]) (by decide) rfl (Nat.le_of_ble_eq_true rfl) ?_
  intro p e s m args below meth c ls hx hb hr hml hown hts hlk htab hE hsz hS hl
  have hl : lv_has ls 4 [(0, .ref o), (1, .int x), (2, .ref out)] := hl
  obtain ⟨f9, d9, ft9, li9, T9, hP9, hD9, hR9⟩ := id hc9
  refine lv_aload_n hx hb dL_version_0 rfl (lv_at hl 2 rfl) ?_
  refine lv_iconst (v := nI 0) hx hb dL_version_1 (by decide) ?_
  refine lv_aload_n hx hb dL_version_2 rfl (lv_at hl 0 rfl) ?_
  refine lv_iload_n hx hb dL_version_3 rfl (lv_at hl 1 rfl) ?_
  refine m_xVi (rest := [.int (nI 0), .ref out]) ⟨hx, hb, hml, hown, hts⟩ hE hS hsub (kX2_version l hl0 K Ac H0 o ad fb on fw dr fm vs ch ps hc9 x) (cwV 1 hts gL_version_X2_version rfl rfl rfl (by decide +kernel) ⟨Nat.le_of_ble_eq_true rfl, Nat.le_of_ble_eq_true rfl⟩) (va_recv hE.k hP9 (ci := 3) (q0 := 0) rfl rfl) rfl rfl hl.1 rfl (Nat.le_of_ble_eq_true rfl) dL_version_4 ⟨Nat.le_of_ble_eq_true rfl, Nat.le_of_ble_eq_true rfl⟩ (fun E ce q9 H1 locs1 hx9 hs9 hS9 g1 g2 g3 => ?_) (fun r H1 locs hp hS hk => ?_)
  · obtain ⟨rfl, h1⟩ := hx9
    refine m_catch1 (b0 := 0) (e0 := 9) (h0 := 12) (t0 := 13) hE hown htab rfl (by decide) (hts (.classLink RL 13 m_IO) (by decide +kernel)) (by simp [m_cas]) g1 g2 g3 ?_
    have hS := hS9
    refine lv_astore_n (lv' := [(3, .ref q9), (0, .ref o), (1, .int x), (2, .ref out)]) hx hb dL_version_12 rfl hl (by decide) rfl (fun ls hl => ?_)
    refine lv_iconst (v := nI 1) hx hb dL_version_13 (by decide) ?_
    exact m_iret hx hb hr hlk hS (Nat.le_of_ble_eq_true rfl) (Nat.le_of_ble_eq_true rfl) dL_version_14 (⟨wo, hO.k1 (hs9.2 out ((hO 0 _ rfl).lt)), r3_1 h1 (hc9.kept (fun q hq _ => hs9.2 q hq))⟩)
  obtain ⟨h1, hz9, rfl⟩ := hp
  have hc := hc9
  have hO1 : OUT K out wo _ := hO.k1 (hk out ((hO 0 _ rfl).lt) hno)
  obtain ⟨f, d, ft, li, T, hP, hD, hR⟩ := hc
  refine lv_i2l hx hb dL_version_7 rfl ?_
  refine m_last1 hx hb hE.k hP hD hO1 hAo hno hsub hS dL_version_8 (fun H2 locs2 wo1 hw1 hP hO2 hS => ?_)
  refine lv_goto (tgt := 15) hx hb dL_version_9 (by decide) ?_
  refine lv_iconst (v := nI 0) hx hb dL_version_15 (by decide) ?_
  exact m_iret hx hb hr hlk hS (Nat.le_of_ble_eq_true rfl) (Nat.le_of_ble_eq_true rfl) dL_version_16 (⟨wo1, hO2, r3_0 (h1) (trivial) ⟨r, hw1, hz9, _, _, _, _, _, hP, hD, hR⟩⟩)

set_option maxHeartbeats 4000000 in
set_option maxRecDepth 100000 in
theorem kL_staleBy (l : Launch) (K : m_K) (A : Nat → Prop) (H0 : Heap) (hl0 : l.stackTraces = false) (Ac : Nat → Prop) (hsub : ∀ q, Ac q → A q) (out : Nat) (hAo : A out) (hno : ¬ Ac out) (wo : Nat → Int64) (hO : OUT K out wo H0) (o : Nat) (ad : Nat → Nat) (fb : Nat → Nat) (on fw : Nat → Int32) (dr : List Int32) (fm : Nat → Option Frm) (vs ch : Nat → Int32) (ps : List Pr) (hc9 : cOK K Ac H0 o ad fb on fw dr fm vs ch ps) (hA : ∀ q, H0.size ≤ q → Ac q) (x : Int32) (y : Int32) : Met l yL_staleBy wsL_staleBy ({ frames := 8, cells := 2, slots := 12, locals := 126 } : Room) (m_Pc K A H0 [.ref o, .int x, .int y, .ref out]) (va_Qi (fun r H1 => ∃ wo1, OUT K out wo1 H1 ∧ R3 (okN x 10 ∧ okN y 6) (True) r (∃ v : Int32, wo1 0 = v.toInt64 ∧ v = staleS fm vs ch (tN x) (tN y) ∧ cOK K Ac H1 o ad fb on fw dr fm vs ch ps) (cOK K Ac H1 o ad fb on fw dr fm vs ch ps)) m_B A) 2 12 A := by
  refine m_ofH (hh := [(0, 10, 13, 13)]) (by decide) rfl (Nat.le_of_ble_eq_true rfl) ?_
  intro p e s m args below meth c ls hx hb hr hml hown hts hlk htab hE hsz hS hl
  have hl : lv_has ls 5 [(0, .ref o), (1, .int x), (2, .int y), (3, .ref out)] := hl
  obtain ⟨f9, d9, ft9, li9, T9, hP9, hD9, hR9⟩ := id hc9
  refine lv_aload_n hx hb dL_staleBy_0 rfl (lv_at hl 3 rfl) ?_
  refine lv_iconst (v := nI 0) hx hb dL_staleBy_1 (by decide) ?_
  refine lv_aload_n hx hb dL_staleBy_2 rfl (lv_at hl 0 rfl) ?_
  refine lv_iload_n hx hb dL_staleBy_3 rfl (lv_at hl 1 rfl) ?_
  refine lv_iload_n hx hb dL_staleBy_4 rfl (lv_at hl 2 rfl) ?_
  refine m_xVi (rest := [.int (nI 0), .ref out]) ⟨hx, hb, hml, hown, hts⟩ hE hS hsub (kX2_staleBy l hl0 K Ac H0 o ad fb on fw dr fm vs ch ps hc9 x y) (cwV 2 hts gL_staleBy_X2_staleBy rfl rfl rfl (by decide +kernel) ⟨Nat.le_of_ble_eq_true rfl, Nat.le_of_ble_eq_true rfl⟩) (va_recv hE.k hP9 (ci := 3) (q0 := 0) rfl rfl) rfl rfl hl.1 rfl (Nat.le_of_ble_eq_true rfl) dL_staleBy_5 ⟨Nat.le_of_ble_eq_true rfl, Nat.le_of_ble_eq_true rfl⟩ (fun E ce q9 H1 locs1 hx9 hs9 hS9 g1 g2 g3 => ?_) (fun r H1 locs hp hS hk => ?_)
  · obtain ⟨rfl, h1⟩ := hx9
    refine m_catch1 (b0 := 0) (e0 := 10) (h0 := 13) (t0 := 13) hE hown htab rfl (by decide) (hts (.classLink RL 13 m_IO) (by decide +kernel)) (by simp [m_cas]) g1 g2 g3 ?_
    have hS := hS9
    refine lv_astore (lv' := [(4, .ref q9), (0, .ref o), (1, .int x), (2, .int y), (3, .ref out)]) hx hb dL_staleBy_13 hl (by decide) rfl (fun ls hl => ?_)
    refine lv_iconst (v := nI 1) hx hb dL_staleBy_15 (by decide) ?_
    exact m_iret hx hb hr hlk hS (Nat.le_of_ble_eq_true rfl) (Nat.le_of_ble_eq_true rfl) dL_staleBy_16 (⟨wo, hO.k1 (hs9.2 out ((hO 0 _ rfl).lt)), r3_1 h1 (hc9.kept (fun q hq _ => hs9.2 q hq))⟩)
  obtain ⟨h1, hz9, rfl⟩ := hp
  have hc := hc9
  have hO1 : OUT K out wo _ := hO.k1 (hk out ((hO 0 _ rfl).lt) hno)
  obtain ⟨f, d, ft, li, T, hP, hD, hR⟩ := hc
  refine lv_i2l hx hb dL_staleBy_8 rfl ?_
  refine m_last1 hx hb hE.k hP hD hO1 hAo hno hsub hS dL_staleBy_9 (fun H2 locs2 wo1 hw1 hP hO2 hS => ?_)
  refine lv_goto (tgt := 17) hx hb dL_staleBy_10 (by decide) ?_
  refine lv_iconst (v := nI 0) hx hb dL_staleBy_17 (by decide) ?_
  exact m_iret hx hb hr hlk hS (Nat.le_of_ble_eq_true rfl) (Nat.le_of_ble_eq_true rfl) dL_staleBy_18 (⟨wo1, hO2, r3_0 (h1) (trivial) ⟨r, hw1, hz9, _, _, _, _, _, hP, hD, hR⟩⟩)

set_option maxHeartbeats 4000000 in
set_option maxRecDepth 100000 in
theorem kL_missing (l : Launch) (K : m_K) (A : Nat → Prop) (H0 : Heap) (hl0 : l.stackTraces = false) (Ac : Nat → Prop) (hsub : ∀ q, Ac q → A q) (out : Nat) (hAo : A out) (hno : ¬ Ac out) (wo : Nat → Int64) (hO : OUT K out wo H0) (o : Nat) (ad : Nat → Nat) (fb : Nat → Nat) (on fw : Nat → Int32) (dr : List Int32) (fm : Nat → Option Frm) (vs ch : Nat → Int32) (ps : List Pr) (hc9 : cOK K Ac H0 o ad fb on fw dr fm vs ch ps) (hA : ∀ q, H0.size ≤ q → Ac q) (x : Int32) : Met l yL_missing wsL_missing ({ frames := 8, cells := 1, slots := 6, locals := 127 } : Room) (m_Pc K A H0 [.ref o, .int x, .ref out]) (va_Qi (fun r H1 => ∃ wo1, OUT K out wo1 H1 ∧ R3 (okN x 6) (True) r (∃ v : Int32, wo1 0 = v.toInt64 ∧ v = nI (missS fm (tN x) 10) ∧ cOK K Ac H1 o ad fb on fw dr fm vs ch ps) (cOK K Ac H1 o ad fb on fw dr fm vs ch ps)) m_B A) 1 6 A := by
  refine m_ofH (hh := [(0, 9, 12, 13)]) (by decide) rfl (Nat.le_of_ble_eq_true rfl) ?_
  intro p e s m args below meth c ls hx hb hr hml hown hts hlk htab hE hsz hS hl
  have hl : lv_has ls 4 [(0, .ref o), (1, .int x), (2, .ref out)] := hl
  obtain ⟨f9, d9, ft9, li9, T9, hP9, hD9, hR9⟩ := id hc9
  refine lv_aload_n hx hb dL_missing_0 rfl (lv_at hl 2 rfl) ?_
  refine lv_iconst (v := nI 0) hx hb dL_missing_1 (by decide) ?_
  refine lv_aload_n hx hb dL_missing_2 rfl (lv_at hl 0 rfl) ?_
  refine lv_iload_n hx hb dL_missing_3 rfl (lv_at hl 1 rfl) ?_
  refine m_xVi (rest := [.int (nI 0), .ref out]) ⟨hx, hb, hml, hown, hts⟩ hE hS hsub (kX2_missing l hl0 K Ac H0 o ad fb on fw dr fm vs ch ps hc9 x) (cwV 1 hts gL_missing_X2_missing rfl rfl rfl (by decide +kernel) ⟨Nat.le_of_ble_eq_true rfl, Nat.le_of_ble_eq_true rfl⟩) (va_recv hE.k hP9 (ci := 3) (q0 := 0) rfl rfl) rfl rfl hl.1 rfl (Nat.le_of_ble_eq_true rfl) dL_missing_4 ⟨Nat.le_of_ble_eq_true rfl, Nat.le_of_ble_eq_true rfl⟩ (fun E ce q9 H1 locs1 hx9 hs9 hS9 g1 g2 g3 => ?_) (fun r H1 locs hp hS hk => ?_)
  · obtain ⟨rfl, h1⟩ := hx9
    refine m_catch1 (b0 := 0) (e0 := 9) (h0 := 12) (t0 := 13) hE hown htab rfl (by decide) (hts (.classLink RL 13 m_IO) (by decide +kernel)) (by simp [m_cas]) g1 g2 g3 ?_
    have hS := hS9
    refine lv_astore_n (lv' := [(3, .ref q9), (0, .ref o), (1, .int x), (2, .ref out)]) hx hb dL_missing_12 rfl hl (by decide) rfl (fun ls hl => ?_)
    refine lv_iconst (v := nI 1) hx hb dL_missing_13 (by decide) ?_
    exact m_iret hx hb hr hlk hS (Nat.le_of_ble_eq_true rfl) (Nat.le_of_ble_eq_true rfl) dL_missing_14 (⟨wo, hO.k1 (hs9.2 out ((hO 0 _ rfl).lt)), r3_1 h1 (hc9.kept (fun q hq _ => hs9.2 q hq))⟩)
  obtain ⟨h1, hz9, rfl⟩ := hp
  have hc := hc9
  have hO1 : OUT K out wo _ := hO.k1 (hk out ((hO 0 _ rfl).lt) hno)
  obtain ⟨f, d, ft, li, T, hP, hD, hR⟩ := hc
  refine lv_i2l hx hb dL_missing_7 rfl ?_
  refine m_last1 hx hb hE.k hP hD hO1 hAo hno hsub hS dL_missing_8 (fun H2 locs2 wo1 hw1 hP hO2 hS => ?_)
  refine lv_goto (tgt := 15) hx hb dL_missing_9 (by decide) ?_
  refine lv_iconst (v := nI 0) hx hb dL_missing_15 (by decide) ?_
  exact m_iret hx hb hr hlk hS (Nat.le_of_ble_eq_true rfl) (Nat.le_of_ble_eq_true rfl) dL_missing_16 (⟨wo1, hO2, r3_0 (h1) (trivial) ⟨r, hw1, hz9, _, _, _, _, _, hP, hD, hR⟩⟩)

set_option maxHeartbeats 4000000 in
set_option maxRecDepth 100000 in
theorem kL_fits (l : Launch) (K : m_K) (A : Nat → Prop) (H0 : Heap) (hl0 : l.stackTraces = false) (Ac : Nat → Prop) (hsub : ∀ q, Ac q → A q) (out : Nat) (hAo : A out) (hno : ¬ Ac out) (wo : Nat → Int64) (hO : OUT K out wo H0) (o : Nat) (ad : Nat → Nat) (fb : Nat → Nat) (on fw : Nat → Int32) (dr : List Int32) (fm : Nat → Option Frm) (vs ch : Nat → Int32) (ps : List Pr) (hc9 : cOK K Ac H0 o ad fb on fw dr fm vs ch ps) (hA : ∀ q, H0.size ≤ q → Ac q) (x : Int32) (y : Int32) (z : Int32) (w : Int32) : Met l yL_fits wsL_fits ({ frames := 9, cells := 4, slots := 24, locals := 151 } : Room) (m_Pc K A H0 [.ref o, .int x, .int y, .int z, .int w, .ref out]) (va_Qi (fun r H1 => ∃ wo1, OUT K out wo1 H1 ∧ R3 (okF x y z w) (True) r (∃ v : Int32, wo1 0 = v.toInt64 ∧ v = bI (fitF fm (tN x) (fm (54 * tN x + 9 * tN y + 3 * tN z + tN w))) ∧ cOK K Ac H1 o ad fb on fw dr fm vs ch ps) (cOK K Ac H1 o ad fb on fw dr fm vs ch ps)) m_B A) 4 24 A := by
  refine m_ofH (hh := [(0, 21, 24, 13)]) (by decide) rfl (Nat.le_of_ble_eq_true rfl) ?_
  intro p e s m args below meth c ls hx hb hr hml hown hts hlk htab hE hsz hS hl
  have hl : lv_has ls 7 [(0, .ref o), (1, .int x), (2, .int y), (3, .int z), (4, .int w), (5, .ref out)] := hl
  obtain ⟨f9, d9, ft9, li9, T9, hP9, hD9, hR9⟩ := id hc9
  refine lv_aload hx hb dL_fits_0 (lv_at hl 5 rfl) ?_
  refine lv_iconst (v := nI 0) hx hb dL_fits_2 (by decide) ?_
  refine lv_aload_n hx hb dL_fits_3 rfl (lv_at hl 0 rfl) ?_
  refine lv_iload_n hx hb dL_fits_4 rfl (lv_at hl 1 rfl) ?_
  refine lv_iload_n hx hb dL_fits_5 rfl (lv_at hl 2 rfl) ?_
  refine lv_iload_n hx hb dL_fits_6 rfl (lv_at hl 3 rfl) ?_
  refine lv_iload hx hb dL_fits_7 (lv_at hl 4 rfl) ?_
  refine m_xVi (rest := [.int (nI 0), .ref out]) ⟨hx, hb, hml, hown, hts⟩ hE hS hsub (kX2_fits l hl0 K Ac H0 o ad fb on fw dr fm vs ch ps hc9 x y z w) (cwV 4 hts gL_fits_X2_fits rfl rfl rfl (by decide +kernel) ⟨Nat.le_of_ble_eq_true rfl, Nat.le_of_ble_eq_true rfl⟩) (va_recv hE.k hP9 (ci := 3) (q0 := 0) rfl rfl) rfl rfl hl.1 rfl (Nat.le_of_ble_eq_true rfl) dL_fits_9 ⟨Nat.le_of_ble_eq_true rfl, Nat.le_of_ble_eq_true rfl⟩ (fun E ce q9 H1 locs1 hx9 hs9 hS9 g1 g2 g3 => ?_) (fun r H1 locs hp hS hk => ?_)
  · obtain ⟨rfl, h1⟩ := hx9
    refine m_catch1 (b0 := 0) (e0 := 21) (h0 := 24) (t0 := 13) hE hown htab rfl (by decide) (hts (.classLink RL 13 m_IO) (by decide +kernel)) (by simp [m_cas]) g1 g2 g3 ?_
    have hS := hS9
    refine lv_astore (lv' := [(6, .ref q9), (0, .ref o), (1, .int x), (2, .int y), (3, .int z), (4, .int w), (5, .ref out)]) hx hb dL_fits_24 hl (by decide) rfl (fun ls hl => ?_)
    refine lv_iconst (v := nI 1) hx hb dL_fits_26 (by decide) ?_
    exact m_iret hx hb hr hlk hS (Nat.le_of_ble_eq_true rfl) (Nat.le_of_ble_eq_true rfl) dL_fits_27 (⟨wo, hO.k1 (hs9.2 out ((hO 0 _ rfl).lt)), r3_1 h1 (hc9.kept (fun q hq _ => hs9.2 q hq))⟩)
  obtain ⟨h1, rfl, rfl⟩ := hp
  have hc := hc9
  have hO1 : OUT K out wo _ := hO.k1 (hk out ((hO 0 _ rfl).lt) hno)
  obtain ⟨f, d, ft, li, T, hP, hD, hR⟩ := hc
  refine m_if_eq_b (tgt := 19) hx hb dL_fits_12 (by decide) (fun c_12 => ?_) (fun c_12 => ?_)
  · refine lv_lconst (v := (bI false).toInt64) hx hb dL_fits_19 (by decide) ?_
    refine m_last1 hx hb hE.k hP hD hO1 hAo hno hsub hS dL_fits_20 (fun H2 locs2 wo1 hw1 hP hO2 hS => ?_)
    refine lv_goto (tgt := 28) hx hb dL_fits_21 (by decide) ?_
    refine lv_iconst (v := nI 0) hx hb dL_fits_28 (by decide) ?_
    exact m_iret hx hb hr hlk hS (Nat.le_of_ble_eq_true rfl) (Nat.le_of_ble_eq_true rfl) dL_fits_29 (⟨wo1, hO2, r3_0 (h1) (trivial) ⟨bI false, hw1, (by rw [c_12]), _, _, _, _, _, hP, hD, hR⟩⟩)
  · refine lv_lconst (v := (bI true).toInt64) hx hb dL_fits_15 (by decide) ?_
    refine lv_goto (tgt := 20) hx hb dL_fits_16 (by decide) ?_
    refine m_last1 hx hb hE.k hP hD hO1 hAo hno hsub hS dL_fits_20 (fun H2 locs2 wo1 hw1 hP hO2 hS => ?_)
    refine lv_goto (tgt := 28) hx hb dL_fits_21 (by decide) ?_
    refine lv_iconst (v := nI 0) hx hb dL_fits_28 (by decide) ?_
    exact m_iret hx hb hr hlk hS (Nat.le_of_ble_eq_true rfl) (Nat.le_of_ble_eq_true rfl) dL_fits_29 (⟨wo1, hO2, r3_0 (h1) (trivial) ⟨bI true, hw1, (by rw [c_12]), _, _, _, _, _, hP, hD, hR⟩⟩)

set_option maxHeartbeats 4000000 in
set_option maxRecDepth 100000 in
theorem kL_toldBy (l : Launch) (K : m_K) (A : Nat → Prop) (H0 : Heap) (hl0 : l.stackTraces = false) (Ac : Nat → Prop) (hsub : ∀ q, Ac q → A q) (out : Nat) (hAo : A out) (hno : ¬ Ac out) (wo : Nat → Int64) (hO : OUT K out wo H0) (o : Nat) (ad : Nat → Nat) (fb : Nat → Nat) (on fw : Nat → Int32) (dr : List Int32) (fm : Nat → Option Frm) (vs ch : Nat → Int32) (ps : List Pr) (hc9 : cOK K Ac H0 o ad fb on fw dr fm vs ch ps) (hA : ∀ q, H0.size ≤ q → Ac q) (x : Int32) (y : Int32) (z : Int32) (w : Int32) : Met l yL_toldBy wsL_toldBy ({ frames := 9, cells := 4, slots := 24, locals := 196 } : Room) (m_Pc K A H0 [.ref o, .int x, .int y, .int z, .int w, .ref out]) (va_Qi (fun r H1 => ∃ wo1, OUT K out wo1 H1 ∧ R3 (okQ x y w) (okN z 2147483648) r (∃ v : Int32, wo1 0 = v.toInt64 ∧ v = lgS (tellS fb on fw fm (tN x) (tN y) z (tN w)) ∧ cOK K Ac H1 o ad fb on fw dr fm vs ch ps) (cOK K Ac H1 o ad fb on fw dr fm vs ch ps)) m_B A) 4 24 A := by
  refine m_ofH (hh := [(0, 14, 17, 13), (0, 14, 21, 15)]) (by decide) rfl (Nat.le_of_ble_eq_true rfl) ?_
  intro p e s m args below meth c ls hx hb hr hml hown hts hlk htab hE hsz hS hl
  have hl : lv_has ls 7 [(0, .ref o), (1, .int x), (2, .int y), (3, .int z), (4, .int w), (5, .ref out)] := hl
  obtain ⟨f9, d9, ft9, li9, T9, hP9, hD9, hR9⟩ := id hc9
  refine lv_aload hx hb dL_toldBy_0 (lv_at hl 5 rfl) ?_
  refine lv_iconst (v := nI 0) hx hb dL_toldBy_2 (by decide) ?_
  refine lv_aload_n hx hb dL_toldBy_3 rfl (lv_at hl 0 rfl) ?_
  refine lv_iload_n hx hb dL_toldBy_4 rfl (lv_at hl 1 rfl) ?_
  refine lv_iload_n hx hb dL_toldBy_5 rfl (lv_at hl 2 rfl) ?_
  refine lv_iload_n hx hb dL_toldBy_6 rfl (lv_at hl 3 rfl) ?_
  refine lv_iload hx hb dL_toldBy_7 (lv_at hl 4 rfl) ?_
  refine m_xVi (rest := [.int (nI 0), .ref out]) ⟨hx, hb, hml, hown, hts⟩ hE hS hsub (kX2_toldBy l hl0 K Ac H0 o ad fb on fw dr fm vs ch ps hc9 x y z w) (cwV 4 hts gL_toldBy_X2_toldBy rfl rfl rfl (by decide +kernel) ⟨Nat.le_of_ble_eq_true rfl, Nat.le_of_ble_eq_true rfl⟩) (va_recv hE.k hP9 (ci := 3) (q0 := 0) rfl rfl) rfl rfl hl.1 rfl (Nat.le_of_ble_eq_true rfl) dL_toldBy_9 ⟨Nat.le_of_ble_eq_true rfl, Nat.le_of_ble_eq_true rfl⟩ (fun E ce q9 H1 locs1 hx9 hs9 hS9 g1 g2 g3 => ?_) (fun r H1 locs hp hS hk => ?_)
  · rcases hx9 with ⟨rfl, h1⟩ | ⟨rfl, h1, h2⟩
    · refine m_catch1 (b0 := 0) (e0 := 14) (h0 := 17) (t0 := 13) hE hown htab rfl (by decide) (hts (.classLink RL 13 m_IO) (by decide +kernel)) (by simp [m_cas]) g1 g2 g3 ?_
      have hS := hS9
      refine lv_astore (lv' := [(6, .ref q9), (0, .ref o), (1, .int x), (2, .int y), (3, .int z), (4, .int w), (5, .ref out)]) hx hb dL_toldBy_17 hl (by decide) rfl (fun ls hl => ?_)
      refine lv_iconst (v := nI 1) hx hb dL_toldBy_19 (by decide) ?_
      exact m_iret hx hb hr hlk hS (Nat.le_of_ble_eq_true rfl) (Nat.le_of_ble_eq_true rfl) dL_toldBy_20 (⟨wo, hO.k1 (hs9.2 out ((hO 0 _ rfl).lt)), r3_1 h1 (hc9.kept (fun q hq _ => hs9.2 q hq))⟩)
    · refine m_catch2 (b0 := 0) (e0 := 14) (h0 := 17) (t0 := 13) (b1 := 0) (e1 := 14) (h9 := 21) (t1 := 15) hE hown htab rfl (by decide) (by decide) (hts (.classLink RL 13 m_IO) (by decide +kernel)) (hts (.classLink RL 15 m_IA) (by decide +kernel)) (by simp [m_nca]) (by simp [m_cas]) g1 g2 g3 ?_
      have hS := hS9
      refine lv_astore (lv' := [(6, .ref q9), (0, .ref o), (1, .int x), (2, .int y), (3, .int z), (4, .int w), (5, .ref out)]) hx hb dL_toldBy_21 hl (by decide) rfl (fun ls hl => ?_)
      refine lv_iconst (v := nI 2) hx hb dL_toldBy_23 (by decide) ?_
      exact m_iret hx hb hr hlk hS (Nat.le_of_ble_eq_true rfl) (Nat.le_of_ble_eq_true rfl) dL_toldBy_24 (⟨wo, hO.k1 (hs9.2 out ((hO 0 _ rfl).lt)), r3_2 h1 h2 (hc9.kept (fun q hq _ => hs9.2 q hq))⟩)
  obtain ⟨⟨h1, h2⟩, hz9, rfl⟩ := hp
  have hc := hc9
  have hO1 : OUT K out wo _ := hO.k1 (hk out ((hO 0 _ rfl).lt) hno)
  obtain ⟨f, d, ft, li, T, hP, hD, hR⟩ := hc
  refine lv_i2l hx hb dL_toldBy_12 rfl ?_
  refine m_last1 hx hb hE.k hP hD hO1 hAo hno hsub hS dL_toldBy_13 (fun H2 locs2 wo1 hw1 hP hO2 hS => ?_)
  refine lv_goto (tgt := 25) hx hb dL_toldBy_14 (by decide) ?_
  refine lv_iconst (v := nI 0) hx hb dL_toldBy_25 (by decide) ?_
  exact m_iret hx hb hr hlk hS (Nat.le_of_ble_eq_true rfl) (Nat.le_of_ble_eq_true rfl) dL_toldBy_26 (⟨wo1, hO2, r3_0 (h1) (h2) ⟨r, hw1, hz9, _, _, _, _, _, hP, hD, hR⟩⟩)

set_option maxHeartbeats 4000000 in
set_option maxRecDepth 100000 in
theorem kL_toldByLooking (l : Launch) (K : m_K) (A : Nat → Prop) (H0 : Heap) (hl0 : l.stackTraces = false) (Ac : Nat → Prop) (hsub : ∀ q, Ac q → A q) (out : Nat) (hAo : A out) (hno : ¬ Ac out) (wo : Nat → Int64) (hO : OUT K out wo H0) (o : Nat) (ad : Nat → Nat) (fb : Nat → Nat) (on fw : Nat → Int32) (dr : List Int32) (fm : Nat → Option Frm) (vs ch : Nat → Int32) (ps : List Pr) (hc9 : cOK K Ac H0 o ad fb on fw dr fm vs ch ps) (hA : ∀ q, H0.size ≤ q → Ac q) (x : Int32) (y : Int32) (z : Int32) (w : Int32) : Met l yL_toldByLooking wsL_toldByLooking ({ frames := 9, cells := 4, slots := 24, locals := 151 } : Room) (m_Pc K A H0 [.ref o, .int x, .int y, .int z, .int w, .ref out]) (va_Qi (fun r H1 => ∃ wo1, OUT K out wo1 H1 ∧ R3 (okQ x y w) (okN z 2147483648) r (∃ v : Int32, wo1 0 = v.toInt64 ∧ v = lgS (tellS fb on fw fm (tN x) (tN y) z (tN w)) ∧ cOK K Ac H1 o ad fb on fw dr fm vs ch ps) (cOK K Ac H1 o ad fb on fw dr fm vs ch ps)) m_B A) 4 24 A := by
  refine m_ofH (hh := [(0, 14, 17, 13), (0, 14, 21, 15)]) (by decide) rfl (Nat.le_of_ble_eq_true rfl) ?_
  intro p e s m args below meth c ls hx hb hr hml hown hts hlk htab hE hsz hS hl
  have hl : lv_has ls 7 [(0, .ref o), (1, .int x), (2, .int y), (3, .int z), (4, .int w), (5, .ref out)] := hl
  obtain ⟨f9, d9, ft9, li9, T9, hP9, hD9, hR9⟩ := id hc9
  refine lv_aload hx hb dL_toldByLooking_0 (lv_at hl 5 rfl) ?_
  refine lv_iconst (v := nI 0) hx hb dL_toldByLooking_2 (by decide) ?_
  refine lv_aload_n hx hb dL_toldByLooking_3 rfl (lv_at hl 0 rfl) ?_
  refine lv_iload_n hx hb dL_toldByLooking_4 rfl (lv_at hl 1 rfl) ?_
  refine lv_iload_n hx hb dL_toldByLooking_5 rfl (lv_at hl 2 rfl) ?_
  refine lv_iload_n hx hb dL_toldByLooking_6 rfl (lv_at hl 3 rfl) ?_
  refine lv_iload hx hb dL_toldByLooking_7 (lv_at hl 4 rfl) ?_
  refine m_xVi (rest := [.int (nI 0), .ref out]) ⟨hx, hb, hml, hown, hts⟩ hE hS hsub (kX2_toldByLooking l hl0 K Ac H0 o ad fb on fw dr fm vs ch ps hc9 x y z w) (cwV 4 hts gL_toldByLooking_X2_toldByLooking rfl rfl rfl (by decide +kernel) ⟨Nat.le_of_ble_eq_true rfl, Nat.le_of_ble_eq_true rfl⟩) (va_recv hE.k hP9 (ci := 3) (q0 := 0) rfl rfl) rfl rfl hl.1 rfl (Nat.le_of_ble_eq_true rfl) dL_toldByLooking_9 ⟨Nat.le_of_ble_eq_true rfl, Nat.le_of_ble_eq_true rfl⟩ (fun E ce q9 H1 locs1 hx9 hs9 hS9 g1 g2 g3 => ?_) (fun r H1 locs hp hS hk => ?_)
  · rcases hx9 with ⟨rfl, h1⟩ | ⟨rfl, h1, h2⟩
    · refine m_catch1 (b0 := 0) (e0 := 14) (h0 := 17) (t0 := 13) hE hown htab rfl (by decide) (hts (.classLink RL 13 m_IO) (by decide +kernel)) (by simp [m_cas]) g1 g2 g3 ?_
      have hS := hS9
      refine lv_astore (lv' := [(6, .ref q9), (0, .ref o), (1, .int x), (2, .int y), (3, .int z), (4, .int w), (5, .ref out)]) hx hb dL_toldByLooking_17 hl (by decide) rfl (fun ls hl => ?_)
      refine lv_iconst (v := nI 1) hx hb dL_toldByLooking_19 (by decide) ?_
      exact m_iret hx hb hr hlk hS (Nat.le_of_ble_eq_true rfl) (Nat.le_of_ble_eq_true rfl) dL_toldByLooking_20 (⟨wo, hO.k1 (hs9.2 out ((hO 0 _ rfl).lt)), r3_1 h1 (hc9.kept (fun q hq _ => hs9.2 q hq))⟩)
    · refine m_catch2 (b0 := 0) (e0 := 14) (h0 := 17) (t0 := 13) (b1 := 0) (e1 := 14) (h9 := 21) (t1 := 15) hE hown htab rfl (by decide) (by decide) (hts (.classLink RL 13 m_IO) (by decide +kernel)) (hts (.classLink RL 15 m_IA) (by decide +kernel)) (by simp [m_nca]) (by simp [m_cas]) g1 g2 g3 ?_
      have hS := hS9
      refine lv_astore (lv' := [(6, .ref q9), (0, .ref o), (1, .int x), (2, .int y), (3, .int z), (4, .int w), (5, .ref out)]) hx hb dL_toldByLooking_21 hl (by decide) rfl (fun ls hl => ?_)
      refine lv_iconst (v := nI 2) hx hb dL_toldByLooking_23 (by decide) ?_
      exact m_iret hx hb hr hlk hS (Nat.le_of_ble_eq_true rfl) (Nat.le_of_ble_eq_true rfl) dL_toldByLooking_24 (⟨wo, hO.k1 (hs9.2 out ((hO 0 _ rfl).lt)), r3_2 h1 h2 (hc9.kept (fun q hq _ => hs9.2 q hq))⟩)
  obtain ⟨⟨h1, h2⟩, hz9, rfl⟩ := hp
  have hc := hc9
  have hO1 : OUT K out wo _ := hO.k1 (hk out ((hO 0 _ rfl).lt) hno)
  obtain ⟨f, d, ft, li, T, hP, hD, hR⟩ := hc
  refine lv_i2l hx hb dL_toldByLooking_12 rfl ?_
  refine m_last1 hx hb hE.k hP hD hO1 hAo hno hsub hS dL_toldByLooking_13 (fun H2 locs2 wo1 hw1 hP hO2 hS => ?_)
  refine lv_goto (tgt := 25) hx hb dL_toldByLooking_14 (by decide) ?_
  refine lv_iconst (v := nI 0) hx hb dL_toldByLooking_25 (by decide) ?_
  exact m_iret hx hb hr hlk hS (Nat.le_of_ble_eq_true rfl) (Nat.le_of_ble_eq_true rfl) dL_toldByLooking_26 (⟨wo1, hO2, r3_0 (h1) (h2) ⟨r, hw1, (hz9.trans (congrArg lgS (look_tell hc9.fb6 (tN_lt h1.1 (by decide)) (tN_lt h1.2.1 (by decide)) (tN_lt h1.2.2 (by decide))))), _, _, _, _, _, hP, hD, hR⟩⟩)

set_option maxHeartbeats 4000000 in
set_option maxRecDepth 100000 in
theorem kL_toldForm (l : Launch) (K : m_K) (A : Nat → Prop) (H0 : Heap) (hl0 : l.stackTraces = false) (Ac : Nat → Prop) (hsub : ∀ q, Ac q → A q) (out : Nat) (hAo : A out) (hno : ¬ Ac out) (wo : Nat → Int64) (hO : OUT K out wo H0) (o : Nat) (ad : Nat → Nat) (fb : Nat → Nat) (on fw : Nat → Int32) (dr : List Int32) (fm : Nat → Option Frm) (vs ch : Nat → Int32) (ps : List Pr) (hc9 : cOK K Ac H0 o ad fb on fw dr fm vs ch ps) (hA : ∀ q, H0.size ≤ q → Ac q) (x : Int32) (y : Int32) (z : Int32) (w : Int32) : Met l yL_toldForm wsL_toldForm ({ frames := 9, cells := 4, slots := 24, locals := 197 } : Room) (m_Pc K A H0 [.ref o, .int x, .int y, .int z, .int w, .ref out]) (va_Qi (fun r H1 => ∃ wo1, OUT K out wo1 H1 ∧ R3 (okQ x y w) (okN z 2147483648) r (∃ v : Int32, wo1 0 = v.toInt64 ∧ v = fmS (tellS fb on fw fm (tN x) (tN y) z (tN w)) ∧ cOK K Ac H1 o ad fb on fw dr fm vs ch ps) (cOK K Ac H1 o ad fb on fw dr fm vs ch ps)) m_B A) 4 24 A := by
  refine m_ofH (hh := [(0, 14, 17, 13), (0, 14, 21, 15)]) (by decide) rfl (Nat.le_of_ble_eq_true rfl) ?_
  intro p e s m args below meth c ls hx hb hr hml hown hts hlk htab hE hsz hS hl
  have hl : lv_has ls 7 [(0, .ref o), (1, .int x), (2, .int y), (3, .int z), (4, .int w), (5, .ref out)] := hl
  obtain ⟨f9, d9, ft9, li9, T9, hP9, hD9, hR9⟩ := id hc9
  refine lv_aload hx hb dL_toldForm_0 (lv_at hl 5 rfl) ?_
  refine lv_iconst (v := nI 0) hx hb dL_toldForm_2 (by decide) ?_
  refine lv_aload_n hx hb dL_toldForm_3 rfl (lv_at hl 0 rfl) ?_
  refine lv_iload_n hx hb dL_toldForm_4 rfl (lv_at hl 1 rfl) ?_
  refine lv_iload_n hx hb dL_toldForm_5 rfl (lv_at hl 2 rfl) ?_
  refine lv_iload_n hx hb dL_toldForm_6 rfl (lv_at hl 3 rfl) ?_
  refine lv_iload hx hb dL_toldForm_7 (lv_at hl 4 rfl) ?_
  refine m_xVi (rest := [.int (nI 0), .ref out]) ⟨hx, hb, hml, hown, hts⟩ hE hS hsub (kX2_toldForm l hl0 K Ac H0 o ad fb on fw dr fm vs ch ps hc9 x y z w) (cwV 4 hts gL_toldForm_X2_toldForm rfl rfl rfl (by decide +kernel) ⟨Nat.le_of_ble_eq_true rfl, Nat.le_of_ble_eq_true rfl⟩) (va_recv hE.k hP9 (ci := 3) (q0 := 0) rfl rfl) rfl rfl hl.1 rfl (Nat.le_of_ble_eq_true rfl) dL_toldForm_9 ⟨Nat.le_of_ble_eq_true rfl, Nat.le_of_ble_eq_true rfl⟩ (fun E ce q9 H1 locs1 hx9 hs9 hS9 g1 g2 g3 => ?_) (fun r H1 locs hp hS hk => ?_)
  · rcases hx9 with ⟨rfl, h1⟩ | ⟨rfl, h1, h2⟩
    · refine m_catch1 (b0 := 0) (e0 := 14) (h0 := 17) (t0 := 13) hE hown htab rfl (by decide) (hts (.classLink RL 13 m_IO) (by decide +kernel)) (by simp [m_cas]) g1 g2 g3 ?_
      have hS := hS9
      refine lv_astore (lv' := [(6, .ref q9), (0, .ref o), (1, .int x), (2, .int y), (3, .int z), (4, .int w), (5, .ref out)]) hx hb dL_toldForm_17 hl (by decide) rfl (fun ls hl => ?_)
      refine lv_iconst (v := nI 1) hx hb dL_toldForm_19 (by decide) ?_
      exact m_iret hx hb hr hlk hS (Nat.le_of_ble_eq_true rfl) (Nat.le_of_ble_eq_true rfl) dL_toldForm_20 (⟨wo, hO.k1 (hs9.2 out ((hO 0 _ rfl).lt)), r3_1 h1 (hc9.kept (fun q hq _ => hs9.2 q hq))⟩)
    · refine m_catch2 (b0 := 0) (e0 := 14) (h0 := 17) (t0 := 13) (b1 := 0) (e1 := 14) (h9 := 21) (t1 := 15) hE hown htab rfl (by decide) (by decide) (hts (.classLink RL 13 m_IO) (by decide +kernel)) (hts (.classLink RL 15 m_IA) (by decide +kernel)) (by simp [m_nca]) (by simp [m_cas]) g1 g2 g3 ?_
      have hS := hS9
      refine lv_astore (lv' := [(6, .ref q9), (0, .ref o), (1, .int x), (2, .int y), (3, .int z), (4, .int w), (5, .ref out)]) hx hb dL_toldForm_21 hl (by decide) rfl (fun ls hl => ?_)
      refine lv_iconst (v := nI 2) hx hb dL_toldForm_23 (by decide) ?_
      exact m_iret hx hb hr hlk hS (Nat.le_of_ble_eq_true rfl) (Nat.le_of_ble_eq_true rfl) dL_toldForm_24 (⟨wo, hO.k1 (hs9.2 out ((hO 0 _ rfl).lt)), r3_2 h1 h2 (hc9.kept (fun q hq _ => hs9.2 q hq))⟩)
  obtain ⟨⟨h1, h2⟩, hz9, rfl⟩ := hp
  have hc := hc9
  have hO1 : OUT K out wo _ := hO.k1 (hk out ((hO 0 _ rfl).lt) hno)
  obtain ⟨f, d, ft, li, T, hP, hD, hR⟩ := hc
  refine lv_i2l hx hb dL_toldForm_12 rfl ?_
  refine m_last1 hx hb hE.k hP hD hO1 hAo hno hsub hS dL_toldForm_13 (fun H2 locs2 wo1 hw1 hP hO2 hS => ?_)
  refine lv_goto (tgt := 25) hx hb dL_toldForm_14 (by decide) ?_
  refine lv_iconst (v := nI 0) hx hb dL_toldForm_25 (by decide) ?_
  exact m_iret hx hb hr hlk hS (Nat.le_of_ble_eq_true rfl) (Nat.le_of_ble_eq_true rfl) dL_toldForm_26 (⟨wo1, hO2, r3_0 (h1) (h2) ⟨r, hw1, hz9, _, _, _, _, _, hP, hD, hR⟩⟩)

set_option maxHeartbeats 4000000 in
set_option maxRecDepth 100000 in
theorem kL_toldSign (l : Launch) (K : m_K) (A : Nat → Prop) (H0 : Heap) (hl0 : l.stackTraces = false) (Ac : Nat → Prop) (hsub : ∀ q, Ac q → A q) (out : Nat) (hAo : A out) (hno : ¬ Ac out) (wo : Nat → Int64) (hO : OUT K out wo H0) (o : Nat) (ad : Nat → Nat) (fb : Nat → Nat) (on fw : Nat → Int32) (dr : List Int32) (fm : Nat → Option Frm) (vs ch : Nat → Int32) (ps : List Pr) (hc9 : cOK K Ac H0 o ad fb on fw dr fm vs ch ps) (hA : ∀ q, H0.size ≤ q → Ac q) (x : Int32) (y : Int32) (z : Int32) (w : Int32) (u : Int32) : Met l yL_toldSign wsL_toldSign ({ frames := 9, cells := 6, slots := 36, locals := 199 } : Room) (m_Pc K A H0 [.ref o, .int x, .int y, .int z, .int w, .int u, .ref out]) (va_Qi (fun r H1 => ∃ wo1, OUT K out wo1 H1 ∧ R3 (okQ x y w ∧ (okN z 2147483648 → ¬ signS fm (tellS fb on fw fm (tN x) (tN y) z (tN w)) u = none)) (okN z 2147483648) r (∃ v : Int32, wo1 0 = v.toInt64 ∧ signS fm (tellS fb on fw fm (tN x) (tN y) z (tN w)) u = some v ∧ cOK K Ac H1 o ad fb on fw dr fm vs ch ps) (cOK K Ac H1 o ad fb on fw dr fm vs ch ps)) m_B A) 6 36 A := by
  refine m_ofH (hh := [(0, 16, 19, 13), (0, 16, 23, 15)]) (by decide) rfl (Nat.le_of_ble_eq_true rfl) ?_
  intro p e s m args below meth c ls hx hb hr hml hown hts hlk htab hE hsz hS hl
  have hl : lv_has ls 8 [(0, .ref o), (1, .int x), (2, .int y), (3, .int z), (4, .int w), (5, .int u), (6, .ref out)] := hl
  obtain ⟨f9, d9, ft9, li9, T9, hP9, hD9, hR9⟩ := id hc9
  refine lv_aload hx hb dL_toldSign_0 (lv_at hl 6 rfl) ?_
  refine lv_iconst (v := nI 0) hx hb dL_toldSign_2 (by decide) ?_
  refine lv_aload_n hx hb dL_toldSign_3 rfl (lv_at hl 0 rfl) ?_
  refine lv_iload_n hx hb dL_toldSign_4 rfl (lv_at hl 1 rfl) ?_
  refine lv_iload_n hx hb dL_toldSign_5 rfl (lv_at hl 2 rfl) ?_
  refine lv_iload_n hx hb dL_toldSign_6 rfl (lv_at hl 3 rfl) ?_
  refine lv_iload hx hb dL_toldSign_7 (lv_at hl 4 rfl) ?_
  refine lv_iload hx hb dL_toldSign_9 (lv_at hl 5 rfl) ?_
  refine m_xVi (rest := [.int (nI 0), .ref out]) ⟨hx, hb, hml, hown, hts⟩ hE hS hsub (kX2_toldSign l hl0 K Ac H0 o ad fb on fw dr fm vs ch ps hc9 x y z w u) (cwV 5 hts gL_toldSign_X2_toldSign rfl rfl rfl (by decide +kernel) ⟨Nat.le_of_ble_eq_true rfl, Nat.le_of_ble_eq_true rfl⟩) (va_recv hE.k hP9 (ci := 3) (q0 := 0) rfl rfl) rfl rfl hl.1 rfl (Nat.le_of_ble_eq_true rfl) dL_toldSign_11 ⟨Nat.le_of_ble_eq_true rfl, Nat.le_of_ble_eq_true rfl⟩ (fun E ce q9 H1 locs1 hx9 hs9 hS9 g1 g2 g3 => ?_) (fun r H1 locs hp hS hk => ?_)
  · rcases hx9 with ⟨rfl, h1⟩ | ⟨rfl, h1, h2⟩ | ⟨rfl, h1, h2, h3⟩
    · refine m_catch1 (b0 := 0) (e0 := 16) (h0 := 19) (t0 := 13) hE hown htab rfl (by decide) (hts (.classLink RL 13 m_IO) (by decide +kernel)) (by simp [m_cas]) g1 g2 g3 ?_
      have hS := hS9
      refine lv_astore (lv' := [(7, .ref q9), (0, .ref o), (1, .int x), (2, .int y), (3, .int z), (4, .int w), (5, .int u), (6, .ref out)]) hx hb dL_toldSign_19 hl (by decide) rfl (fun ls hl => ?_)
      refine lv_iconst (v := nI 1) hx hb dL_toldSign_21 (by decide) ?_
      exact m_iret hx hb hr hlk hS (Nat.le_of_ble_eq_true rfl) (Nat.le_of_ble_eq_true rfl) dL_toldSign_22 (⟨wo, hO.k1 (hs9.2 out ((hO 0 _ rfl).lt)), r3_1 (fun z9 => h1 z9.1) (hc9.kept (fun q hq _ => hs9.2 q hq))⟩)
    · refine m_catch2 (b0 := 0) (e0 := 16) (h0 := 19) (t0 := 13) (b1 := 0) (e1 := 16) (h9 := 23) (t1 := 15) hE hown htab rfl (by decide) (by decide) (hts (.classLink RL 13 m_IO) (by decide +kernel)) (hts (.classLink RL 15 m_IA) (by decide +kernel)) (by simp [m_nca]) (by simp [m_cas]) g1 g2 g3 ?_
      have hS := hS9
      refine lv_astore (lv' := [(7, .ref q9), (0, .ref o), (1, .int x), (2, .int y), (3, .int z), (4, .int w), (5, .int u), (6, .ref out)]) hx hb dL_toldSign_23 hl (by decide) rfl (fun ls hl => ?_)
      refine lv_iconst (v := nI 2) hx hb dL_toldSign_25 (by decide) ?_
      exact m_iret hx hb hr hlk hS (Nat.le_of_ble_eq_true rfl) (Nat.le_of_ble_eq_true rfl) dL_toldSign_26 (⟨wo, hO.k1 (hs9.2 out ((hO 0 _ rfl).lt)), r3_2 ⟨h1, fun z9 => absurd z9 h2⟩ h2 (hc9.kept (fun q hq _ => hs9.2 q hq))⟩)
    · refine m_catch1 (b0 := 0) (e0 := 16) (h0 := 19) (t0 := 13) hE hown htab rfl (by decide) (hts (.classLink RL 13 m_IO) (by decide +kernel)) (by simp [m_cas]) g1 g2 g3 ?_
      have hS := hS9
      refine lv_astore (lv' := [(7, .ref q9), (0, .ref o), (1, .int x), (2, .int y), (3, .int z), (4, .int w), (5, .int u), (6, .ref out)]) hx hb dL_toldSign_19 hl (by decide) rfl (fun ls hl => ?_)
      refine lv_iconst (v := nI 1) hx hb dL_toldSign_21 (by decide) ?_
      exact m_iret hx hb hr hlk hS (Nat.le_of_ble_eq_true rfl) (Nat.le_of_ble_eq_true rfl) dL_toldSign_22 (⟨wo, hO.k1 (hs9.2 out ((hO 0 _ rfl).lt)), r3_1 (fun z9 => z9.2 h2 h3) (hc9.kept (fun q hq _ => hs9.2 q hq))⟩)
  obtain ⟨⟨h1, h2⟩, hz9, rfl⟩ := hp
  have hc := hc9
  have hO1 : OUT K out wo _ := hO.k1 (hk out ((hO 0 _ rfl).lt) hno)
  obtain ⟨f, d, ft, li, T, hP, hD, hR⟩ := hc
  refine lv_i2l hx hb dL_toldSign_14 rfl ?_
  refine m_last1 hx hb hE.k hP hD hO1 hAo hno hsub hS dL_toldSign_15 (fun H2 locs2 wo1 hw1 hP hO2 hS => ?_)
  refine lv_goto (tgt := 27) hx hb dL_toldSign_16 (by decide) ?_
  refine lv_iconst (v := nI 0) hx hb dL_toldSign_27 (by decide) ?_
  exact m_iret hx hb hr hlk hS (Nat.le_of_ble_eq_true rfl) (Nat.le_of_ble_eq_true rfl) dL_toldSign_28 (⟨wo1, hO2, r3_0 (⟨h1, fun _ z9 => by rw [hz9] at z9; cases z9⟩) (h2) ⟨r, hw1, hz9, _, _, _, _, _, hP, hD, hR⟩⟩)

set_option maxHeartbeats 4000000 in
set_option maxRecDepth 100000 in
theorem kL_nearDistance (l : Launch) (K : m_K) (A : Nat → Prop) (H0 : Heap) (hl0 : l.stackTraces = false) (Ac : Nat → Prop) (hsub : ∀ q, Ac q → A q) (out : Nat) (hAo : A out) (hno : ¬ Ac out) (wo : Nat → Int64) (hO : OUT K out wo H0) (o : Nat) (ad : Nat → Nat) (fb : Nat → Nat) (on fw : Nat → Int32) (dr : List Int32) (fm : Nat → Option Frm) (vs ch : Nat → Int32) (ps : List Pr) (hc9 : cOK K Ac H0 o ad fb on fw dr fm vs ch ps) (hA : ∀ q, H0.size ≤ q → Ac q) (x : Int32) (y : Int32) (z : Int32) (w : Int32) : Met l yL_nearDistance wsL_nearDistance ({ frames := 9, cells := 4, slots := 24, locals := 153 } : Room) (m_Pc K A H0 [.ref o, .int x, .int y, .int z, .int w, .ref out]) (va_Qi (fun r H1 => ∃ wo1, OUT K out wo1 H1 ∧ R3 (okF x y z w) (True) r (∃ v : Int32, wo1 0 = v.toInt64 ∧ v = nearD (fm (54 * tN x + 3 * tN z + tN w)) ps (tN y) ∧ cOK K Ac H1 o ad fb on fw dr fm vs ch ps) (cOK K Ac H1 o ad fb on fw dr fm vs ch ps)) m_B A) 4 24 A := by
  refine m_ofH (hh := [(0, 14, 17, 13)]) (by decide) rfl (Nat.le_of_ble_eq_true rfl) ?_
  intro p e s m args below meth c ls hx hb hr hml hown hts hlk htab hE hsz hS hl
  have hl : lv_has ls 7 [(0, .ref o), (1, .int x), (2, .int y), (3, .int z), (4, .int w), (5, .ref out)] := hl
  obtain ⟨f9, d9, ft9, li9, T9, hP9, hD9, hR9⟩ := id hc9
  refine lv_aload hx hb dL_nearDistance_0 (lv_at hl 5 rfl) ?_
  refine lv_iconst (v := nI 0) hx hb dL_nearDistance_2 (by decide) ?_
  refine lv_aload_n hx hb dL_nearDistance_3 rfl (lv_at hl 0 rfl) ?_
  refine lv_iload_n hx hb dL_nearDistance_4 rfl (lv_at hl 1 rfl) ?_
  refine lv_iload_n hx hb dL_nearDistance_5 rfl (lv_at hl 2 rfl) ?_
  refine lv_iload_n hx hb dL_nearDistance_6 rfl (lv_at hl 3 rfl) ?_
  refine lv_iload hx hb dL_nearDistance_7 (lv_at hl 4 rfl) ?_
  refine m_xVi (rest := [.int (nI 0), .ref out]) ⟨hx, hb, hml, hown, hts⟩ hE hS hsub (kX2_nearDistance l hl0 K Ac H0 o ad fb on fw dr fm vs ch ps hc9 x y z w) (cwV 4 hts gL_nearDistance_X2_nearDistance rfl rfl rfl (by decide +kernel) ⟨Nat.le_of_ble_eq_true rfl, Nat.le_of_ble_eq_true rfl⟩) (va_recv hE.k hP9 (ci := 3) (q0 := 0) rfl rfl) rfl rfl hl.1 rfl (Nat.le_of_ble_eq_true rfl) dL_nearDistance_9 ⟨Nat.le_of_ble_eq_true rfl, Nat.le_of_ble_eq_true rfl⟩ (fun E ce q9 H1 locs1 hx9 hs9 hS9 g1 g2 g3 => ?_) (fun r H1 locs hp hS hk => ?_)
  · obtain ⟨rfl, h1⟩ := hx9
    refine m_catch1 (b0 := 0) (e0 := 14) (h0 := 17) (t0 := 13) hE hown htab rfl (by decide) (hts (.classLink RL 13 m_IO) (by decide +kernel)) (by simp [m_cas]) g1 g2 g3 ?_
    have hS := hS9
    refine lv_astore (lv' := [(6, .ref q9), (0, .ref o), (1, .int x), (2, .int y), (3, .int z), (4, .int w), (5, .ref out)]) hx hb dL_nearDistance_17 hl (by decide) rfl (fun ls hl => ?_)
    refine lv_iconst (v := nI 1) hx hb dL_nearDistance_19 (by decide) ?_
    exact m_iret hx hb hr hlk hS (Nat.le_of_ble_eq_true rfl) (Nat.le_of_ble_eq_true rfl) dL_nearDistance_20 (⟨wo, hO.k1 (hs9.2 out ((hO 0 _ rfl).lt)), r3_1 h1 (hc9.kept (fun q hq _ => hs9.2 q hq))⟩)
  obtain ⟨h1, hz9, hc⟩ := hp
  have hO1 : OUT K out wo _ := hO.k1 (hk out ((hO 0 _ rfl).lt) hno)
  obtain ⟨f, d, ft, li, T, hP, hD, hR⟩ := hc
  refine lv_i2l hx hb dL_nearDistance_12 rfl ?_
  refine m_last1 hx hb hE.k hP hD hO1 hAo hno hsub hS dL_nearDistance_13 (fun H2 locs2 wo1 hw1 hP hO2 hS => ?_)
  refine lv_goto (tgt := 21) hx hb dL_nearDistance_14 (by decide) ?_
  refine lv_iconst (v := nI 0) hx hb dL_nearDistance_21 (by decide) ?_
  exact m_iret hx hb hr hlk hS (Nat.le_of_ble_eq_true rfl) (Nat.le_of_ble_eq_true rfl) dL_nearDistance_22 (⟨wo1, hO2, r3_0 (h1) (trivial) ⟨r, hw1, hz9, _, _, _, _, _, hP, hD, hR⟩⟩)

set_option maxHeartbeats 4000000 in
set_option maxRecDepth 100000 in
theorem kL_nearSign (l : Launch) (K : m_K) (A : Nat → Prop) (H0 : Heap) (hl0 : l.stackTraces = false) (Ac : Nat → Prop) (hsub : ∀ q, Ac q → A q) (out : Nat) (hAo : A out) (hno : ¬ Ac out) (wo : Nat → Int64) (hO : OUT K out wo H0) (o : Nat) (ad : Nat → Nat) (fb : Nat → Nat) (on fw : Nat → Int32) (dr : List Int32) (fm : Nat → Option Frm) (vs ch : Nat → Int32) (ps : List Pr) (hc9 : cOK K Ac H0 o ad fb on fw dr fm vs ch ps) (hA : ∀ q, H0.size ≤ q → Ac q) (x : Int32) (y : Int32) (z : Int32) (w : Int32) (u : Int32) : Met l yL_nearSign wsL_nearSign ({ frames := 9, cells := 6, slots := 36, locals := 153 } : Room) (m_Pc K A H0 [.ref o, .int x, .int y, .int z, .int w, .int u, .ref out]) (va_Qi (fun r H1 => ∃ wo1, OUT K out wo1 H1 ∧ R3 (okF x y z w ∧ okN u 2147483648) (True) r (∃ v : Int32, wo1 0 = v.toInt64 ∧ v = nearS (fm (54 * tN x + 3 * tN z + tN w)) ps (tN y) (tN u) ∧ cOK K Ac H1 o ad fb on fw dr fm vs ch ps) (cOK K Ac H1 o ad fb on fw dr fm vs ch ps)) m_B A) 6 36 A := by
  refine m_ofH (hh := [(0, 16, 19, 13)]) (by decide) rfl (Nat.le_of_ble_eq_true rfl) ?_
  intro p e s m args below meth c ls hx hb hr hml hown hts hlk htab hE hsz hS hl
  have hl : lv_has ls 8 [(0, .ref o), (1, .int x), (2, .int y), (3, .int z), (4, .int w), (5, .int u), (6, .ref out)] := hl
  obtain ⟨f9, d9, ft9, li9, T9, hP9, hD9, hR9⟩ := id hc9
  refine lv_aload hx hb dL_nearSign_0 (lv_at hl 6 rfl) ?_
  refine lv_iconst (v := nI 0) hx hb dL_nearSign_2 (by decide) ?_
  refine lv_aload_n hx hb dL_nearSign_3 rfl (lv_at hl 0 rfl) ?_
  refine lv_iload_n hx hb dL_nearSign_4 rfl (lv_at hl 1 rfl) ?_
  refine lv_iload_n hx hb dL_nearSign_5 rfl (lv_at hl 2 rfl) ?_
  refine lv_iload_n hx hb dL_nearSign_6 rfl (lv_at hl 3 rfl) ?_
  refine lv_iload hx hb dL_nearSign_7 (lv_at hl 4 rfl) ?_
  refine lv_iload hx hb dL_nearSign_9 (lv_at hl 5 rfl) ?_
  refine m_xVi (rest := [.int (nI 0), .ref out]) ⟨hx, hb, hml, hown, hts⟩ hE hS hsub (kX2_nearSign l hl0 K Ac H0 o ad fb on fw dr fm vs ch ps hc9 x y z w u) (cwV 5 hts gL_nearSign_X2_nearSign rfl rfl rfl (by decide +kernel) ⟨Nat.le_of_ble_eq_true rfl, Nat.le_of_ble_eq_true rfl⟩) (va_recv hE.k hP9 (ci := 3) (q0 := 0) rfl rfl) rfl rfl hl.1 rfl (Nat.le_of_ble_eq_true rfl) dL_nearSign_11 ⟨Nat.le_of_ble_eq_true rfl, Nat.le_of_ble_eq_true rfl⟩ (fun E ce q9 H1 locs1 hx9 hs9 hS9 g1 g2 g3 => ?_) (fun r H1 locs hp hS hk => ?_)
  · obtain ⟨rfl, h1⟩ := hx9
    refine m_catch1 (b0 := 0) (e0 := 16) (h0 := 19) (t0 := 13) hE hown htab rfl (by decide) (hts (.classLink RL 13 m_IO) (by decide +kernel)) (by simp [m_cas]) g1 g2 g3 ?_
    have hS := hS9
    refine lv_astore (lv' := [(7, .ref q9), (0, .ref o), (1, .int x), (2, .int y), (3, .int z), (4, .int w), (5, .int u), (6, .ref out)]) hx hb dL_nearSign_19 hl (by decide) rfl (fun ls hl => ?_)
    refine lv_iconst (v := nI 1) hx hb dL_nearSign_21 (by decide) ?_
    exact m_iret hx hb hr hlk hS (Nat.le_of_ble_eq_true rfl) (Nat.le_of_ble_eq_true rfl) dL_nearSign_22 (⟨wo, hO.k1 (hs9.2 out ((hO 0 _ rfl).lt)), r3_1 h1 (hc9.kept (fun q hq _ => hs9.2 q hq))⟩)
  obtain ⟨h1, h2, hz9, hc⟩ := hp
  have hO1 : OUT K out wo _ := hO.k1 (hk out ((hO 0 _ rfl).lt) hno)
  obtain ⟨f, d, ft, li, T, hP, hD, hR⟩ := hc
  refine lv_i2l hx hb dL_nearSign_14 rfl ?_
  refine m_last1 hx hb hE.k hP hD hO1 hAo hno hsub hS dL_nearSign_15 (fun H2 locs2 wo1 hw1 hP hO2 hS => ?_)
  refine lv_goto (tgt := 23) hx hb dL_nearSign_16 (by decide) ?_
  refine lv_iconst (v := nI 0) hx hb dL_nearSign_23 (by decide) ?_
  exact m_iret hx hb hr hlk hS (Nat.le_of_ble_eq_true rfl) (Nat.le_of_ble_eq_true rfl) dL_nearSign_24 (⟨wo1, hO2, r3_0 (⟨h1, h2⟩) (trivial) ⟨r, hw1, hz9, _, _, _, _, _, hP, hD, hR⟩⟩)
