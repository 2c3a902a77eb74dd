set_option maxHeartbeats 4000000 in
set_option maxRecDepth 100000 in
theorem lc_setFallback {p : Program} {l : Launch} {e : Env} {s : State} {m : MethodId} {below : List Frame} {meth : Method} {c : Code} {b L : Nat} {xs : Nat → Int32} (hl0 : l.stackTraces = false) (hL : L ≤ 3072) (C0 : lw_At p s m meth c b L xs) (K : m_K) (hE : ENV K (fun q => s.heap.size ≤ q) s) (o : Nat) (ad : Nat → Nat) (om : Nat) (adm : Nat → Nat) (out : Nat) (hNo : s.heap.size ≤ om) (hoo : om ≤ out) (j : Nat) (hj : 6 * j + 6 ≤ L) {H : Heap} {locs : List Loc} {ls : Array Slot} (hSt : LSt K s.heap.size o ad om adm out H) (hS : va_S (fun q => s.heap.size ≤ q) s.heap H locs) (hl : lv_has ls 7 [(4, .int (nI (6 * j))), (0, .ref b), (1, .ref o), (2, .ref om), (3, .ref out)])
    (kk : ∀ (H1 : Heap) (locs1 : List Loc) (ls1 : Array Slot), LSt K s.heap.size o ad om adm out H1 → va_S (fun q => s.heap.size ≤ q) s.heap H1 locs1 → lv_has ls1 7 [(4, .int (nI (6 * j))), (0, .ref b), (1, .ref o), (2, .ref om), (3, .ref out)] → W p l e room_1 s m #[Value.ref b] below meth c H1 locs1 (64 + 18 * (j + 1)) (7000 + 220 * (j + 1)) (lw_Z below #[Value.ref b] s) (F0 m 1545 ls1 [])) :
    W p l e room_1 s m #[Value.ref b] below meth c H locs (64 + 18 * j) (7000 + 220 * j) (lw_Z below #[Value.ref b] s) (F0 m 132 ls []) := by
  obtain ⟨hx, hb, hr, hml, hown, hts0, hX, hbl, hlocks, hgv⟩ := C0
  have hts : ∀ w ∈ wsL_law, w.before #[Value.ref b] s = true := fun w h => hts0 w (wsL_law_in w h)
  have hbA : ¬ (fun q : Nat => s.heap.size ≤ q) b := Nat.not_le.mpr hbl
  obtain ⟨fb, on, fw, dr, fm, vs, ch, ps, la, wo, hc, hm, hO⟩ := hSt
  refine lv_aload_n hx hb dL_law_132 rfl (lv_at hl 2 rfl) ?_
  refine lv_aload_n hx hb dL_law_133 rfl (lv_at hl 1 rfl) ?_
  refine lv_iload hx hb dL_law_134 (lv_at hl 0 rfl) ?_
  refine lv_iconst (v := nI 1) hx hb dL_law_136 (by decide) ?_
  refine m_iadd hx hb dL_law_137 ?_
  refine m_sld hx hb hX hbl hbA hS (by omega) (by omega) dL_law_138 ?_
  refine lv_aload_n hx hb dL_law_139 rfl (lv_at hl 1 rfl) ?_
  refine lv_iload hx hb dL_law_140 (lv_at hl 0 rfl) ?_
  refine lv_iconst (v := nI 2) hx hb dL_law_142 (by decide) ?_
  refine m_iadd hx hb dL_law_143 ?_
  refine m_sld hx hb hX hbl hbA hS (by omega) (by omega) dL_law_144 ?_
  refine lv_aload_n hx hb dL_law_145 rfl (lv_at hl 4 rfl) ?_
  refine m_cWi (rest := []) ⟨hx, hb, hml, hown, hts⟩ hE hS (fun q h => h.1) (kL_setFallback l K (AwF s.heap.size om out) _ hl0 (AcF s.heap.size om out) (fun q h => ⟨h.1, h.2.elim Or.inl (fun z => Or.inr (Nat.le_of_lt z))⟩) out ⟨Nat.le_trans hNo hoo, Or.inr (Nat.le_refl _)⟩ (fun z => by have z2 := z.2; omega) wo hO o ad fb on fw dr fm vs ch ps hc (fun q hq => ⟨Nat.le_trans hS.1 hq, Or.inr (Nat.lt_of_lt_of_le hO.lt hq)⟩) (xs ((6 * j) + 1)) (xs ((6 * j) + 2))) (vx_cwSW 4 hts gL_law_L_setFallback rfl rfl rfl (by decide +kernel) ⟨Nat.le_of_ble_eq_true rfl, Nat.le_of_ble_eq_true rfl⟩) rfl rfl hl.1 rfl (Nat.le_of_ble_eq_true rfl) dL_law_146 ⟨by show _ ≤ 601024; omega, by show _ ≤ 7293034; omega⟩ (fun r H1 locs hp hS hk => ?_)
  obtain ⟨wo, hO9, hr3⟩ := hp
  have hm := hm.kept (fun q hq h => hk q hq (fun z => by have h1 := h.1; have h2 := h.2; have z2 := z.2; omega))
  have hO := hO9
  clear hk
  refine lv_istore (lv' := [(5, .int r), (4, .int (nI (6 * j))), (0, .ref b), (1, .ref o), (2, .ref om), (3, .ref out)]) hx hb dL_law_149 hl (by decide) rfl (fun ls hl => ?_)
  refine lv_aload_n hx hb dL_law_151 rfl (lv_at hl 4 rfl) ?_
  refine lv_aload_n hx hb dL_law_152 rfl (lv_at hl 2 rfl) ?_
  refine lv_iload hx hb dL_law_153 (lv_at hl 1 rfl) ?_
  refine lv_iconst (v := nI 1) hx hb dL_law_155 (by decide) ?_
  refine m_iadd hx hb dL_law_156 ?_
  refine m_sld hx hb hX hbl hbA hS (by omega) (by omega) dL_law_157 ?_
  refine lv_aload_n hx hb dL_law_158 rfl (lv_at hl 2 rfl) ?_
  refine lv_iload hx hb dL_law_159 (lv_at hl 1 rfl) ?_
  refine lv_iconst (v := nI 2) hx hb dL_law_161 (by decide) ?_
  refine m_iadd hx hb dL_law_162 ?_
  refine m_sld hx hb hX hbl hbA hS (by omega) (by omega) dL_law_163 ?_
  obtain ⟨f8, d8, pr8, ta8, ti8, hPm, hDm, hRm⟩ := id hm
  refine m_cVi (rest := []) ⟨hx, hb, hml, hown, hts⟩ hE hS (fun q h => Nat.le_trans hNo h.1) (kX3_setFallback l K (AmF om out) _ om adm fb on fw dr fm vs ch ps la hm (xs ((6 * j) + 1)) (xs ((6 * j) + 2))) (cwV 2 hts gL_law_X3_setFallback rfl rfl rfl (by decide +kernel) ⟨Nat.le_of_ble_eq_true rfl, Nat.le_of_ble_eq_true rfl⟩) (va_recv hE.k hPm (ci := 4) (q0 := 0) rfl rfl) rfl rfl hl.1 rfl (Nat.le_of_ble_eq_true rfl) dL_law_164 ⟨by show _ ≤ 601024; omega, by show _ ≤ 7293034; omega⟩ (fun r9 H2 locs hp hS hk2 => ?_)
  obtain ⟨k9, hq3⟩ := hp
  obtain ⟨hkk, hcase⟩ := r3_two hr3 hq3
  subst hkk
  have hO : OUT K out wo _ := hO.k1 (hk2 out hO.lt (fun z => absurd z.2 (Nat.lt_irrefl _)))
  rcases hcase with ⟨hk0, ⟨v, hv, hans, hc⟩, hans2, hm⟩ | ⟨hk0, hc, hm⟩
  · have hc := hc.kept (fun q hq h => hk2 q hq (fun z => by have h2 := h.2; have z1 := z.1; have z2 := z.2; omega))
    subst hk0
    have hvr := hans.trans hans2.symm
    rw [hvr] at hv
    refine lv_istore (lv' := [(6, .int r9), (5, .int (nI 0)), (4, .int (nI (6 * j))), (0, .ref b), (1, .ref o), (2, .ref om), (3, .ref out)]) hx hb dL_law_167 hl (by decide) rfl (fun ls hl => ?_)
    refine lv_aload_n hx hb dL_law_169 rfl (lv_at hl 5 rfl) ?_
    obtain ⟨f7, d7, pr7, ta7, ti7, hPm, hDm, hRm⟩ := id hm
    refine m_cVi (rest := []) ⟨hx, hb, hml, hown, hts⟩ hE hS (fun q h => Nat.le_trans hNo h.1) (kX3_thrown l K (AmF om out) _ om adm f7 d7 pr7 ta7 ti7 _ hPm) (cwV 0 hts gL_law_X3_thrown rfl rfl rfl (by decide +kernel) ⟨Nat.le_of_ble_eq_true rfl, Nat.le_of_ble_eq_true rfl⟩) (va_recv hE.k hPm (ci := 4) (q0 := 0) rfl rfl) rfl rfl hl.1 rfl (Nat.le_of_ble_eq_true rfl) dL_law_170 ⟨by show _ ≤ 601024; omega, by show _ ≤ 7293034; omega⟩ (fun r8 H3 locs hp hS hk3 => ?_)
    obtain ⟨rfl, rfl⟩ := hp
    refine lv_iload hx hb dL_law_173 (lv_at hl 1 rfl) ?_
    refine m_icmp_eq (tgt := 180) hx hb (by omega) (by omega) dL_law_175 (by decide) (fun c_175 => ?_) (fun c_175 => ?_)
    · refine lv_iload hx hb dL_law_180 (lv_at hl 1 rfl) ?_
      refine m_if_ne (tgt := 197) hx hb (by omega) dL_law_182 (by decide) (fun c_182 => ?_) (fun c_182 => ?_)
      · exact absurd rfl c_182
      · refine lv_aload_n hx hb dL_law_185 rfl (lv_at hl 6 rfl) ?_
        refine lv_iconst (v := nI 0) hx hb dL_law_186 (by decide) ?_
        refine m_lald1 hx hb hE.k hO hv dL_law_187 ?_
        refine lv_iload hx hb dL_law_188 (lv_at hl 0 rfl) ?_
        refine lv_i2l hx hb dL_law_190 rfl ?_
        refine m_lcmp0 hx hb dL_law_191 ?_
        refine lv_if_eq (tgt := 197) hx hb dL_law_192 (by decide) (fun c_192 => ?_) (fun c_192 => ?_)
        · refine lv_goto (tgt := 1545) hx hb dL_law_197 (by decide) ?_
          refine W.widen (k := 64 + 18 * (j + 1)) (n := 7000 + 220 * (j + 1)) (by omega) (by omega) ?_
          exact kk _ _ _ ⟨_, _, _, _, _, _, _, _, _, _, hc, hm, hO⟩ hS (lv_sub hl [2, 3, 4, 5, 6] rfl)
        · exact absurd rfl c_192
    · exact absurd rfl c_175
  · have hc := hc.kept (fun q hq h => hk2 q hq (fun z => by have h2 := h.2; have z1 := z.1; have z2 := z.2; omega))
    refine lv_istore (lv' := [(6, .int r9), (5, .int r), (4, .int (nI (6 * j))), (0, .ref b), (1, .ref o), (2, .ref om), (3, .ref out)]) hx hb dL_law_167 hl (by decide) rfl (fun ls hl => ?_)
    refine lv_aload_n hx hb dL_law_169 rfl (lv_at hl 5 rfl) ?_
    obtain ⟨f7, d7, pr7, ta7, ti7, hPm, hDm, hRm⟩ := id hm
    refine m_cVi (rest := []) ⟨hx, hb, hml, hown, hts⟩ hE hS (fun q h => Nat.le_trans hNo h.1) (kX3_thrown l K (AmF om out) _ om adm f7 d7 pr7 ta7 ti7 _ hPm) (cwV 0 hts gL_law_X3_thrown rfl rfl rfl (by decide +kernel) ⟨Nat.le_of_ble_eq_true rfl, Nat.le_of_ble_eq_true rfl⟩) (va_recv hE.k hPm (ci := 4) (q0 := 0) rfl rfl) rfl rfl hl.1 rfl (Nat.le_of_ble_eq_true rfl) dL_law_170 ⟨by show _ ≤ 601024; omega, by show _ ≤ 7293034; omega⟩ (fun r8 H3 locs hp hS hk3 => ?_)
    obtain ⟨rfl, rfl⟩ := hp
    refine lv_iload hx hb dL_law_173 (lv_at hl 1 rfl) ?_
    refine lv_icmp_eq (tgt := 180) hx hb dL_law_175 (by decide) (fun c_175 => ?_) (fun c_175 => ?_)
    · refine lv_iload hx hb dL_law_180 (lv_at hl 1 rfl) ?_
      refine lv_if_ne (tgt := 197) hx hb dL_law_182 (by decide) (fun c_182 => ?_) (fun c_182 => ?_)
      · refine lv_goto (tgt := 1545) hx hb dL_law_197 (by decide) ?_
        refine W.widen (k := 64 + 18 * (j + 1)) (n := 7000 + 220 * (j + 1)) (by omega) (by omega) ?_
        exact kk _ _ _ ⟨_, _, _, _, _, _, _, _, _, _, hc, hm, hO⟩ hS (lv_sub hl [2, 3, 4, 5, 6] rfl)
      · exact absurd (show _ = nI 0 from c_182) hk0
    · exact absurd rfl c_175

set_option maxHeartbeats 4000000 in
set_option maxRecDepth 100000 in
theorem lc_setNumbers {p : Program} {l : Launch} {e : Env} {s : State} {m : MethodId} {below : List Frame} {meth : Method} {c : Code} {b L : Nat} {xs : Nat → Int32} (hl0 : l.stackTraces = false) (hL : L ≤ 3072) (C0 : lw_At p s m meth c b L xs) (K : m_K) (hE : ENV K (fun q => s.heap.size ≤ q) s) (o : Nat) (ad : Nat → Nat) (om : Nat) (adm : Nat → Nat) (out : Nat) (hNo : s.heap.size ≤ om) (hoo : om ≤ out) (j : Nat) (hj : 6 * j + 6 ≤ L) {H : Heap} {locs : List Loc} {ls : Array Slot} (hSt : LSt K s.heap.size o ad om adm out H) (hS : va_S (fun q => s.heap.size ≤ q) s.heap H locs) (hl : lv_has ls 7 [(4, .int (nI (6 * j))), (0, .ref b), (1, .ref o), (2, .ref om), (3, .ref out)])
    (kk : ∀ (H1 : Heap) (locs1 : List Loc) (ls1 : Array Slot), LSt K s.heap.size o ad om adm out H1 → va_S (fun q => s.heap.size ≤ q) s.heap H1 locs1 → lv_has ls1 7 [(4, .int (nI (6 * j))), (0, .ref b), (1, .ref o), (2, .ref om), (3, .ref out)] → W p l e room_1 s m #[Value.ref b] below meth c H1 locs1 (64 + 18 * (j + 1)) (7000 + 220 * (j + 1)) (lw_Z below #[Value.ref b] s) (F0 m 1545 ls1 [])) :
    W p l e room_1 s m #[Value.ref b] below meth c H locs (64 + 18 * j) (7000 + 220 * j) (lw_Z below #[Value.ref b] s) (F0 m 200 ls []) := by
  obtain ⟨hx, hb, hr, hml, hown, hts0, hX, hbl, hlocks, hgv⟩ := C0
  have hts : ∀ w ∈ wsL_law, w.before #[Value.ref b] s = true := fun w h => hts0 w (wsL_law_in w h)
  have hbA : ¬ (fun q : Nat => s.heap.size ≤ q) b := Nat.not_le.mpr hbl
  obtain ⟨fb, on, fw, dr, fm, vs, ch, ps, la, wo, hc, hm, hO⟩ := hSt
  refine lv_aload_n hx hb dL_law_200 rfl (lv_at hl 2 rfl) ?_
  refine lv_aload_n hx hb dL_law_201 rfl (lv_at hl 1 rfl) ?_
  refine lv_iload hx hb dL_law_202 (lv_at hl 0 rfl) ?_
  refine lv_iconst (v := nI 1) hx hb dL_law_204 (by decide) ?_
  refine m_iadd hx hb dL_law_205 ?_
  refine m_sld hx hb hX hbl hbA hS (by omega) (by omega) dL_law_206 ?_
  refine lv_aload_n hx hb dL_law_207 rfl (lv_at hl 1 rfl) ?_
  refine lv_iload hx hb dL_law_208 (lv_at hl 0 rfl) ?_
  refine lv_iconst (v := nI 2) hx hb dL_law_210 (by decide) ?_
  refine m_iadd hx hb dL_law_211 ?_
  refine m_sld hx hb hX hbl hbA hS (by omega) (by omega) dL_law_212 ?_
  refine lv_aload_n hx hb dL_law_213 rfl (lv_at hl 1 rfl) ?_
  refine lv_iload hx hb dL_law_214 (lv_at hl 0 rfl) ?_
  refine lv_iconst (v := nI 3) hx hb dL_law_216 (by decide) ?_
  refine m_iadd hx hb dL_law_217 ?_
  refine m_sld hx hb hX hbl hbA hS (by omega) (by omega) dL_law_218 ?_
  refine m_cWi (rest := []) ⟨hx, hb, hml, hown, hts⟩ hE hS (fun q h => h.1) (kL_setNumbers l K (AcF s.heap.size om out) _ hl0 o ad fb on fw dr fm vs ch ps hc (fun q hq => ⟨Nat.le_trans hS.1 hq, Or.inr (Nat.lt_of_lt_of_le hO.lt hq)⟩) (xs ((6 * j) + 1)) (xs ((6 * j) + 2)) (xs ((6 * j) + 3))) (vx_cwSW 4 hts gL_law_L_setNumbers rfl rfl rfl (by decide +kernel) ⟨Nat.le_of_ble_eq_true rfl, Nat.le_of_ble_eq_true rfl⟩) rfl rfl hl.1 rfl (Nat.le_of_ble_eq_true rfl) dL_law_219 ⟨by show _ ≤ 601024; omega, by show _ ≤ 7293034; omega⟩ (fun r H1 locs hp hS hk => ?_)
  have hr3 := hp
  have hO : OUT K out wo _ := hO.k1 (hk out hO.lt (fun z => by have z2 := z.2; omega))
  have hm := hm.kept (fun q hq h => hk q hq (fun z => by have h1 := h.1; have h2 := h.2; have z2 := z.2; omega))
  clear hk
  refine lv_istore (lv' := [(5, .int r), (4, .int (nI (6 * j))), (0, .ref b), (1, .ref o), (2, .ref om), (3, .ref out)]) hx hb dL_law_222 hl (by decide) rfl (fun ls hl => ?_)
  refine lv_aload_n hx hb dL_law_224 rfl (lv_at hl 4 rfl) ?_
  refine lv_aload_n hx hb dL_law_225 rfl (lv_at hl 2 rfl) ?_
  refine lv_iload hx hb dL_law_226 (lv_at hl 1 rfl) ?_
  refine lv_iconst (v := nI 1) hx hb dL_law_228 (by decide) ?_
  refine m_iadd hx hb dL_law_229 ?_
  refine m_sld hx hb hX hbl hbA hS (by omega) (by omega) dL_law_230 ?_
  refine lv_aload_n hx hb dL_law_231 rfl (lv_at hl 2 rfl) ?_
  refine lv_iload hx hb dL_law_232 (lv_at hl 1 rfl) ?_
  refine lv_iconst (v := nI 2) hx hb dL_law_234 (by decide) ?_
  refine m_iadd hx hb dL_law_235 ?_
  refine m_sld hx hb hX hbl hbA hS (by omega) (by omega) dL_law_236 ?_
  refine lv_aload_n hx hb dL_law_237 rfl (lv_at hl 2 rfl) ?_
  refine lv_iload hx hb dL_law_238 (lv_at hl 1 rfl) ?_
  refine lv_iconst (v := nI 3) hx hb dL_law_240 (by decide) ?_
  refine m_iadd hx hb dL_law_241 ?_
  refine m_sld hx hb hX hbl hbA hS (by omega) (by omega) dL_law_242 ?_
  obtain ⟨f8, d8, pr8, ta8, ti8, hPm, hDm, hRm⟩ := id hm
  refine m_cVv (rest := []) ⟨hx, hb, hml, hown, hts⟩ hE hS (fun q h => Nat.le_trans hNo h.1) (kX3_setNumbers l K (AmF om out) _ om adm fb on fw dr fm vs ch ps la hm (xs ((6 * j) + 1)) (xs ((6 * j) + 2)) (xs ((6 * j) + 3))) (cwV 3 hts gL_law_X3_setNumbers rfl rfl rfl (by decide +kernel) ⟨Nat.le_of_ble_eq_true rfl, Nat.le_of_ble_eq_true rfl⟩) (va_recv hE.k hPm (ci := 4) (q0 := 0) rfl rfl) rfl rfl hl.1 rfl (Nat.le_of_ble_eq_true rfl) dL_law_243 ⟨by show _ ≤ 601024; omega, by show _ ≤ 7293034; omega⟩ (fun H2 locs hp hS hk2 => ?_)
  obtain ⟨k9, hq3⟩ := hp
  obtain ⟨hkk, hcase⟩ := r3_two hr3 hq3
  subst hkk
  have hO : OUT K out wo _ := hO.k1 (hk2 out hO.lt (fun z => absurd z.2 (Nat.lt_irrefl _)))
  rcases hcase with ⟨hk0, hc, hm⟩ | ⟨hk0, hc, hm⟩
  · have hc := hc.kept (fun q hq h => hk2 q hq (fun z => by have h2 := h.2; have z1 := z.1; have z2 := z.2; omega))
    subst hk0
    refine lv_aload_n hx hb dL_law_246 rfl (lv_at hl 4 rfl) ?_
    obtain ⟨f7, d7, pr7, ta7, ti7, hPm, hDm, hRm⟩ := id hm
    refine m_cVi (rest := []) ⟨hx, hb, hml, hown, hts⟩ hE hS (fun q h => Nat.le_trans hNo h.1) (kX3_thrown l K (AmF om out) _ om adm f7 d7 pr7 ta7 ti7 _ hPm) (cwV 0 hts gL_law_X3_thrown rfl rfl rfl (by decide +kernel) ⟨Nat.le_of_ble_eq_true rfl, Nat.le_of_ble_eq_true rfl⟩) (va_recv hE.k hPm (ci := 4) (q0 := 0) rfl rfl) rfl rfl hl.1 rfl (Nat.le_of_ble_eq_true rfl) dL_law_247 ⟨by show _ ≤ 601024; omega, by show _ ≤ 7293034; omega⟩ (fun r8 H3 locs hp hS hk3 => ?_)
    obtain ⟨rfl, rfl⟩ := hp
    refine lv_iload hx hb dL_law_250 (lv_at hl 0 rfl) ?_
    refine m_icmp_eq (tgt := 257) hx hb (by omega) (by omega) dL_law_252 (by decide) (fun c_252 => ?_) (fun c_252 => ?_)
    · refine lv_goto (tgt := 1545) hx hb dL_law_257 (by decide) ?_
      refine W.widen (k := 64 + 18 * (j + 1)) (n := 7000 + 220 * (j + 1)) (by omega) (by omega) ?_
      exact kk _ _ _ ⟨_, _, _, _, _, _, _, _, _, _, hc, hm, hO⟩ hS (lv_sub hl [1, 2, 3, 4, 5] rfl)
    · exact absurd rfl c_252
  · have hc := hc.kept (fun q hq h => hk2 q hq (fun z => by have h2 := h.2; have z1 := z.1; have z2 := z.2; omega))
    refine lv_aload_n hx hb dL_law_246 rfl (lv_at hl 4 rfl) ?_
    obtain ⟨f7, d7, pr7, ta7, ti7, hPm, hDm, hRm⟩ := id hm
    refine m_cVi (rest := []) ⟨hx, hb, hml, hown, hts⟩ hE hS (fun q h => Nat.le_trans hNo h.1) (kX3_thrown l K (AmF om out) _ om adm f7 d7 pr7 ta7 ti7 _ hPm) (cwV 0 hts gL_law_X3_thrown rfl rfl rfl (by decide +kernel) ⟨Nat.le_of_ble_eq_true rfl, Nat.le_of_ble_eq_true rfl⟩) (va_recv hE.k hPm (ci := 4) (q0 := 0) rfl rfl) rfl rfl hl.1 rfl (Nat.le_of_ble_eq_true rfl) dL_law_247 ⟨by show _ ≤ 601024; omega, by show _ ≤ 7293034; omega⟩ (fun r8 H3 locs hp hS hk3 => ?_)
    obtain ⟨rfl, rfl⟩ := hp
    refine lv_iload hx hb dL_law_250 (lv_at hl 0 rfl) ?_
    refine lv_icmp_eq (tgt := 257) hx hb dL_law_252 (by decide) (fun c_252 => ?_) (fun c_252 => ?_)
    · refine lv_goto (tgt := 1545) hx hb dL_law_257 (by decide) ?_
      refine W.widen (k := 64 + 18 * (j + 1)) (n := 7000 + 220 * (j + 1)) (by omega) (by omega) ?_
      exact kk _ _ _ ⟨_, _, _, _, _, _, _, _, _, _, hc, hm, hO⟩ hS (lv_sub hl [1, 2, 3, 4, 5] rfl)
    · exact absurd rfl c_252

set_option maxHeartbeats 4000000 in
set_option maxRecDepth 100000 in
theorem lc_sign {p : Program} {l : Launch} {e : Env} {s : State} {m : MethodId} {below : List Frame} {meth : Method} {c : Code} {b L : Nat} {xs : Nat → Int32} (hl0 : l.stackTraces = false) (hL : L ≤ 3072) (C0 : lw_At p s m meth c b L xs) (K : m_K) (hE : ENV K (fun q => s.heap.size ≤ q) s) (o : Nat) (ad : Nat → Nat) (om : Nat) (adm : Nat → Nat) (out : Nat) (hNo : s.heap.size ≤ om) (hoo : om ≤ out) (j : Nat) (hj : 6 * j + 6 ≤ L) {H : Heap} {locs : List Loc} {ls : Array Slot} (hSt : LSt K s.heap.size o ad om adm out H) (hS : va_S (fun q => s.heap.size ≤ q) s.heap H locs) (hl : lv_has ls 7 [(4, .int (nI (6 * j))), (0, .ref b), (1, .ref o), (2, .ref om), (3, .ref out)])
    (kk : ∀ (H1 : Heap) (locs1 : List Loc) (ls1 : Array Slot), LSt K s.heap.size o ad om adm out H1 → va_S (fun q => s.heap.size ≤ q) s.heap H1 locs1 → lv_has ls1 7 [(4, .int (nI (6 * j))), (0, .ref b), (1, .ref o), (2, .ref om), (3, .ref out)] → W p l e room_1 s m #[Value.ref b] below meth c H1 locs1 (64 + 18 * (j + 1)) (7000 + 220 * (j + 1)) (lw_Z below #[Value.ref b] s) (F0 m 1545 ls1 [])) :
    W p l e room_1 s m #[Value.ref b] below meth c H locs (64 + 18 * j) (7000 + 220 * j) (lw_Z below #[Value.ref b] s) (F0 m 260 ls []) := by
  obtain ⟨hx, hb, hr, hml, hown, hts0, hX, hbl, hlocks, hgv⟩ := C0
  have hts : ∀ w ∈ wsL_law, w.before #[Value.ref b] s = true := fun w h => hts0 w (wsL_law_in w h)
  have hbA : ¬ (fun q : Nat => s.heap.size ≤ q) b := Nat.not_le.mpr hbl
  obtain ⟨fb, on, fw, dr, fm, vs, ch, ps, la, wo, hc, hm, hO⟩ := hSt
  refine lv_aload_n hx hb dL_law_260 rfl (lv_at hl 2 rfl) ?_
  refine lv_aload_n hx hb dL_law_261 rfl (lv_at hl 1 rfl) ?_
  refine lv_iload hx hb dL_law_262 (lv_at hl 0 rfl) ?_
  refine lv_iconst (v := nI 1) hx hb dL_law_264 (by decide) ?_
  refine m_iadd hx hb dL_law_265 ?_
  refine m_sld hx hb hX hbl hbA hS (by omega) (by omega) dL_law_266 ?_
  refine lv_aload_n hx hb dL_law_267 rfl (lv_at hl 4 rfl) ?_
  refine m_cWi (rest := []) ⟨hx, hb, hml, hown, hts⟩ hE hS (fun q h => h.1) (kL_sign l K (AwF s.heap.size om out) _ hl0 (AcF s.heap.size om out) (fun q h => ⟨h.1, h.2.elim Or.inl (fun z => Or.inr (Nat.le_of_lt z))⟩) out ⟨Nat.le_trans hNo hoo, Or.inr (Nat.le_refl _)⟩ (fun z => by have z2 := z.2; omega) wo hO o ad fb on fw dr fm vs ch ps hc (fun q hq => ⟨Nat.le_trans hS.1 hq, Or.inr (Nat.lt_of_lt_of_le hO.lt hq)⟩) (xs ((6 * j) + 1))) (vx_cwSW 3 hts gL_law_L_sign rfl rfl rfl (by decide +kernel) ⟨Nat.le_of_ble_eq_true rfl, Nat.le_of_ble_eq_true rfl⟩) rfl rfl hl.1 rfl (Nat.le_of_ble_eq_true rfl) dL_law_268 ⟨by show _ ≤ 601024; omega, by show _ ≤ 7293034; omega⟩ (fun r H1 locs hp hS hk => ?_)
  obtain ⟨wo, hO9, hr3⟩ := hp
  have hm := hm.kept (fun q hq h => hk q hq (fun z => by have h1 := h.1; have h2 := h.2; have z2 := z.2; omega))
  have hO := hO9
  clear hk
  refine lv_istore (lv' := [(5, .int r), (4, .int (nI (6 * j))), (0, .ref b), (1, .ref o), (2, .ref om), (3, .ref out)]) hx hb dL_law_271 hl (by decide) rfl (fun ls hl => ?_)
  refine lv_aload_n hx hb dL_law_273 rfl (lv_at hl 4 rfl) ?_
  refine lv_aload_n hx hb dL_law_274 rfl (lv_at hl 2 rfl) ?_
  refine lv_iload hx hb dL_law_275 (lv_at hl 1 rfl) ?_
  refine lv_iconst (v := nI 1) hx hb dL_law_277 (by decide) ?_
  refine m_iadd hx hb dL_law_278 ?_
  refine m_sld hx hb hX hbl hbA hS (by omega) (by omega) dL_law_279 ?_
  obtain ⟨f8, d8, pr8, ta8, ti8, hPm, hDm, hRm⟩ := id hm
  refine m_cVi (rest := []) ⟨hx, hb, hml, hown, hts⟩ hE hS (fun q h => Nat.le_trans hNo h.1) (kX3_sign l K (AmF om out) _ om adm fb on fw dr fm vs ch ps la hm (xs ((6 * j) + 1))) (cwV 1 hts gL_law_X3_sign rfl rfl rfl (by decide +kernel) ⟨Nat.le_of_ble_eq_true rfl, Nat.le_of_ble_eq_true rfl⟩) (va_recv hE.k hPm (ci := 4) (q0 := 0) rfl rfl) rfl rfl hl.1 rfl (Nat.le_of_ble_eq_true rfl) dL_law_280 ⟨by show _ ≤ 601024; omega, by show _ ≤ 7293034; omega⟩ (fun r9 H2 locs hp hS hk2 => ?_)
  obtain ⟨k9, hq3⟩ := hp
  obtain ⟨hkk, hcase⟩ := r3_two hr3 hq3
  subst hkk
  have hO : OUT K out wo _ := hO.k1 (hk2 out hO.lt (fun z => absurd z.2 (Nat.lt_irrefl _)))
  rcases hcase with ⟨hk0, ⟨v, hv, hans, hc⟩, hans2, hm⟩ | ⟨hk0, hc, hm⟩
  · have hc := hc.kept (fun q hq h => hk2 q hq (fun z => by have h2 := h.2; have z1 := z.1; have z2 := z.2; omega))
    subst hk0
    have hvr := hans.trans hans2.symm
    rw [hvr] at hv
    refine lv_istore (lv' := [(6, .int r9), (5, .int (nI 0)), (4, .int (nI (6 * j))), (0, .ref b), (1, .ref o), (2, .ref om), (3, .ref out)]) hx hb dL_law_283 hl (by decide) rfl (fun ls hl => ?_)
    refine lv_aload_n hx hb dL_law_285 rfl (lv_at hl 5 rfl) ?_
    obtain ⟨f7, d7, pr7, ta7, ti7, hPm, hDm, hRm⟩ := id hm
    refine m_cVi (rest := []) ⟨hx, hb, hml, hown, hts⟩ hE hS (fun q h => Nat.le_trans hNo h.1) (kX3_thrown l K (AmF om out) _ om adm f7 d7 pr7 ta7 ti7 _ hPm) (cwV 0 hts gL_law_X3_thrown rfl rfl rfl (by decide +kernel) ⟨Nat.le_of_ble_eq_true rfl, Nat.le_of_ble_eq_true rfl⟩) (va_recv hE.k hPm (ci := 4) (q0 := 0) rfl rfl) rfl rfl hl.1 rfl (Nat.le_of_ble_eq_true rfl) dL_law_286 ⟨by show _ ≤ 601024; omega, by show _ ≤ 7293034; omega⟩ (fun r8 H3 locs hp hS hk3 => ?_)
    obtain ⟨rfl, rfl⟩ := hp
    refine lv_iload hx hb dL_law_289 (lv_at hl 1 rfl) ?_
    refine m_icmp_eq (tgt := 296) hx hb (by omega) (by omega) dL_law_291 (by decide) (fun c_291 => ?_) (fun c_291 => ?_)
    · refine lv_iload hx hb dL_law_296 (lv_at hl 1 rfl) ?_
      refine m_if_ne (tgt := 313) hx hb (by omega) dL_law_298 (by decide) (fun c_298 => ?_) (fun c_298 => ?_)
      · exact absurd rfl c_298
      · refine lv_aload_n hx hb dL_law_301 rfl (lv_at hl 6 rfl) ?_
        refine lv_iconst (v := nI 0) hx hb dL_law_302 (by decide) ?_
        refine m_lald1 hx hb hE.k hO hv dL_law_303 ?_
        refine lv_iload hx hb dL_law_304 (lv_at hl 0 rfl) ?_
        refine lv_i2l hx hb dL_law_306 rfl ?_
        refine m_lcmp0 hx hb dL_law_307 ?_
        refine lv_if_eq (tgt := 313) hx hb dL_law_308 (by decide) (fun c_308 => ?_) (fun c_308 => ?_)
        · refine lv_goto (tgt := 1545) hx hb dL_law_313 (by decide) ?_
          refine W.widen (k := 64 + 18 * (j + 1)) (n := 7000 + 220 * (j + 1)) (by omega) (by omega) ?_
          exact kk _ _ _ ⟨_, _, _, _, _, _, _, _, _, _, hc, hm, hO⟩ hS (lv_sub hl [2, 3, 4, 5, 6] rfl)
        · exact absurd rfl c_308
    · exact absurd rfl c_291
  · have hc := hc.kept (fun q hq h => hk2 q hq (fun z => by have h2 := h.2; have z1 := z.1; have z2 := z.2; omega))
    refine lv_istore (lv' := [(6, .int r9), (5, .int r), (4, .int (nI (6 * j))), (0, .ref b), (1, .ref o), (2, .ref om), (3, .ref out)]) hx hb dL_law_283 hl (by decide) rfl (fun ls hl => ?_)
    refine lv_aload_n hx hb dL_law_285 rfl (lv_at hl 5 rfl) ?_
    obtain ⟨f7, d7, pr7, ta7, ti7, hPm, hDm, hRm⟩ := id hm
    refine m_cVi (rest := []) ⟨hx, hb, hml, hown, hts⟩ hE hS (fun q h => Nat.le_trans hNo h.1) (kX3_thrown l K (AmF om out) _ om adm f7 d7 pr7 ta7 ti7 _ hPm) (cwV 0 hts gL_law_X3_thrown rfl rfl rfl (by decide +kernel) ⟨Nat.le_of_ble_eq_true rfl, Nat.le_of_ble_eq_true rfl⟩) (va_recv hE.k hPm (ci := 4) (q0 := 0) rfl rfl) rfl rfl hl.1 rfl (Nat.le_of_ble_eq_true rfl) dL_law_286 ⟨by show _ ≤ 601024; omega, by show _ ≤ 7293034; omega⟩ (fun r8 H3 locs hp hS hk3 => ?_)
    obtain ⟨rfl, rfl⟩ := hp
    refine lv_iload hx hb dL_law_289 (lv_at hl 1 rfl) ?_
    refine lv_icmp_eq (tgt := 296) hx hb dL_law_291 (by decide) (fun c_291 => ?_) (fun c_291 => ?_)
    · refine lv_iload hx hb dL_law_296 (lv_at hl 1 rfl) ?_
      refine lv_if_ne (tgt := 313) hx hb dL_law_298 (by decide) (fun c_298 => ?_) (fun c_298 => ?_)
      · refine lv_goto (tgt := 1545) hx hb dL_law_313 (by decide) ?_
        refine W.widen (k := 64 + 18 * (j + 1)) (n := 7000 + 220 * (j + 1)) (by omega) (by omega) ?_
        exact kk _ _ _ ⟨_, _, _, _, _, _, _, _, _, _, hc, hm, hO⟩ hS (lv_sub hl [2, 3, 4, 5, 6] rfl)
      · exact absurd (show _ = nI 0 from c_298) hk0
    · exact absurd rfl c_291

set_option maxHeartbeats 4000000 in
set_option maxRecDepth 100000 in
theorem lc_set {p : Program} {l : Launch} {e : Env} {s : State} {m : MethodId} {below : List Frame} {meth : Method} {c : Code} {b L : Nat} {xs : Nat → Int32} (hl0 : l.stackTraces = false) (hL : L ≤ 3072) (C0 : lw_At p s m meth c b L xs) (K : m_K) (hE : ENV K (fun q => s.heap.size ≤ q) s) (o : Nat) (ad : Nat → Nat) (om : Nat) (adm : Nat → Nat) (out : Nat) (hNo : s.heap.size ≤ om) (hoo : om ≤ out) (j : Nat) (hj : 6 * j + 6 ≤ L) {H : Heap} {locs : List Loc} {ls : Array Slot} (hSt : LSt K s.heap.size o ad om adm out H) (hS : va_S (fun q => s.heap.size ≤ q) s.heap H locs) (hl : lv_has ls 7 [(4, .int (nI (6 * j))), (0, .ref b), (1, .ref o), (2, .ref om), (3, .ref out)])
    (kk : ∀ (H1 : Heap) (locs1 : List Loc) (ls1 : Array Slot), LSt K s.heap.size o ad om adm out H1 → va_S (fun q => s.heap.size ≤ q) s.heap H1 locs1 → lv_has ls1 7 [(4, .int (nI (6 * j))), (0, .ref b), (1, .ref o), (2, .ref om), (3, .ref out)] → W p l e room_1 s m #[Value.ref b] below meth c H1 locs1 (64 + 18 * (j + 1)) (7000 + 220 * (j + 1)) (lw_Z below #[Value.ref b] s) (F0 m 1545 ls1 [])) :
    W p l e room_1 s m #[Value.ref b] below meth c H locs (64 + 18 * j) (7000 + 220 * j) (lw_Z below #[Value.ref b] s) (F0 m 316 ls []) := by
  obtain ⟨hx, hb, hr, hml, hown, hts0, hX, hbl, hlocks, hgv⟩ := C0
  have hts : ∀ w ∈ wsL_law, w.before #[Value.ref b] s = true := fun w h => hts0 w (wsL_law_in w h)
  have hbA : ¬ (fun q : Nat => s.heap.size ≤ q) b := Nat.not_le.mpr hbl
  obtain ⟨fb, on, fw, dr, fm, vs, ch, ps, la, wo, hc, hm, hO⟩ := hSt
  refine lv_aload_n hx hb dL_law_316 rfl (lv_at hl 2 rfl) ?_
  refine lv_aload_n hx hb dL_law_317 rfl (lv_at hl 1 rfl) ?_
  refine lv_iload hx hb dL_law_318 (lv_at hl 0 rfl) ?_
  refine lv_iconst (v := nI 1) hx hb dL_law_320 (by decide) ?_
  refine m_iadd hx hb dL_law_321 ?_
  refine m_sld hx hb hX hbl hbA hS (by omega) (by omega) dL_law_322 ?_
  refine lv_aload_n hx hb dL_law_323 rfl (lv_at hl 1 rfl) ?_
  refine lv_iload hx hb dL_law_324 (lv_at hl 0 rfl) ?_
  refine lv_iconst (v := nI 2) hx hb dL_law_326 (by decide) ?_
  refine m_iadd hx hb dL_law_327 ?_
  refine m_sld hx hb hX hbl hbA hS (by omega) (by omega) dL_law_328 ?_
  refine lv_aload_n hx hb dL_law_329 rfl (lv_at hl 1 rfl) ?_
  refine lv_iload hx hb dL_law_330 (lv_at hl 0 rfl) ?_
  refine lv_iconst (v := nI 3) hx hb dL_law_332 (by decide) ?_
  refine m_iadd hx hb dL_law_333 ?_
  refine m_sld hx hb hX hbl hbA hS (by omega) (by omega) dL_law_334 ?_
  refine lv_aload_n hx hb dL_law_335 rfl (lv_at hl 1 rfl) ?_
  refine lv_iload hx hb dL_law_336 (lv_at hl 0 rfl) ?_
  refine lv_iconst (v := nI 4) hx hb dL_law_338 (by decide) ?_
  refine m_iadd hx hb dL_law_339 ?_
  refine m_sld hx hb hX hbl hbA hS (by omega) (by omega) dL_law_340 ?_
  refine lv_aload_n hx hb dL_law_341 rfl (lv_at hl 1 rfl) ?_
  refine lv_iload hx hb dL_law_342 (lv_at hl 0 rfl) ?_
  refine lv_iconst (v := nI 5) hx hb dL_law_344 (by decide) ?_
  refine m_iadd hx hb dL_law_345 ?_
  refine m_sld hx hb hX hbl hbA hS (by omega) (by omega) dL_law_346 ?_
  refine lv_if_eq (tgt := 354) hx hb dL_law_347 (by decide) (fun c_347 => ?_) (fun c_347 => ?_)
  · refine lv_iconst (v := nI 0) hx hb dL_law_354 (by decide) ?_
    refine lv_aload_n hx hb dL_law_355 rfl (lv_at hl 4 rfl) ?_
    refine m_cWi (rest := []) ⟨hx, hb, hml, hown, hts⟩ hE hS (fun q h => h.1) (kL_set l K (AwF s.heap.size om out) _ hl0 (AcF s.heap.size om out) (fun q h => ⟨h.1, h.2.elim Or.inl (fun z => Or.inr (Nat.le_of_lt z))⟩) out ⟨Nat.le_trans hNo hoo, Or.inr (Nat.le_refl _)⟩ (fun z => by have z2 := z.2; omega) wo hO o ad fb on fw dr fm vs ch ps hc (fun q hq => ⟨Nat.le_trans hS.1 hq, Or.inr (Nat.lt_of_lt_of_le hO.lt hq)⟩) (xs ((6 * j) + 1)) (xs ((6 * j) + 2)) (xs ((6 * j) + 3)) (xs ((6 * j) + 4)) false) (vx_cwSW 7 hts gL_law_L_set rfl rfl rfl (by decide +kernel) ⟨Nat.le_of_ble_eq_true rfl, Nat.le_of_ble_eq_true rfl⟩) rfl rfl hl.1 rfl (Nat.le_of_ble_eq_true rfl) dL_law_356 ⟨by show _ ≤ 601024; omega, by show _ ≤ 7293034; omega⟩ (fun r H1 locs hp hS hk => ?_)
    obtain ⟨wo, hO9, hr3⟩ := hp
    have hm := hm.kept (fun q hq h => hk q hq (fun z => by have h1 := h.1; have h2 := h.2; have z2 := z.2; omega))
    have hO := hO9
    clear hk
    refine lv_istore (lv' := [(5, .int r), (4, .int (nI (6 * j))), (0, .ref b), (1, .ref o), (2, .ref om), (3, .ref out)]) hx hb dL_law_359 hl (by decide) rfl (fun ls hl => ?_)
    refine lv_aload_n hx hb dL_law_361 rfl (lv_at hl 4 rfl) ?_
    refine lv_aload_n hx hb dL_law_362 rfl (lv_at hl 2 rfl) ?_
    refine lv_iload hx hb dL_law_363 (lv_at hl 1 rfl) ?_
    refine lv_iconst (v := nI 1) hx hb dL_law_365 (by decide) ?_
    refine m_iadd hx hb dL_law_366 ?_
    refine m_sld hx hb hX hbl hbA hS (by omega) (by omega) dL_law_367 ?_
    refine lv_aload_n hx hb dL_law_368 rfl (lv_at hl 2 rfl) ?_
    refine lv_iload hx hb dL_law_369 (lv_at hl 1 rfl) ?_
    refine lv_iconst (v := nI 2) hx hb dL_law_371 (by decide) ?_
    refine m_iadd hx hb dL_law_372 ?_
    refine m_sld hx hb hX hbl hbA hS (by omega) (by omega) dL_law_373 ?_
    refine lv_aload_n hx hb dL_law_374 rfl (lv_at hl 2 rfl) ?_
    refine lv_iload hx hb dL_law_375 (lv_at hl 1 rfl) ?_
    refine lv_iconst (v := nI 3) hx hb dL_law_377 (by decide) ?_
    refine m_iadd hx hb dL_law_378 ?_
    refine m_sld hx hb hX hbl hbA hS (by omega) (by omega) dL_law_379 ?_
    refine lv_aload_n hx hb dL_law_380 rfl (lv_at hl 2 rfl) ?_
    refine lv_iload hx hb dL_law_381 (lv_at hl 1 rfl) ?_
    refine lv_iconst (v := nI 4) hx hb dL_law_383 (by decide) ?_
    refine m_iadd hx hb dL_law_384 ?_
    refine m_sld hx hb hX hbl hbA hS (by omega) (by omega) dL_law_385 ?_
    refine lv_aload_n hx hb dL_law_386 rfl (lv_at hl 2 rfl) ?_
    refine lv_iload hx hb dL_law_387 (lv_at hl 1 rfl) ?_
    refine lv_iconst (v := nI 5) hx hb dL_law_389 (by decide) ?_
    refine m_iadd hx hb dL_law_390 ?_
    refine m_sld hx hb hX hbl hbA hS (by omega) (by omega) dL_law_391 ?_
    refine lv_if_eq (tgt := 399) hx hb dL_law_392 (by decide) (fun c_392 => ?_) (fun c_392 => ?_)
    · refine lv_iconst (v := nI 0) hx hb dL_law_399 (by decide) ?_
      obtain ⟨f8, d8, pr8, ta8, ti8, hPm, hDm, hRm⟩ := id hm
      refine m_cVi (rest := []) ⟨hx, hb, hml, hown, hts⟩ hE hS (fun q h => Nat.le_trans hNo h.1) (kX3_set l K (AmF om out) _ om adm fb on fw dr fm vs ch ps la hm (xs ((6 * j) + 1)) (xs ((6 * j) + 2)) (xs ((6 * j) + 3)) (xs ((6 * j) + 4)) false) (cwV 5 hts gL_law_X3_set rfl rfl rfl (by decide +kernel) ⟨Nat.le_of_ble_eq_true rfl, Nat.le_of_ble_eq_true rfl⟩) (va_recv hE.k hPm (ci := 4) (q0 := 0) rfl rfl) rfl rfl hl.1 rfl (Nat.le_of_ble_eq_true rfl) dL_law_400 ⟨by show _ ≤ 601024; omega, by show _ ≤ 7293034; omega⟩ (fun r9 H2 locs hp hS hk2 => ?_)
      obtain ⟨k9, hq3⟩ := hp
      obtain ⟨hkk, hcase⟩ := r3_two hr3 hq3
      subst hkk
      have hO : OUT K out wo _ := hO.k1 (hk2 out hO.lt (fun z => absurd z.2 (Nat.lt_irrefl _)))
      rcases hcase with ⟨hk0, ⟨v, hv, hans, hc⟩, hans2, hm⟩ | ⟨hk0, hc, hm⟩
      · have hc := hc.kept (fun q hq h => hk2 q hq (fun z => by have h2 := h.2; have z1 := z.1; have z2 := z.2; omega))
        subst hk0
        have hvr := hans.trans hans2.symm
        rw [hvr] at hv
        refine lv_istore (lv' := [(6, .int r9), (5, .int (nI 0)), (4, .int (nI (6 * j))), (0, .ref b), (1, .ref o), (2, .ref om), (3, .ref out)]) hx hb dL_law_403 hl (by decide) rfl (fun ls hl => ?_)
        refine lv_aload_n hx hb dL_law_405 rfl (lv_at hl 5 rfl) ?_
        obtain ⟨f7, d7, pr7, ta7, ti7, hPm, hDm, hRm⟩ := id hm
        refine m_cVi (rest := []) ⟨hx, hb, hml, hown, hts⟩ hE hS (fun q h => Nat.le_trans hNo h.1) (kX3_thrown l K (AmF om out) _ om adm f7 d7 pr7 ta7 ti7 _ hPm) (cwV 0 hts gL_law_X3_thrown rfl rfl rfl (by decide +kernel) ⟨Nat.le_of_ble_eq_true rfl, Nat.le_of_ble_eq_true rfl⟩) (va_recv hE.k hPm (ci := 4) (q0 := 0) rfl rfl) rfl rfl hl.1 rfl (Nat.le_of_ble_eq_true rfl) dL_law_406 ⟨by show _ ≤ 601024; omega, by show _ ≤ 7293034; omega⟩ (fun r8 H3 locs hp hS hk3 => ?_)
        obtain ⟨rfl, rfl⟩ := hp
        refine lv_iload hx hb dL_law_409 (lv_at hl 1 rfl) ?_
        refine m_icmp_eq (tgt := 416) hx hb (by omega) (by omega) dL_law_411 (by decide) (fun c_411 => ?_) (fun c_411 => ?_)
        · refine lv_iload hx hb dL_law_416 (lv_at hl 1 rfl) ?_
          refine m_if_ne (tgt := 433) hx hb (by omega) dL_law_418 (by decide) (fun c_418 => ?_) (fun c_418 => ?_)
          · exact absurd rfl c_418
          · refine lv_aload_n hx hb dL_law_421 rfl (lv_at hl 6 rfl) ?_
            refine lv_iconst (v := nI 0) hx hb dL_law_422 (by decide) ?_
            refine m_lald1 hx hb hE.k hO hv dL_law_423 ?_
            refine lv_iload hx hb dL_law_424 (lv_at hl 0 rfl) ?_
            refine lv_i2l hx hb dL_law_426 rfl ?_
            refine m_lcmp0 hx hb dL_law_427 ?_
            refine lv_if_eq (tgt := 433) hx hb dL_law_428 (by decide) (fun c_428 => ?_) (fun c_428 => ?_)
            · refine lv_goto (tgt := 1545) hx hb dL_law_433 (by decide) ?_
              refine W.widen (k := 64 + 18 * (j + 1)) (n := 7000 + 220 * (j + 1)) (by omega) (by omega) ?_
              exact kk _ _ _ ⟨_, _, _, _, _, _, _, _, _, _, hc, hm, hO⟩ hS (lv_sub hl [2, 3, 4, 5, 6] rfl)
            · exact absurd rfl c_428
        · exact absurd rfl c_411
      · have hc := hc.kept (fun q hq h => hk2 q hq (fun z => by have h2 := h.2; have z1 := z.1; have z2 := z.2; omega))
        refine lv_istore (lv' := [(6, .int r9), (5, .int r), (4, .int (nI (6 * j))), (0, .ref b), (1, .ref o), (2, .ref om), (3, .ref out)]) hx hb dL_law_403 hl (by decide) rfl (fun ls hl => ?_)
        refine lv_aload_n hx hb dL_law_405 rfl (lv_at hl 5 rfl) ?_
        obtain ⟨f7, d7, pr7, ta7, ti7, hPm, hDm, hRm⟩ := id hm
        refine m_cVi (rest := []) ⟨hx, hb, hml, hown, hts⟩ hE hS (fun q h => Nat.le_trans hNo h.1) (kX3_thrown l K (AmF om out) _ om adm f7 d7 pr7 ta7 ti7 _ hPm) (cwV 0 hts gL_law_X3_thrown rfl rfl rfl (by decide +kernel) ⟨Nat.le_of_ble_eq_true rfl, Nat.le_of_ble_eq_true rfl⟩) (va_recv hE.k hPm (ci := 4) (q0 := 0) rfl rfl) rfl rfl hl.1 rfl (Nat.le_of_ble_eq_true rfl) dL_law_406 ⟨by show _ ≤ 601024; omega, by show _ ≤ 7293034; omega⟩ (fun r8 H3 locs hp hS hk3 => ?_)
        obtain ⟨rfl, rfl⟩ := hp
        refine lv_iload hx hb dL_law_409 (lv_at hl 1 rfl) ?_
        refine lv_icmp_eq (tgt := 416) hx hb dL_law_411 (by decide) (fun c_411 => ?_) (fun c_411 => ?_)
        · refine lv_iload hx hb dL_law_416 (lv_at hl 1 rfl) ?_
          refine lv_if_ne (tgt := 433) hx hb dL_law_418 (by decide) (fun c_418 => ?_) (fun c_418 => ?_)
          · refine lv_goto (tgt := 1545) hx hb dL_law_433 (by decide) ?_
            refine W.widen (k := 64 + 18 * (j + 1)) (n := 7000 + 220 * (j + 1)) (by omega) (by omega) ?_
            exact kk _ _ _ ⟨_, _, _, _, _, _, _, _, _, _, hc, hm, hO⟩ hS (lv_sub hl [2, 3, 4, 5, 6] rfl)
          · exact absurd (show _ = nI 0 from c_418) hk0
        · exact absurd rfl c_411
    · exact absurd c_347 c_392
  · refine lv_iconst (v := nI 1) hx hb dL_law_350 (by decide) ?_
    refine lv_goto (tgt := 355) hx hb dL_law_351 (by decide) ?_
    refine lv_aload_n hx hb dL_law_355 rfl (lv_at hl 4 rfl) ?_
    refine m_cWi (rest := []) ⟨hx, hb, hml, hown, hts⟩ hE hS (fun q h => h.1) (kL_set l K (AwF s.heap.size om out) _ hl0 (AcF s.heap.size om out) (fun q h => ⟨h.1, h.2.elim Or.inl (fun z => Or.inr (Nat.le_of_lt z))⟩) out ⟨Nat.le_trans hNo hoo, Or.inr (Nat.le_refl _)⟩ (fun z => by have z2 := z.2; omega) wo hO o ad fb on fw dr fm vs ch ps hc (fun q hq => ⟨Nat.le_trans hS.1 hq, Or.inr (Nat.lt_of_lt_of_le hO.lt hq)⟩) (xs ((6 * j) + 1)) (xs ((6 * j) + 2)) (xs ((6 * j) + 3)) (xs ((6 * j) + 4)) true) (vx_cwSW 7 hts gL_law_L_set rfl rfl rfl (by decide +kernel) ⟨Nat.le_of_ble_eq_true rfl, Nat.le_of_ble_eq_true rfl⟩) rfl rfl hl.1 rfl (Nat.le_of_ble_eq_true rfl) dL_law_356 ⟨by show _ ≤ 601024; omega, by show _ ≤ 7293034; omega⟩ (fun r H1 locs hp hS hk => ?_)
    obtain ⟨wo, hO9, hr3⟩ := hp
    have hm := hm.kept (fun q hq h => hk q hq (fun z => by have h1 := h.1; have h2 := h.2; have z2 := z.2; omega))
    have hO := hO9
    clear hk
    refine lv_istore (lv' := [(5, .int r), (4, .int (nI (6 * j))), (0, .ref b), (1, .ref o), (2, .ref om), (3, .ref out)]) hx hb dL_law_359 hl (by decide) rfl (fun ls hl => ?_)
    refine lv_aload_n hx hb dL_law_361 rfl (lv_at hl 4 rfl) ?_
    refine lv_aload_n hx hb dL_law_362 rfl (lv_at hl 2 rfl) ?_
    refine lv_iload hx hb dL_law_363 (lv_at hl 1 rfl) ?_
    refine lv_iconst (v := nI 1) hx hb dL_law_365 (by decide) ?_
    refine m_iadd hx hb dL_law_366 ?_
    refine m_sld hx hb hX hbl hbA hS (by omega) (by omega) dL_law_367 ?_
    refine lv_aload_n hx hb dL_law_368 rfl (lv_at hl 2 rfl) ?_
    refine lv_iload hx hb dL_law_369 (lv_at hl 1 rfl) ?_
    refine lv_iconst (v := nI 2) hx hb dL_law_371 (by decide) ?_
    refine m_iadd hx hb dL_law_372 ?_
    refine m_sld hx hb hX hbl hbA hS (by omega) (by omega) dL_law_373 ?_
    refine lv_aload_n hx hb dL_law_374 rfl (lv_at hl 2 rfl) ?_
    refine lv_iload hx hb dL_law_375 (lv_at hl 1 rfl) ?_
    refine lv_iconst (v := nI 3) hx hb dL_law_377 (by decide) ?_
    refine m_iadd hx hb dL_law_378 ?_
    refine m_sld hx hb hX hbl hbA hS (by omega) (by omega) dL_law_379 ?_
    refine lv_aload_n hx hb dL_law_380 rfl (lv_at hl 2 rfl) ?_
    refine lv_iload hx hb dL_law_381 (lv_at hl 1 rfl) ?_
    refine lv_iconst (v := nI 4) hx hb dL_law_383 (by decide) ?_
    refine m_iadd hx hb dL_law_384 ?_
    refine m_sld hx hb hX hbl hbA hS (by omega) (by omega) dL_law_385 ?_
    refine lv_aload_n hx hb dL_law_386 rfl (lv_at hl 2 rfl) ?_
    refine lv_iload hx hb dL_law_387 (lv_at hl 1 rfl) ?_
    refine lv_iconst (v := nI 5) hx hb dL_law_389 (by decide) ?_
    refine m_iadd hx hb dL_law_390 ?_
    refine m_sld hx hb hX hbl hbA hS (by omega) (by omega) dL_law_391 ?_
    refine lv_if_eq (tgt := 399) hx hb dL_law_392 (by decide) (fun c_392 => ?_) (fun c_392 => ?_)
    · exact absurd c_392 c_347
    · refine lv_iconst (v := nI 1) hx hb dL_law_395 (by decide) ?_
      refine lv_goto (tgt := 400) hx hb dL_law_396 (by decide) ?_
      obtain ⟨f8, d8, pr8, ta8, ti8, hPm, hDm, hRm⟩ := id hm
      refine m_cVi (rest := []) ⟨hx, hb, hml, hown, hts⟩ hE hS (fun q h => Nat.le_trans hNo h.1) (kX3_set l K (AmF om out) _ om adm fb on fw dr fm vs ch ps la hm (xs ((6 * j) + 1)) (xs ((6 * j) + 2)) (xs ((6 * j) + 3)) (xs ((6 * j) + 4)) true) (cwV 5 hts gL_law_X3_set rfl rfl rfl (by decide +kernel) ⟨Nat.le_of_ble_eq_true rfl, Nat.le_of_ble_eq_true rfl⟩) (va_recv hE.k hPm (ci := 4) (q0 := 0) rfl rfl) rfl rfl hl.1 rfl (Nat.le_of_ble_eq_true rfl) dL_law_400 ⟨by show _ ≤ 601024; omega, by show _ ≤ 7293034; omega⟩ (fun r9 H2 locs hp hS hk2 => ?_)
      obtain ⟨k9, hq3⟩ := hp
      obtain ⟨hkk, hcase⟩ := r3_two hr3 hq3
      subst hkk
      have hO : OUT K out wo _ := hO.k1 (hk2 out hO.lt (fun z => absurd z.2 (Nat.lt_irrefl _)))
      rcases hcase with ⟨hk0, ⟨v, hv, hans, hc⟩, hans2, hm⟩ | ⟨hk0, hc, hm⟩
      · have hc := hc.kept (fun q hq h => hk2 q hq (fun z => by have h2 := h.2; have z1 := z.1; have z2 := z.2; omega))
        subst hk0
        have hvr := hans.trans hans2.symm
        rw [hvr] at hv
        refine lv_istore (lv' := [(6, .int r9), (5, .int (nI 0)), (4, .int (nI (6 * j))), (0, .ref b), (1, .ref o), (2, .ref om), (3, .ref out)]) hx hb dL_law_403 hl (by decide) rfl (fun ls hl => ?_)
        refine lv_aload_n hx hb dL_law_405 rfl (lv_at hl 5 rfl) ?_
        obtain ⟨f7, d7, pr7, ta7, ti7, hPm, hDm, hRm⟩ := id hm
        refine m_cVi (rest := []) ⟨hx, hb, hml, hown, hts⟩ hE hS (fun q h => Nat.le_trans hNo h.1) (kX3_thrown l K (AmF om out) _ om adm f7 d7 pr7 ta7 ti7 _ hPm) (cwV 0 hts gL_law_X3_thrown rfl rfl rfl (by decide +kernel) ⟨Nat.le_of_ble_eq_true rfl, Nat.le_of_ble_eq_true rfl⟩) (va_recv hE.k hPm (ci := 4) (q0 := 0) rfl rfl) rfl rfl hl.1 rfl (Nat.le_of_ble_eq_true rfl) dL_law_406 ⟨by show _ ≤ 601024; omega, by show _ ≤ 7293034; omega⟩ (fun r8 H3 locs hp hS hk3 => ?_)
        obtain ⟨rfl, rfl⟩ := hp
        refine lv_iload hx hb dL_law_409 (lv_at hl 1 rfl) ?_
        refine m_icmp_eq (tgt := 416) hx hb (by omega) (by omega) dL_law_411 (by decide) (fun c_411 => ?_) (fun c_411 => ?_)
        · refine lv_iload hx hb dL_law_416 (lv_at hl 1 rfl) ?_
          refine m_if_ne (tgt := 433) hx hb (by omega) dL_law_418 (by decide) (fun c_418 => ?_) (fun c_418 => ?_)
          · exact absurd rfl c_418
          · refine lv_aload_n hx hb dL_law_421 rfl (lv_at hl 6 rfl) ?_
            refine lv_iconst (v := nI 0) hx hb dL_law_422 (by decide) ?_
            refine m_lald1 hx hb hE.k hO hv dL_law_423 ?_
            refine lv_iload hx hb dL_law_424 (lv_at hl 0 rfl) ?_
            refine lv_i2l hx hb dL_law_426 rfl ?_
            refine m_lcmp0 hx hb dL_law_427 ?_
            refine lv_if_eq (tgt := 433) hx hb dL_law_428 (by decide) (fun c_428 => ?_) (fun c_428 => ?_)
            · refine lv_goto (tgt := 1545) hx hb dL_law_433 (by decide) ?_
              refine W.widen (k := 64 + 18 * (j + 1)) (n := 7000 + 220 * (j + 1)) (by omega) (by omega) ?_
              exact kk _ _ _ ⟨_, _, _, _, _, _, _, _, _, _, hc, hm, hO⟩ hS (lv_sub hl [2, 3, 4, 5, 6] rfl)
            · exact absurd rfl c_428
        · exact absurd rfl c_411
      · have hc := hc.kept (fun q hq h => hk2 q hq (fun z => by have h2 := h.2; have z1 := z.1; have z2 := z.2; omega))
        refine lv_istore (lv' := [(6, .int r9), (5, .int r), (4, .int (nI (6 * j))), (0, .ref b), (1, .ref o), (2, .ref om), (3, .ref out)]) hx hb dL_law_403 hl (by decide) rfl (fun ls hl => ?_)
        refine lv_aload_n hx hb dL_law_405 rfl (lv_at hl 5 rfl) ?_
        obtain ⟨f7, d7, pr7, ta7, ti7, hPm, hDm, hRm⟩ := id hm
        refine m_cVi (rest := []) ⟨hx, hb, hml, hown, hts⟩ hE hS (fun q h => Nat.le_trans hNo h.1) (kX3_thrown l K (AmF om out) _ om adm f7 d7 pr7 ta7 ti7 _ hPm) (cwV 0 hts gL_law_X3_thrown rfl rfl rfl (by decide +kernel) ⟨Nat.le_of_ble_eq_true rfl, Nat.le_of_ble_eq_true rfl⟩) (va_recv hE.k hPm (ci := 4) (q0 := 0) rfl rfl) rfl rfl hl.1 rfl (Nat.le_of_ble_eq_true rfl) dL_law_406 ⟨by show _ ≤ 601024; omega, by show _ ≤ 7293034; omega⟩ (fun r8 H3 locs hp hS hk3 => ?_)
        obtain ⟨rfl, rfl⟩ := hp
        refine lv_iload hx hb dL_law_409 (lv_at hl 1 rfl) ?_
        refine lv_icmp_eq (tgt := 416) hx hb dL_law_411 (by decide) (fun c_411 => ?_) (fun c_411 => ?_)
        · refine lv_iload hx hb dL_law_416 (lv_at hl 1 rfl) ?_
          refine lv_if_ne (tgt := 433) hx hb dL_law_418 (by decide) (fun c_418 => ?_) (fun c_418 => ?_)
          · refine lv_goto (tgt := 1545) hx hb dL_law_433 (by decide) ?_
            refine W.widen (k := 64 + 18 * (j + 1)) (n := 7000 + 220 * (j + 1)) (by omega) (by omega) ?_
            exact kk _ _ _ ⟨_, _, _, _, _, _, _, _, _, _, hc, hm, hO⟩ hS (lv_sub hl [2, 3, 4, 5, 6] rfl)
          · exact absurd (show _ = nI 0 from c_418) hk0
        · exact absurd rfl c_411

set_option maxHeartbeats 4000000 in
set_option maxRecDepth 100000 in
theorem lc_remove {p : Program} {l : Launch} {e : Env} {s : State} {m : MethodId} {below : List Frame} {meth : Method} {c : Code} {b L : Nat} {xs : Nat → Int32} (hl0 : l.stackTraces = false) (hL : L ≤ 3072) (C0 : lw_At p s m meth c b L xs) (K : m_K) (hE : ENV K (fun q => s.heap.size ≤ q) s) (o : Nat) (ad : Nat → Nat) (om : Nat) (adm : Nat → Nat) (out : Nat) (hNo : s.heap.size ≤ om) (hoo : om ≤ out) (j : Nat) (hj : 6 * j + 6 ≤ L) {H : Heap} {locs : List Loc} {ls : Array Slot} (hSt : LSt K s.heap.size o ad om adm out H) (hS : va_S (fun q => s.heap.size ≤ q) s.heap H locs) (hl : lv_has ls 7 [(4, .int (nI (6 * j))), (0, .ref b), (1, .ref o), (2, .ref om), (3, .ref out)])
    (kk : ∀ (H1 : Heap) (locs1 : List Loc) (ls1 : Array Slot), LSt K s.heap.size o ad om adm out H1 → va_S (fun q => s.heap.size ≤ q) s.heap H1 locs1 → lv_has ls1 7 [(4, .int (nI (6 * j))), (0, .ref b), (1, .ref o), (2, .ref om), (3, .ref out)] → W p l e room_1 s m #[Value.ref b] below meth c H1 locs1 (64 + 18 * (j + 1)) (7000 + 220 * (j + 1)) (lw_Z below #[Value.ref b] s) (F0 m 1545 ls1 [])) :
    W p l e room_1 s m #[Value.ref b] below meth c H locs (64 + 18 * j) (7000 + 220 * j) (lw_Z below #[Value.ref b] s) (F0 m 436 ls []) := by
  obtain ⟨hx, hb, hr, hml, hown, hts0, hX, hbl, hlocks, hgv⟩ := C0
  have hts : ∀ w ∈ wsL_law, w.before #[Value.ref b] s = true := fun w h => hts0 w (wsL_law_in w h)
  have hbA : ¬ (fun q : Nat => s.heap.size ≤ q) b := Nat.not_le.mpr hbl
  obtain ⟨fb, on, fw, dr, fm, vs, ch, ps, la, wo, hc, hm, hO⟩ := hSt
  refine lv_aload_n hx hb dL_law_436 rfl (lv_at hl 2 rfl) ?_
  refine lv_aload_n hx hb dL_law_437 rfl (lv_at hl 1 rfl) ?_
  refine lv_iload hx hb dL_law_438 (lv_at hl 0 rfl) ?_
  refine lv_iconst (v := nI 1) hx hb dL_law_440 (by decide) ?_
  refine m_iadd hx hb dL_law_441 ?_
  refine m_sld hx hb hX hbl hbA hS (by omega) (by omega) dL_law_442 ?_
  refine lv_aload_n hx hb dL_law_443 rfl (lv_at hl 1 rfl) ?_
  refine lv_iload hx hb dL_law_444 (lv_at hl 0 rfl) ?_
  refine lv_iconst (v := nI 2) hx hb dL_law_446 (by decide) ?_
  refine m_iadd hx hb dL_law_447 ?_
  refine m_sld hx hb hX hbl hbA hS (by omega) (by omega) dL_law_448 ?_
  refine lv_aload_n hx hb dL_law_449 rfl (lv_at hl 1 rfl) ?_
  refine lv_iload hx hb dL_law_450 (lv_at hl 0 rfl) ?_
  refine lv_iconst (v := nI 3) hx hb dL_law_452 (by decide) ?_
  refine m_iadd hx hb dL_law_453 ?_
  refine m_sld hx hb hX hbl hbA hS (by omega) (by omega) dL_law_454 ?_
  refine lv_aload_n hx hb dL_law_455 rfl (lv_at hl 1 rfl) ?_
  refine lv_iload hx hb dL_law_456 (lv_at hl 0 rfl) ?_
  refine lv_iconst (v := nI 4) hx hb dL_law_458 (by decide) ?_
  refine m_iadd hx hb dL_law_459 ?_
  refine m_sld hx hb hX hbl hbA hS (by omega) (by omega) dL_law_460 ?_
  refine lv_aload_n hx hb dL_law_461 rfl (lv_at hl 4 rfl) ?_
  refine m_cWi (rest := []) ⟨hx, hb, hml, hown, hts⟩ hE hS (fun q h => h.1) (kL_remove l K (AwF s.heap.size om out) _ hl0 (AcF s.heap.size om out) (fun q h => ⟨h.1, h.2.elim Or.inl (fun z => Or.inr (Nat.le_of_lt z))⟩) out ⟨Nat.le_trans hNo hoo, Or.inr (Nat.le_refl _)⟩ (fun z => by have z2 := z.2; omega) wo hO o ad fb on fw dr fm vs ch ps hc (fun q hq => ⟨Nat.le_trans hS.1 hq, Or.inr (Nat.lt_of_lt_of_le hO.lt hq)⟩) (xs ((6 * j) + 1)) (xs ((6 * j) + 2)) (xs ((6 * j) + 3)) (xs ((6 * j) + 4))) (vx_cwSW 6 hts gL_law_L_remove rfl rfl rfl (by decide +kernel) ⟨Nat.le_of_ble_eq_true rfl, Nat.le_of_ble_eq_true rfl⟩) rfl rfl hl.1 rfl (Nat.le_of_ble_eq_true rfl) dL_law_462 ⟨by show _ ≤ 601024; omega, by show _ ≤ 7293034; omega⟩ (fun r H1 locs hp hS hk => ?_)
  obtain ⟨wo, hO9, hr3⟩ := hp
  have hm := hm.kept (fun q hq h => hk q hq (fun z => by have h1 := h.1; have h2 := h.2; have z2 := z.2; omega))
  have hO := hO9
  clear hk
  refine lv_istore (lv' := [(5, .int r), (4, .int (nI (6 * j))), (0, .ref b), (1, .ref o), (2, .ref om), (3, .ref out)]) hx hb dL_law_465 hl (by decide) rfl (fun ls hl => ?_)
  refine lv_aload_n hx hb dL_law_467 rfl (lv_at hl 4 rfl) ?_
  refine lv_aload_n hx hb dL_law_468 rfl (lv_at hl 2 rfl) ?_
  refine lv_iload hx hb dL_law_469 (lv_at hl 1 rfl) ?_
  refine lv_iconst (v := nI 1) hx hb dL_law_471 (by decide) ?_
  refine m_iadd hx hb dL_law_472 ?_
  refine m_sld hx hb hX hbl hbA hS (by omega) (by omega) dL_law_473 ?_
  refine lv_aload_n hx hb dL_law_474 rfl (lv_at hl 2 rfl) ?_
  refine lv_iload hx hb dL_law_475 (lv_at hl 1 rfl) ?_
  refine lv_iconst (v := nI 2) hx hb dL_law_477 (by decide) ?_
  refine m_iadd hx hb dL_law_478 ?_
  refine m_sld hx hb hX hbl hbA hS (by omega) (by omega) dL_law_479 ?_
  refine lv_aload_n hx hb dL_law_480 rfl (lv_at hl 2 rfl) ?_
  refine lv_iload hx hb dL_law_481 (lv_at hl 1 rfl) ?_
  refine lv_iconst (v := nI 3) hx hb dL_law_483 (by decide) ?_
  refine m_iadd hx hb dL_law_484 ?_
  refine m_sld hx hb hX hbl hbA hS (by omega) (by omega) dL_law_485 ?_
  refine lv_aload_n hx hb dL_law_486 rfl (lv_at hl 2 rfl) ?_
  refine lv_iload hx hb dL_law_487 (lv_at hl 1 rfl) ?_
  refine lv_iconst (v := nI 4) hx hb dL_law_489 (by decide) ?_
  refine m_iadd hx hb dL_law_490 ?_
  refine m_sld hx hb hX hbl hbA hS (by omega) (by omega) dL_law_491 ?_
  obtain ⟨f8, d8, pr8, ta8, ti8, hPm, hDm, hRm⟩ := id hm
  refine m_cVi (rest := []) ⟨hx, hb, hml, hown, hts⟩ hE hS (fun q h => Nat.le_trans hNo h.1) (kX3_remove l K (AmF om out) _ om adm fb on fw dr fm vs ch ps la hm (xs ((6 * j) + 1)) (xs ((6 * j) + 2)) (xs ((6 * j) + 3)) (xs ((6 * j) + 4))) (cwV 4 hts gL_law_X3_remove rfl rfl rfl (by decide +kernel) ⟨Nat.le_of_ble_eq_true rfl, Nat.le_of_ble_eq_true rfl⟩) (va_recv hE.k hPm (ci := 4) (q0 := 0) rfl rfl) rfl rfl hl.1 rfl (Nat.le_of_ble_eq_true rfl) dL_law_492 ⟨by show _ ≤ 601024; omega, by show _ ≤ 7293034; omega⟩ (fun r9 H2 locs hp hS hk2 => ?_)
  obtain ⟨k9, hq3⟩ := hp
  obtain ⟨hkk, hcase⟩ := r3_two hr3 hq3
  subst hkk
  have hO : OUT K out wo _ := hO.k1 (hk2 out hO.lt (fun z => absurd z.2 (Nat.lt_irrefl _)))
  rcases hcase with ⟨hk0, ⟨v, hv, hans, hc⟩, hans2, hm⟩ | ⟨hk0, hc, hm⟩
  · have hc := hc.kept (fun q hq h => hk2 q hq (fun z => by have h2 := h.2; have z1 := z.1; have z2 := z.2; omega))
    subst hk0
    have hvr := hans.trans hans2.symm
    rw [hvr] at hv
    refine lv_istore (lv' := [(6, .int r9), (5, .int (nI 0)), (4, .int (nI (6 * j))), (0, .ref b), (1, .ref o), (2, .ref om), (3, .ref out)]) hx hb dL_law_495 hl (by decide) rfl (fun ls hl => ?_)
    refine lv_aload_n hx hb dL_law_497 rfl (lv_at hl 5 rfl) ?_
    obtain ⟨f7, d7, pr7, ta7, ti7, hPm, hDm, hRm⟩ := id hm
    refine m_cVi (rest := []) ⟨hx, hb, hml, hown, hts⟩ hE hS (fun q h => Nat.le_trans hNo h.1) (kX3_thrown l K (AmF om out) _ om adm f7 d7 pr7 ta7 ti7 _ hPm) (cwV 0 hts gL_law_X3_thrown rfl rfl rfl (by decide +kernel) ⟨Nat.le_of_ble_eq_true rfl, Nat.le_of_ble_eq_true rfl⟩) (va_recv hE.k hPm (ci := 4) (q0 := 0) rfl rfl) rfl rfl hl.1 rfl (Nat.le_of_ble_eq_true rfl) dL_law_498 ⟨by show _ ≤ 601024; omega, by show _ ≤ 7293034; omega⟩ (fun r8 H3 locs hp hS hk3 => ?_)
    obtain ⟨rfl, rfl⟩ := hp
    refine lv_iload hx hb dL_law_501 (lv_at hl 1 rfl) ?_
    refine m_icmp_eq (tgt := 508) hx hb (by omega) (by omega) dL_law_503 (by decide) (fun c_503 => ?_) (fun c_503 => ?_)
    · refine lv_iload hx hb dL_law_508 (lv_at hl 1 rfl) ?_
      refine m_if_ne (tgt := 525) hx hb (by omega) dL_law_510 (by decide) (fun c_510 => ?_) (fun c_510 => ?_)
      · exact absurd rfl c_510
      · refine lv_aload_n hx hb dL_law_513 rfl (lv_at hl 6 rfl) ?_
        refine lv_iconst (v := nI 0) hx hb dL_law_514 (by decide) ?_
        refine m_lald1 hx hb hE.k hO hv dL_law_515 ?_
        refine lv_iload hx hb dL_law_516 (lv_at hl 0 rfl) ?_
        refine lv_i2l hx hb dL_law_518 rfl ?_
        refine m_lcmp0 hx hb dL_law_519 ?_
        refine lv_if_eq (tgt := 525) hx hb dL_law_520 (by decide) (fun c_520 => ?_) (fun c_520 => ?_)
        · refine lv_goto (tgt := 1545) hx hb dL_law_525 (by decide) ?_
          refine W.widen (k := 64 + 18 * (j + 1)) (n := 7000 + 220 * (j + 1)) (by omega) (by omega) ?_
          exact kk _ _ _ ⟨_, _, _, _, _, _, _, _, _, _, hc, hm, hO⟩ hS (lv_sub hl [2, 3, 4, 5, 6] rfl)
        · exact absurd rfl c_520
    · exact absurd rfl c_503
  · have hc := hc.kept (fun q hq h => hk2 q hq (fun z => by have h2 := h.2; have z1 := z.1; have z2 := z.2; omega))
    refine lv_istore (lv' := [(6, .int r9), (5, .int r), (4, .int (nI (6 * j))), (0, .ref b), (1, .ref o), (2, .ref om), (3, .ref out)]) hx hb dL_law_495 hl (by decide) rfl (fun ls hl => ?_)
    refine lv_aload_n hx hb dL_law_497 rfl (lv_at hl 5 rfl) ?_
    obtain ⟨f7, d7, pr7, ta7, ti7, hPm, hDm, hRm⟩ := id hm
    refine m_cVi (rest := []) ⟨hx, hb, hml, hown, hts⟩ hE hS (fun q h => Nat.le_trans hNo h.1) (kX3_thrown l K (AmF om out) _ om adm f7 d7 pr7 ta7 ti7 _ hPm) (cwV 0 hts gL_law_X3_thrown rfl rfl rfl (by decide +kernel) ⟨Nat.le_of_ble_eq_true rfl, Nat.le_of_ble_eq_true rfl⟩) (va_recv hE.k hPm (ci := 4) (q0 := 0) rfl rfl) rfl rfl hl.1 rfl (Nat.le_of_ble_eq_true rfl) dL_law_498 ⟨by show _ ≤ 601024; omega, by show _ ≤ 7293034; omega⟩ (fun r8 H3 locs hp hS hk3 => ?_)
    obtain ⟨rfl, rfl⟩ := hp
    refine lv_iload hx hb dL_law_501 (lv_at hl 1 rfl) ?_
    refine lv_icmp_eq (tgt := 508) hx hb dL_law_503 (by decide) (fun c_503 => ?_) (fun c_503 => ?_)
    · refine lv_iload hx hb dL_law_508 (lv_at hl 1 rfl) ?_
      refine lv_if_ne (tgt := 525) hx hb dL_law_510 (by decide) (fun c_510 => ?_) (fun c_510 => ?_)
      · refine lv_goto (tgt := 1545) hx hb dL_law_525 (by decide) ?_
        refine W.widen (k := 64 + 18 * (j + 1)) (n := 7000 + 220 * (j + 1)) (by omega) (by omega) ?_
        exact kk _ _ _ ⟨_, _, _, _, _, _, _, _, _, _, hc, hm, hO⟩ hS (lv_sub hl [2, 3, 4, 5, 6] rfl)
      · exact absurd (show _ = nI 0 from c_510) hk0
    · exact absurd rfl c_503

set_option maxHeartbeats 4000000 in
set_option maxRecDepth 100000 in
theorem lc_draft {p : Program} {l : Launch} {e : Env} {s : State} {m : MethodId} {below : List Frame} {meth : Method} {c : Code} {b L : Nat} {xs : Nat → Int32} (hl0 : l.stackTraces = false) (hL : L ≤ 3072) (C0 : lw_At p s m meth c b L xs) (K : m_K) (hE : ENV K (fun q => s.heap.size ≤ q) s) (o : Nat) (ad : Nat → Nat) (om : Nat) (adm : Nat → Nat) (out : Nat) (hNo : s.heap.size ≤ om) (hoo : om ≤ out) (j : Nat) (hj : 6 * j + 6 ≤ L) {H : Heap} {locs : List Loc} {ls : Array Slot} (hSt : LSt K s.heap.size o ad om adm out H) (hS : va_S (fun q => s.heap.size ≤ q) s.heap H locs) (hl : lv_has ls 7 [(4, .int (nI (6 * j))), (0, .ref b), (1, .ref o), (2, .ref om), (3, .ref out)])
    (kk : ∀ (H1 : Heap) (locs1 : List Loc) (ls1 : Array Slot), LSt K s.heap.size o ad om adm out H1 → va_S (fun q => s.heap.size ≤ q) s.heap H1 locs1 → lv_has ls1 7 [(4, .int (nI (6 * j))), (0, .ref b), (1, .ref o), (2, .ref om), (3, .ref out)] → W p l e room_1 s m #[Value.ref b] below meth c H1 locs1 (64 + 18 * (j + 1)) (7000 + 220 * (j + 1)) (lw_Z below #[Value.ref b] s) (F0 m 1545 ls1 [])) :
    W p l e room_1 s m #[Value.ref b] below meth c H locs (64 + 18 * j) (7000 + 220 * j) (lw_Z below #[Value.ref b] s) (F0 m 528 ls []) := by
  obtain ⟨hx, hb, hr, hml, hown, hts0, hX, hbl, hlocks, hgv⟩ := C0
  have hts : ∀ w ∈ wsL_law, w.before #[Value.ref b] s = true := fun w h => hts0 w (wsL_law_in w h)
  have hbA : ¬ (fun q : Nat => s.heap.size ≤ q) b := Nat.not_le.mpr hbl
  obtain ⟨fb, on, fw, dr, fm, vs, ch, ps, la, wo, hc, hm, hO⟩ := hSt
  refine lv_aload_n hx hb dL_law_528 rfl (lv_at hl 2 rfl) ?_
  obtain ⟨f9, d9, ft9, li9, T9, hPc, hDc, hRc⟩ := id hc
  refine m_cVi (rest := []) ⟨hx, hb, hml, hown, hts⟩ hE hS (fun q h => h.1) (kX2_draft l K (AcF s.heap.size om out) _ o ad fb on fw dr fm vs ch ps hc) (cwV 0 hts gL_law_X2_draft rfl rfl rfl (by decide +kernel) ⟨Nat.le_of_ble_eq_true rfl, Nat.le_of_ble_eq_true rfl⟩) (va_recv hE.k hPc (ci := 3) (q0 := 0) rfl rfl) rfl rfl hl.1 rfl (Nat.le_of_ble_eq_true rfl) dL_law_529 ⟨by show _ ≤ 601024; omega, by show _ ≤ 7293034; omega⟩ (fun r H1 locs hp hS hk => ?_)
  obtain ⟨rfl, rfl⟩ := hp
  clear hk
  refine lv_aload_n hx hb dL_law_532 rfl (lv_at hl 3 rfl) ?_
  obtain ⟨f8, d8, pr8, ta8, ti8, hPm, hDm, hRm⟩ := id hm
  refine m_cVi (rest := [.int (nI dr.length)]) ⟨hx, hb, hml, hown, hts⟩ hE hS (fun q h => Nat.le_trans hNo h.1) (kX3_draft l K (AmF om out) _ om adm fb on fw dr fm vs ch ps la hm) (cwV 0 hts gL_law_X3_draft rfl rfl rfl (by decide +kernel) ⟨Nat.le_of_ble_eq_true rfl, Nat.le_of_ble_eq_true rfl⟩) (va_recv hE.k hPm (ci := 4) (q0 := 0) rfl rfl) rfl rfl hl.1 rfl (Nat.le_of_ble_eq_true rfl) dL_law_533 ⟨by show _ ≤ 601024; omega, by show _ ≤ 7293034; omega⟩ (fun r9 H2 locs hp hS hk2 => ?_)
  obtain ⟨rfl, hm⟩ := hp
  have hc := hc.kept (fun q hq h => hk2 q hq (fun z => by have h2 := h.2; have z1 := z.1; have z2 := z.2; omega))
  have hO : OUT K out wo _ := hO.k1 (hk2 out hO.lt (fun z => absurd z.2 (Nat.lt_irrefl _)))
  refine lv_icmp_eq (tgt := 1545) hx hb dL_law_536 (by decide) (fun c_536 => ?_) (fun c_536 => ?_)
  · refine W.widen (k := 64 + 18 * (j + 1)) (n := 7000 + 220 * (j + 1)) (by omega) (by omega) ?_
    exact kk _ _ _ ⟨_, _, _, _, _, _, _, _, _, _, hc, hm, hO⟩ hS (lv_sub hl [0, 1, 2, 3, 4] rfl)
  · exact absurd rfl c_536

set_option maxHeartbeats 4000000 in
set_option maxRecDepth 100000 in
theorem lc_kindOf {p : Program} {l : Launch} {e : Env} {s : State} {m : MethodId} {below : List Frame} {meth : Method} {c : Code} {b L : Nat} {xs : Nat → Int32} (hl0 : l.stackTraces = false) (hL : L ≤ 3072) (C0 : lw_At p s m meth c b L xs) (K : m_K) (hE : ENV K (fun q => s.heap.size ≤ q) s) (o : Nat) (ad : Nat → Nat) (om : Nat) (adm : Nat → Nat) (out : Nat) (hNo : s.heap.size ≤ om) (hoo : om ≤ out) (j : Nat) (hj : 6 * j + 6 ≤ L) {H : Heap} {locs : List Loc} {ls : Array Slot} (hSt : LSt K s.heap.size o ad om adm out H) (hS : va_S (fun q => s.heap.size ≤ q) s.heap H locs) (hl : lv_has ls 7 [(4, .int (nI (6 * j))), (0, .ref b), (1, .ref o), (2, .ref om), (3, .ref out)])
    (kk : ∀ (H1 : Heap) (locs1 : List Loc) (ls1 : Array Slot), LSt K s.heap.size o ad om adm out H1 → va_S (fun q => s.heap.size ≤ q) s.heap H1 locs1 → lv_has ls1 7 [(4, .int (nI (6 * j))), (0, .ref b), (1, .ref o), (2, .ref om), (3, .ref out)] → W p l e room_1 s m #[Value.ref b] below meth c H1 locs1 (64 + 18 * (j + 1)) (7000 + 220 * (j + 1)) (lw_Z below #[Value.ref b] s) (F0 m 1545 ls1 [])) :
    W p l e room_1 s m #[Value.ref b] below meth c H locs (64 + 18 * j) (7000 + 220 * j) (lw_Z below #[Value.ref b] s) (F0 m 541 ls []) := by
  obtain ⟨hx, hb, hr, hml, hown, hts0, hX, hbl, hlocks, hgv⟩ := C0
  have hts : ∀ w ∈ wsL_law, w.before #[Value.ref b] s = true := fun w h => hts0 w (wsL_law_in w h)
  have hbA : ¬ (fun q : Nat => s.heap.size ≤ q) b := Nat.not_le.mpr hbl
  obtain ⟨fb, on, fw, dr, fm, vs, ch, ps, la, wo, hc, hm, hO⟩ := hSt
  refine lv_aload_n hx hb dL_law_541 rfl (lv_at hl 2 rfl) ?_
  refine lv_aload_n hx hb dL_law_542 rfl (lv_at hl 1 rfl) ?_
  refine lv_iload hx hb dL_law_543 (lv_at hl 0 rfl) ?_
  refine lv_iconst (v := nI 1) hx hb dL_law_545 (by decide) ?_
  refine m_iadd hx hb dL_law_546 ?_
  refine m_sld hx hb hX hbl hbA hS (by omega) (by omega) dL_law_547 ?_
  refine lv_aload_n hx hb dL_law_548 rfl (lv_at hl 1 rfl) ?_
  refine lv_iload hx hb dL_law_549 (lv_at hl 0 rfl) ?_
  refine lv_iconst (v := nI 2) hx hb dL_law_551 (by decide) ?_
  refine m_iadd hx hb dL_law_552 ?_
  refine m_sld hx hb hX hbl hbA hS (by omega) (by omega) dL_law_553 ?_
  refine lv_aload_n hx hb dL_law_554 rfl (lv_at hl 4 rfl) ?_
  refine m_cWi (rest := []) ⟨hx, hb, hml, hown, hts⟩ hE hS (fun q h => h.1) (kL_kindOf l K (AwF s.heap.size om out) _ hl0 (AcF s.heap.size om out) (fun q h => ⟨h.1, h.2.elim Or.inl (fun z => Or.inr (Nat.le_of_lt z))⟩) out ⟨Nat.le_trans hNo hoo, Or.inr (Nat.le_refl _)⟩ (fun z => by have z2 := z.2; omega) wo hO o ad fb on fw dr fm vs ch ps hc (fun q hq => ⟨Nat.le_trans hS.1 hq, Or.inr (Nat.lt_of_lt_of_le hO.lt hq)⟩) (xs ((6 * j) + 1)) (xs ((6 * j) + 2))) (vx_cwSW 4 hts gL_law_L_kindOf rfl rfl rfl (by decide +kernel) ⟨Nat.le_of_ble_eq_true rfl, Nat.le_of_ble_eq_true rfl⟩) rfl rfl hl.1 rfl (Nat.le_of_ble_eq_true rfl) dL_law_555 ⟨by show _ ≤ 601024; omega, by show _ ≤ 7293034; omega⟩ (fun r H1 locs hp hS hk => ?_)
  obtain ⟨wo, hO9, hr3⟩ := hp
  have hm := hm.kept (fun q hq h => hk q hq (fun z => by have h1 := h.1; have h2 := h.2; have z2 := z.2; omega))
  have hO := hO9
  clear hk
  refine lv_istore (lv' := [(5, .int r), (4, .int (nI (6 * j))), (0, .ref b), (1, .ref o), (2, .ref om), (3, .ref out)]) hx hb dL_law_558 hl (by decide) rfl (fun ls hl => ?_)
  refine lv_aload_n hx hb dL_law_560 rfl (lv_at hl 4 rfl) ?_
  refine lv_aload_n hx hb dL_law_561 rfl (lv_at hl 2 rfl) ?_
  refine lv_iload hx hb dL_law_562 (lv_at hl 1 rfl) ?_
  refine lv_iconst (v := nI 1) hx hb dL_law_564 (by decide) ?_
  refine m_iadd hx hb dL_law_565 ?_
  refine m_sld hx hb hX hbl hbA hS (by omega) (by omega) dL_law_566 ?_
  refine lv_aload_n hx hb dL_law_567 rfl (lv_at hl 2 rfl) ?_
  refine lv_iload hx hb dL_law_568 (lv_at hl 1 rfl) ?_
  refine lv_iconst (v := nI 2) hx hb dL_law_570 (by decide) ?_
  refine m_iadd hx hb dL_law_571 ?_
  refine m_sld hx hb hX hbl hbA hS (by omega) (by omega) dL_law_572 ?_
  obtain ⟨f8, d8, pr8, ta8, ti8, hPm, hDm, hRm⟩ := id hm
  refine m_cVi (rest := []) ⟨hx, hb, hml, hown, hts⟩ hE hS (fun q h => Nat.le_trans hNo h.1) (kX3_kindOf l K (AmF om out) _ om adm fb on fw dr fm vs ch ps la hm (xs ((6 * j) + 1)) (xs ((6 * j) + 2))) (cwV 2 hts gL_law_X3_kindOf rfl rfl rfl (by decide +kernel) ⟨Nat.le_of_ble_eq_true rfl, Nat.le_of_ble_eq_true rfl⟩) (va_recv hE.k hPm (ci := 4) (q0 := 0) rfl rfl) rfl rfl hl.1 rfl (Nat.le_of_ble_eq_true rfl) dL_law_573 ⟨by show _ ≤ 601024; omega, by show _ ≤ 7293034; omega⟩ (fun r9 H2 locs hp hS hk2 => ?_)
  obtain ⟨k9, hq3⟩ := hp
  obtain ⟨hkk, hcase⟩ := r3_two hr3 hq3
  subst hkk
  have hO : OUT K out wo _ := hO.k1 (hk2 out hO.lt (fun z => absurd z.2 (Nat.lt_irrefl _)))
  rcases hcase with ⟨hk0, ⟨v, hv, hans, hc⟩, hans2, hm⟩ | ⟨hk0, hc, hm⟩
  · have hc := hc.kept (fun q hq h => hk2 q hq (fun z => by have h2 := h.2; have z1 := z.1; have z2 := z.2; omega))
    subst hk0
    have hvr := hans.trans hans2.symm
    rw [hvr] at hv
    refine lv_istore (lv' := [(6, .int r9), (5, .int (nI 0)), (4, .int (nI (6 * j))), (0, .ref b), (1, .ref o), (2, .ref om), (3, .ref out)]) hx hb dL_law_576 hl (by decide) rfl (fun ls hl => ?_)
    refine lv_aload_n hx hb dL_law_578 rfl (lv_at hl 5 rfl) ?_
    obtain ⟨f7, d7, pr7, ta7, ti7, hPm, hDm, hRm⟩ := id hm
    refine m_cVi (rest := []) ⟨hx, hb, hml, hown, hts⟩ hE hS (fun q h => Nat.le_trans hNo h.1) (kX3_thrown l K (AmF om out) _ om adm f7 d7 pr7 ta7 ti7 _ hPm) (cwV 0 hts gL_law_X3_thrown rfl rfl rfl (by decide +kernel) ⟨Nat.le_of_ble_eq_true rfl, Nat.le_of_ble_eq_true rfl⟩) (va_recv hE.k hPm (ci := 4) (q0 := 0) rfl rfl) rfl rfl hl.1 rfl (Nat.le_of_ble_eq_true rfl) dL_law_579 ⟨by show _ ≤ 601024; omega, by show _ ≤ 7293034; omega⟩ (fun r8 H3 locs hp hS hk3 => ?_)
    obtain ⟨rfl, rfl⟩ := hp
    refine lv_iload hx hb dL_law_582 (lv_at hl 1 rfl) ?_
    refine m_icmp_eq (tgt := 589) hx hb (by omega) (by omega) dL_law_584 (by decide) (fun c_584 => ?_) (fun c_584 => ?_)
    · refine lv_iload hx hb dL_law_589 (lv_at hl 1 rfl) ?_
      refine m_if_ne (tgt := 606) hx hb (by omega) dL_law_591 (by decide) (fun c_591 => ?_) (fun c_591 => ?_)
      · exact absurd rfl c_591
      · refine lv_aload_n hx hb dL_law_594 rfl (lv_at hl 6 rfl) ?_
        refine lv_iconst (v := nI 0) hx hb dL_law_595 (by decide) ?_
        refine m_lald1 hx hb hE.k hO hv dL_law_596 ?_
        refine lv_iload hx hb dL_law_597 (lv_at hl 0 rfl) ?_
        refine lv_i2l hx hb dL_law_599 rfl ?_
        refine m_lcmp0 hx hb dL_law_600 ?_
        refine lv_if_eq (tgt := 606) hx hb dL_law_601 (by decide) (fun c_601 => ?_) (fun c_601 => ?_)
        · refine lv_goto (tgt := 1545) hx hb dL_law_606 (by decide) ?_
          refine W.widen (k := 64 + 18 * (j + 1)) (n := 7000 + 220 * (j + 1)) (by omega) (by omega) ?_
          exact kk _ _ _ ⟨_, _, _, _, _, _, _, _, _, _, hc, hm, hO⟩ hS (lv_sub hl [2, 3, 4, 5, 6] rfl)
        · exact absurd rfl c_601
    · exact absurd rfl c_584
  · have hc := hc.kept (fun q hq h => hk2 q hq (fun z => by have h2 := h.2; have z1 := z.1; have z2 := z.2; omega))
    refine lv_istore (lv' := [(6, .int r9), (5, .int r), (4, .int (nI (6 * j))), (0, .ref b), (1, .ref o), (2, .ref om), (3, .ref out)]) hx hb dL_law_576 hl (by decide) rfl (fun ls hl => ?_)
    refine lv_aload_n hx hb dL_law_578 rfl (lv_at hl 5 rfl) ?_
    obtain ⟨f7, d7, pr7, ta7, ti7, hPm, hDm, hRm⟩ := id hm
    refine m_cVi (rest := []) ⟨hx, hb, hml, hown, hts⟩ hE hS (fun q h => Nat.le_trans hNo h.1) (kX3_thrown l K (AmF om out) _ om adm f7 d7 pr7 ta7 ti7 _ hPm) (cwV 0 hts gL_law_X3_thrown rfl rfl rfl (by decide +kernel) ⟨Nat.le_of_ble_eq_true rfl, Nat.le_of_ble_eq_true rfl⟩) (va_recv hE.k hPm (ci := 4) (q0 := 0) rfl rfl) rfl rfl hl.1 rfl (Nat.le_of_ble_eq_true rfl) dL_law_579 ⟨by show _ ≤ 601024; omega, by show _ ≤ 7293034; omega⟩ (fun r8 H3 locs hp hS hk3 => ?_)
    obtain ⟨rfl, rfl⟩ := hp
    refine lv_iload hx hb dL_law_582 (lv_at hl 1 rfl) ?_
    refine lv_icmp_eq (tgt := 589) hx hb dL_law_584 (by decide) (fun c_584 => ?_) (fun c_584 => ?_)
    · refine lv_iload hx hb dL_law_589 (lv_at hl 1 rfl) ?_
      refine lv_if_ne (tgt := 606) hx hb dL_law_591 (by decide) (fun c_591 => ?_) (fun c_591 => ?_)
      · refine lv_goto (tgt := 1545) hx hb dL_law_606 (by decide) ?_
        refine W.widen (k := 64 + 18 * (j + 1)) (n := 7000 + 220 * (j + 1)) (by omega) (by omega) ?_
        exact kk _ _ _ ⟨_, _, _, _, _, _, _, _, _, _, hc, hm, hO⟩ hS (lv_sub hl [2, 3, 4, 5, 6] rfl)
      · exact absurd (show _ = nI 0 from c_591) hk0
    · exact absurd rfl c_584

set_option maxHeartbeats 4000000 in
set_option maxRecDepth 100000 in
theorem lc_forms {p : Program} {l : Launch} {e : Env} {s : State} {m : MethodId} {below : List Frame} {meth : Method} {c : Code} {b L : Nat} {xs : Nat → Int32} (hl0 : l.stackTraces = false) (hL : L ≤ 3072) (C0 : lw_At p s m meth c b L xs) (K : m_K) (hE : ENV K (fun q => s.heap.size ≤ q) s) (o : Nat) (ad : Nat → Nat) (om : Nat) (adm : Nat → Nat) (out : Nat) (hNo : s.heap.size ≤ om) (hoo : om ≤ out) (j : Nat) (hj : 6 * j + 6 ≤ L) {H : Heap} {locs : List Loc} {ls : Array Slot} (hSt : LSt K s.heap.size o ad om adm out H) (hS : va_S (fun q => s.heap.size ≤ q) s.heap H locs) (hl : lv_has ls 7 [(4, .int (nI (6 * j))), (0, .ref b), (1, .ref o), (2, .ref om), (3, .ref out)])
    (kk : ∀ (H1 : Heap) (locs1 : List Loc) (ls1 : Array Slot), LSt K s.heap.size o ad om adm out H1 → va_S (fun q => s.heap.size ≤ q) s.heap H1 locs1 → lv_has ls1 7 [(4, .int (nI (6 * j))), (0, .ref b), (1, .ref o), (2, .ref om), (3, .ref out)] → W p l e room_1 s m #[Value.ref b] below meth c H1 locs1 (64 + 18 * (j + 1)) (7000 + 220 * (j + 1)) (lw_Z below #[Value.ref b] s) (F0 m 1545 ls1 [])) :
    W p l e room_1 s m #[Value.ref b] below meth c H locs (64 + 18 * j) (7000 + 220 * j) (lw_Z below #[Value.ref b] s) (F0 m 609 ls []) := by
  obtain ⟨hx, hb, hr, hml, hown, hts0, hX, hbl, hlocks, hgv⟩ := C0
  have hts : ∀ w ∈ wsL_law, w.before #[Value.ref b] s = true := fun w h => hts0 w (wsL_law_in w h)
  have hbA : ¬ (fun q : Nat => s.heap.size ≤ q) b := Nat.not_le.mpr hbl
  obtain ⟨fb, on, fw, dr, fm, vs, ch, ps, la, wo, hc, hm, hO⟩ := hSt
  refine lv_aload_n hx hb dL_law_609 rfl (lv_at hl 2 rfl) ?_
  refine lv_aload_n hx hb dL_law_610 rfl (lv_at hl 1 rfl) ?_
  refine lv_iload hx hb dL_law_611 (lv_at hl 0 rfl) ?_
  refine lv_iconst (v := nI 1) hx hb dL_law_613 (by decide) ?_
  refine m_iadd hx hb dL_law_614 ?_
  refine m_sld hx hb hX hbl hbA hS (by omega) (by omega) dL_law_615 ?_
  refine lv_aload_n hx hb dL_law_616 rfl (lv_at hl 1 rfl) ?_
  refine lv_iload hx hb dL_law_617 (lv_at hl 0 rfl) ?_
  refine lv_iconst (v := nI 2) hx hb dL_law_619 (by decide) ?_
  refine m_iadd hx hb dL_law_620 ?_
  refine m_sld hx hb hX hbl hbA hS (by omega) (by omega) dL_law_621 ?_
  refine lv_aload_n hx hb dL_law_622 rfl (lv_at hl 4 rfl) ?_
  refine m_cWi (rest := []) ⟨hx, hb, hml, hown, hts⟩ hE hS (fun q h => h.1) (kL_forms l K (AwF s.heap.size om out) _ hl0 (AcF s.heap.size om out) (fun q h => ⟨h.1, h.2.elim Or.inl (fun z => Or.inr (Nat.le_of_lt z))⟩) out ⟨Nat.le_trans hNo hoo, Or.inr (Nat.le_refl _)⟩ (fun z => by have z2 := z.2; omega) wo hO o ad fb on fw dr fm vs ch ps hc (fun q hq => ⟨Nat.le_trans hS.1 hq, Or.inr (Nat.lt_of_lt_of_le hO.lt hq)⟩) (xs ((6 * j) + 1)) (xs ((6 * j) + 2))) (vx_cwSW 4 hts gL_law_L_forms rfl rfl rfl (by decide +kernel) ⟨Nat.le_of_ble_eq_true rfl, Nat.le_of_ble_eq_true rfl⟩) rfl rfl hl.1 rfl (Nat.le_of_ble_eq_true rfl) dL_law_623 ⟨by show _ ≤ 601024; omega, by show _ ≤ 7293034; omega⟩ (fun r H1 locs hp hS hk => ?_)
  obtain ⟨wo, hO9, hr3⟩ := hp
  have hm := hm.kept (fun q hq h => hk q hq (fun z => by have h1 := h.1; have h2 := h.2; have z2 := z.2; omega))
  have hO := hO9
  clear hk
  refine lv_istore (lv' := [(5, .int r), (4, .int (nI (6 * j))), (0, .ref b), (1, .ref o), (2, .ref om), (3, .ref out)]) hx hb dL_law_626 hl (by decide) rfl (fun ls hl => ?_)
  refine lv_aload_n hx hb dL_law_628 rfl (lv_at hl 4 rfl) ?_
  refine lv_aload_n hx hb dL_law_629 rfl (lv_at hl 2 rfl) ?_
  refine lv_iload hx hb dL_law_630 (lv_at hl 1 rfl) ?_
  refine lv_iconst (v := nI 1) hx hb dL_law_632 (by decide) ?_
  refine m_iadd hx hb dL_law_633 ?_
  refine m_sld hx hb hX hbl hbA hS (by omega) (by omega) dL_law_634 ?_
  refine lv_aload_n hx hb dL_law_635 rfl (lv_at hl 2 rfl) ?_
  refine lv_iload hx hb dL_law_636 (lv_at hl 1 rfl) ?_
  refine lv_iconst (v := nI 2) hx hb dL_law_638 (by decide) ?_
  refine m_iadd hx hb dL_law_639 ?_
  refine m_sld hx hb hX hbl hbA hS (by omega) (by omega) dL_law_640 ?_
  obtain ⟨f8, d8, pr8, ta8, ti8, hPm, hDm, hRm⟩ := id hm
  refine m_cVi (rest := []) ⟨hx, hb, hml, hown, hts⟩ hE hS (fun q h => Nat.le_trans hNo h.1) (kX3_forms l K (AmF om out) _ om adm fb on fw dr fm vs ch ps la hm (xs ((6 * j) + 1)) (xs ((6 * j) + 2))) (cwV 2 hts gL_law_X3_forms rfl rfl rfl (by decide +kernel) ⟨Nat.le_of_ble_eq_true rfl, Nat.le_of_ble_eq_true rfl⟩) (va_recv hE.k hPm (ci := 4) (q0 := 0) rfl rfl) rfl rfl hl.1 rfl (Nat.le_of_ble_eq_true rfl) dL_law_641 ⟨by show _ ≤ 601024; omega, by show _ ≤ 7293034; omega⟩ (fun r9 H2 locs hp hS hk2 => ?_)
  obtain ⟨k9, hq3⟩ := hp
  obtain ⟨hkk, hcase⟩ := r3_two hr3 hq3
  subst hkk
  have hO : OUT K out wo _ := hO.k1 (hk2 out hO.lt (fun z => absurd z.2 (Nat.lt_irrefl _)))
  rcases hcase with ⟨hk0, ⟨v, hv, hans, hc⟩, hans2, hm⟩ | ⟨hk0, hc, hm⟩
  · have hc := hc.kept (fun q hq h => hk2 q hq (fun z => by have h2 := h.2; have z1 := z.1; have z2 := z.2; omega))
    subst hk0
    have hvr := hans.trans hans2.symm
    rw [hvr] at hv
    refine lv_istore (lv' := [(6, .int r9), (5, .int (nI 0)), (4, .int (nI (6 * j))), (0, .ref b), (1, .ref o), (2, .ref om), (3, .ref out)]) hx hb dL_law_644 hl (by decide) rfl (fun ls hl => ?_)
    refine lv_aload_n hx hb dL_law_646 rfl (lv_at hl 5 rfl) ?_
    obtain ⟨f7, d7, pr7, ta7, ti7, hPm, hDm, hRm⟩ := id hm
    refine m_cVi (rest := []) ⟨hx, hb, hml, hown, hts⟩ hE hS (fun q h => Nat.le_trans hNo h.1) (kX3_thrown l K (AmF om out) _ om adm f7 d7 pr7 ta7 ti7 _ hPm) (cwV 0 hts gL_law_X3_thrown rfl rfl rfl (by decide +kernel) ⟨Nat.le_of_ble_eq_true rfl, Nat.le_of_ble_eq_true rfl⟩) (va_recv hE.k hPm (ci := 4) (q0 := 0) rfl rfl) rfl rfl hl.1 rfl (Nat.le_of_ble_eq_true rfl) dL_law_647 ⟨by show _ ≤ 601024; omega, by show _ ≤ 7293034; omega⟩ (fun r8 H3 locs hp hS hk3 => ?_)
    obtain ⟨rfl, rfl⟩ := hp
    refine lv_iload hx hb dL_law_650 (lv_at hl 1 rfl) ?_
    refine m_icmp_eq (tgt := 657) hx hb (by omega) (by omega) dL_law_652 (by decide) (fun c_652 => ?_) (fun c_652 => ?_)
    · refine lv_iload hx hb dL_law_657 (lv_at hl 1 rfl) ?_
      refine m_if_ne (tgt := 674) hx hb (by omega) dL_law_659 (by decide) (fun c_659 => ?_) (fun c_659 => ?_)
      · exact absurd rfl c_659
      · refine lv_aload_n hx hb dL_law_662 rfl (lv_at hl 6 rfl) ?_
        refine lv_iconst (v := nI 0) hx hb dL_law_663 (by decide) ?_
        refine m_lald1 hx hb hE.k hO hv dL_law_664 ?_
        refine lv_iload hx hb dL_law_665 (lv_at hl 0 rfl) ?_
        refine lv_i2l hx hb dL_law_667 rfl ?_
        refine m_lcmp0 hx hb dL_law_668 ?_
        refine lv_if_eq (tgt := 674) hx hb dL_law_669 (by decide) (fun c_669 => ?_) (fun c_669 => ?_)
        · refine lv_goto (tgt := 1545) hx hb dL_law_674 (by decide) ?_
          refine W.widen (k := 64 + 18 * (j + 1)) (n := 7000 + 220 * (j + 1)) (by omega) (by omega) ?_
          exact kk _ _ _ ⟨_, _, _, _, _, _, _, _, _, _, hc, hm, hO⟩ hS (lv_sub hl [2, 3, 4, 5, 6] rfl)
        · exact absurd rfl c_669
    · exact absurd rfl c_652
  · have hc := hc.kept (fun q hq h => hk2 q hq (fun z => by have h2 := h.2; have z1 := z.1; have z2 := z.2; omega))
    refine lv_istore (lv' := [(6, .int r9), (5, .int r), (4, .int (nI (6 * j))), (0, .ref b), (1, .ref o), (2, .ref om), (3, .ref out)]) hx hb dL_law_644 hl (by decide) rfl (fun ls hl => ?_)
    refine lv_aload_n hx hb dL_law_646 rfl (lv_at hl 5 rfl) ?_
    obtain ⟨f7, d7, pr7, ta7, ti7, hPm, hDm, hRm⟩ := id hm
    refine m_cVi (rest := []) ⟨hx, hb, hml, hown, hts⟩ hE hS (fun q h => Nat.le_trans hNo h.1) (kX3_thrown l K (AmF om out) _ om adm f7 d7 pr7 ta7 ti7 _ hPm) (cwV 0 hts gL_law_X3_thrown rfl rfl rfl (by decide +kernel) ⟨Nat.le_of_ble_eq_true rfl, Nat.le_of_ble_eq_true rfl⟩) (va_recv hE.k hPm (ci := 4) (q0 := 0) rfl rfl) rfl rfl hl.1 rfl (Nat.le_of_ble_eq_true rfl) dL_law_647 ⟨by show _ ≤ 601024; omega, by show _ ≤ 7293034; omega⟩ (fun r8 H3 locs hp hS hk3 => ?_)
    obtain ⟨rfl, rfl⟩ := hp
    refine lv_iload hx hb dL_law_650 (lv_at hl 1 rfl) ?_
    refine lv_icmp_eq (tgt := 657) hx hb dL_law_652 (by decide) (fun c_652 => ?_) (fun c_652 => ?_)
    · refine lv_iload hx hb dL_law_657 (lv_at hl 1 rfl) ?_
      refine lv_if_ne (tgt := 674) hx hb dL_law_659 (by decide) (fun c_659 => ?_) (fun c_659 => ?_)
      · refine lv_goto (tgt := 1545) hx hb dL_law_674 (by decide) ?_
        refine W.widen (k := 64 + 18 * (j + 1)) (n := 7000 + 220 * (j + 1)) (by omega) (by omega) ?_
        exact kk _ _ _ ⟨_, _, _, _, _, _, _, _, _, _, hc, hm, hO⟩ hS (lv_sub hl [2, 3, 4, 5, 6] rfl)
      · exact absurd (show _ = nI 0 from c_659) hk0
    · exact absurd rfl c_652

set_option maxHeartbeats 4000000 in
set_option maxRecDepth 100000 in
theorem lc_version {p : Program} {l : Launch} {e : Env} {s : State} {m : MethodId} {below : List Frame} {meth : Method} {c : Code} {b L : Nat} {xs : Nat → Int32} (hl0 : l.stackTraces = false) (hL : L ≤ 3072) (C0 : lw_At p s m meth c b L xs) (K : m_K) (hE : ENV K (fun q => s.heap.size ≤ q) s) (o : Nat) (ad : Nat → Nat) (om : Nat) (adm : Nat → Nat) (out : Nat) (hNo : s.heap.size ≤ om) (hoo : om ≤ out) (j : Nat) (hj : 6 * j + 6 ≤ L) {H : Heap} {locs : List Loc} {ls : Array Slot} (hSt : LSt K s.heap.size o ad om adm out H) (hS : va_S (fun q => s.heap.size ≤ q) s.heap H locs) (hl : lv_has ls 7 [(4, .int (nI (6 * j))), (0, .ref b), (1, .ref o), (2, .ref om), (3, .ref out)])
    (kk : ∀ (H1 : Heap) (locs1 : List Loc) (ls1 : Array Slot), LSt K s.heap.size o ad om adm out H1 → va_S (fun q => s.heap.size ≤ q) s.heap H1 locs1 → lv_has ls1 7 [(4, .int (nI (6 * j))), (0, .ref b), (1, .ref o), (2, .ref om), (3, .ref out)] → W p l e room_1 s m #[Value.ref b] below meth c H1 locs1 (64 + 18 * (j + 1)) (7000 + 220 * (j + 1)) (lw_Z below #[Value.ref b] s) (F0 m 1545 ls1 [])) :
    W p l e room_1 s m #[Value.ref b] below meth c H locs (64 + 18 * j) (7000 + 220 * j) (lw_Z below #[Value.ref b] s) (F0 m 677 ls []) := by
  obtain ⟨hx, hb, hr, hml, hown, hts0, hX, hbl, hlocks, hgv⟩ := C0
  have hts : ∀ w ∈ wsL_law, w.before #[Value.ref b] s = true := fun w h => hts0 w (wsL_law_in w h)
  have hbA : ¬ (fun q : Nat => s.heap.size ≤ q) b := Nat.not_le.mpr hbl
  obtain ⟨fb, on, fw, dr, fm, vs, ch, ps, la, wo, hc, hm, hO⟩ := hSt
  refine lv_aload_n hx hb dL_law_677 rfl (lv_at hl 2 rfl) ?_
  refine lv_aload_n hx hb dL_law_678 rfl (lv_at hl 1 rfl) ?_
  refine lv_iload hx hb dL_law_679 (lv_at hl 0 rfl) ?_
  refine lv_iconst (v := nI 1) hx hb dL_law_681 (by decide) ?_
  refine m_iadd hx hb dL_law_682 ?_
  refine m_sld hx hb hX hbl hbA hS (by omega) (by omega) dL_law_683 ?_
  refine lv_aload_n hx hb dL_law_684 rfl (lv_at hl 4 rfl) ?_
  refine m_cWi (rest := []) ⟨hx, hb, hml, hown, hts⟩ hE hS (fun q h => h.1) (kL_version l K (AwF s.heap.size om out) _ hl0 (AcF s.heap.size om out) (fun q h => ⟨h.1, h.2.elim Or.inl (fun z => Or.inr (Nat.le_of_lt z))⟩) out ⟨Nat.le_trans hNo hoo, Or.inr (Nat.le_refl _)⟩ (fun z => by have z2 := z.2; omega) wo hO o ad fb on fw dr fm vs ch ps hc (fun q hq => ⟨Nat.le_trans hS.1 hq, Or.inr (Nat.lt_of_lt_of_le hO.lt hq)⟩) (xs ((6 * j) + 1))) (vx_cwSW 3 hts gL_law_L_version rfl rfl rfl (by decide +kernel) ⟨Nat.le_of_ble_eq_true rfl, Nat.le_of_ble_eq_true rfl⟩) rfl rfl hl.1 rfl (Nat.le_of_ble_eq_true rfl) dL_law_685 ⟨by show _ ≤ 601024; omega, by show _ ≤ 7293034; omega⟩ (fun r H1 locs hp hS hk => ?_)
  obtain ⟨wo, hO9, hr3⟩ := hp
  have hm := hm.kept (fun q hq h => hk q hq (fun z => by have h1 := h.1; have h2 := h.2; have z2 := z.2; omega))
  have hO := hO9
  clear hk
  refine lv_istore (lv' := [(5, .int r), (4, .int (nI (6 * j))), (0, .ref b), (1, .ref o), (2, .ref om), (3, .ref out)]) hx hb dL_law_688 hl (by decide) rfl (fun ls hl => ?_)
  refine lv_aload_n hx hb dL_law_690 rfl (lv_at hl 4 rfl) ?_
  refine lv_aload_n hx hb dL_law_691 rfl (lv_at hl 2 rfl) ?_
  refine lv_iload hx hb dL_law_692 (lv_at hl 1 rfl) ?_
  refine lv_iconst (v := nI 1) hx hb dL_law_694 (by decide) ?_
  refine m_iadd hx hb dL_law_695 ?_
  refine m_sld hx hb hX hbl hbA hS (by omega) (by omega) dL_law_696 ?_
  obtain ⟨f8, d8, pr8, ta8, ti8, hPm, hDm, hRm⟩ := id hm
  refine m_cVi (rest := []) ⟨hx, hb, hml, hown, hts⟩ hE hS (fun q h => Nat.le_trans hNo h.1) (kX3_version l K (AmF om out) _ om adm fb on fw dr fm vs ch ps la hm (xs ((6 * j) + 1))) (cwV 1 hts gL_law_X3_version rfl rfl rfl (by decide +kernel) ⟨Nat.le_of_ble_eq_true rfl, Nat.le_of_ble_eq_true rfl⟩) (va_recv hE.k hPm (ci := 4) (q0 := 0) rfl rfl) rfl rfl hl.1 rfl (Nat.le_of_ble_eq_true rfl) dL_law_697 ⟨by show _ ≤ 601024; omega, by show _ ≤ 7293034; omega⟩ (fun r9 H2 locs hp hS hk2 => ?_)
  obtain ⟨k9, hq3⟩ := hp
  obtain ⟨hkk, hcase⟩ := r3_two hr3 hq3
  subst hkk
  have hO : OUT K out wo _ := hO.k1 (hk2 out hO.lt (fun z => absurd z.2 (Nat.lt_irrefl _)))
  rcases hcase with ⟨hk0, ⟨v, hv, hans, hc⟩, hans2, hm⟩ | ⟨hk0, hc, hm⟩
  · have hc := hc.kept (fun q hq h => hk2 q hq (fun z => by have h2 := h.2; have z1 := z.1; have z2 := z.2; omega))
    subst hk0
    have hvr := hans.trans hans2.symm
    rw [hvr] at hv
    refine lv_istore (lv' := [(6, .int r9), (5, .int (nI 0)), (4, .int (nI (6 * j))), (0, .ref b), (1, .ref o), (2, .ref om), (3, .ref out)]) hx hb dL_law_700 hl (by decide) rfl (fun ls hl => ?_)
    refine lv_aload_n hx hb dL_law_702 rfl (lv_at hl 5 rfl) ?_
    obtain ⟨f7, d7, pr7, ta7, ti7, hPm, hDm, hRm⟩ := id hm
    refine m_cVi (rest := []) ⟨hx, hb, hml, hown, hts⟩ hE hS (fun q h => Nat.le_trans hNo h.1) (kX3_thrown l K (AmF om out) _ om adm f7 d7 pr7 ta7 ti7 _ hPm) (cwV 0 hts gL_law_X3_thrown rfl rfl rfl (by decide +kernel) ⟨Nat.le_of_ble_eq_true rfl, Nat.le_of_ble_eq_true rfl⟩) (va_recv hE.k hPm (ci := 4) (q0 := 0) rfl rfl) rfl rfl hl.1 rfl (Nat.le_of_ble_eq_true rfl) dL_law_703 ⟨by show _ ≤ 601024; omega, by show _ ≤ 7293034; omega⟩ (fun r8 H3 locs hp hS hk3 => ?_)
    obtain ⟨rfl, rfl⟩ := hp
    refine lv_iload hx hb dL_law_706 (lv_at hl 1 rfl) ?_
    refine m_icmp_eq (tgt := 713) hx hb (by omega) (by omega) dL_law_708 (by decide) (fun c_708 => ?_) (fun c_708 => ?_)
    · refine lv_iload hx hb dL_law_713 (lv_at hl 1 rfl) ?_
      refine m_if_ne (tgt := 730) hx hb (by omega) dL_law_715 (by decide) (fun c_715 => ?_) (fun c_715 => ?_)
      · exact absurd rfl c_715
      · refine lv_aload_n hx hb dL_law_718 rfl (lv_at hl 6 rfl) ?_
        refine lv_iconst (v := nI 0) hx hb dL_law_719 (by decide) ?_
        refine m_lald1 hx hb hE.k hO hv dL_law_720 ?_
        refine lv_iload hx hb dL_law_721 (lv_at hl 0 rfl) ?_
        refine lv_i2l hx hb dL_law_723 rfl ?_
        refine m_lcmp0 hx hb dL_law_724 ?_
        refine lv_if_eq (tgt := 730) hx hb dL_law_725 (by decide) (fun c_725 => ?_) (fun c_725 => ?_)
        · refine lv_goto (tgt := 1545) hx hb dL_law_730 (by decide) ?_
          refine W.widen (k := 64 + 18 * (j + 1)) (n := 7000 + 220 * (j + 1)) (by omega) (by omega) ?_
          exact kk _ _ _ ⟨_, _, _, _, _, _, _, _, _, _, hc, hm, hO⟩ hS (lv_sub hl [2, 3, 4, 5, 6] rfl)
        · exact absurd rfl c_725
    · exact absurd rfl c_708
  · have hc := hc.kept (fun q hq h => hk2 q hq (fun z => by have h2 := h.2; have z1 := z.1; have z2 := z.2; omega))
    refine lv_istore (lv' := [(6, .int r9), (5, .int r), (4, .int (nI (6 * j))), (0, .ref b), (1, .ref o), (2, .ref om), (3, .ref out)]) hx hb dL_law_700 hl (by decide) rfl (fun ls hl => ?_)
    refine lv_aload_n hx hb dL_law_702 rfl (lv_at hl 5 rfl) ?_
    obtain ⟨f7, d7, pr7, ta7, ti7, hPm, hDm, hRm⟩ := id hm
    refine m_cVi (rest := []) ⟨hx, hb, hml, hown, hts⟩ hE hS (fun q h => Nat.le_trans hNo h.1) (kX3_thrown l K (AmF om out) _ om adm f7 d7 pr7 ta7 ti7 _ hPm) (cwV 0 hts gL_law_X3_thrown rfl rfl rfl (by decide +kernel) ⟨Nat.le_of_ble_eq_true rfl, Nat.le_of_ble_eq_true rfl⟩) (va_recv hE.k hPm (ci := 4) (q0 := 0) rfl rfl) rfl rfl hl.1 rfl (Nat.le_of_ble_eq_true rfl) dL_law_703 ⟨by show _ ≤ 601024; omega, by show _ ≤ 7293034; omega⟩ (fun r8 H3 locs hp hS hk3 => ?_)
    obtain ⟨rfl, rfl⟩ := hp
    refine lv_iload hx hb dL_law_706 (lv_at hl 1 rfl) ?_
    refine lv_icmp_eq (tgt := 713) hx hb dL_law_708 (by decide) (fun c_708 => ?_) (fun c_708 => ?_)
    · refine lv_iload hx hb dL_law_713 (lv_at hl 1 rfl) ?_
      refine lv_if_ne (tgt := 730) hx hb dL_law_715 (by decide) (fun c_715 => ?_) (fun c_715 => ?_)
      · refine lv_goto (tgt := 1545) hx hb dL_law_730 (by decide) ?_
        refine W.widen (k := 64 + 18 * (j + 1)) (n := 7000 + 220 * (j + 1)) (by omega) (by omega) ?_
        exact kk _ _ _ ⟨_, _, _, _, _, _, _, _, _, _, hc, hm, hO⟩ hS (lv_sub hl [2, 3, 4, 5, 6] rfl)
      · exact absurd (show _ = nI 0 from c_715) hk0
    · exact absurd rfl c_708

set_option maxHeartbeats 4000000 in
set_option maxRecDepth 100000 in
theorem lc_staleBy {p : Program} {l : Launch} {e : Env} {s : State} {m : MethodId} {below : List Frame} {meth : Method} {c : Code} {b L : Nat} {xs : Nat → Int32} (hl0 : l.stackTraces = false) (hL : L ≤ 3072) (C0 : lw_At p s m meth c b L xs) (K : m_K) (hE : ENV K (fun q => s.heap.size ≤ q) s) (o : Nat) (ad : Nat → Nat) (om : Nat) (adm : Nat → Nat) (out : Nat) (hNo : s.heap.size ≤ om) (hoo : om ≤ out) (j : Nat) (hj : 6 * j + 6 ≤ L) {H : Heap} {locs : List Loc} {ls : Array Slot} (hSt : LSt K s.heap.size o ad om adm out H) (hS : va_S (fun q => s.heap.size ≤ q) s.heap H locs) (hl : lv_has ls 7 [(4, .int (nI (6 * j))), (0, .ref b), (1, .ref o), (2, .ref om), (3, .ref out)])
    (kk : ∀ (H1 : Heap) (locs1 : List Loc) (ls1 : Array Slot), LSt K s.heap.size o ad om adm out H1 → va_S (fun q => s.heap.size ≤ q) s.heap H1 locs1 → lv_has ls1 7 [(4, .int (nI (6 * j))), (0, .ref b), (1, .ref o), (2, .ref om), (3, .ref out)] → W p l e room_1 s m #[Value.ref b] below meth c H1 locs1 (64 + 18 * (j + 1)) (7000 + 220 * (j + 1)) (lw_Z below #[Value.ref b] s) (F0 m 1545 ls1 [])) :
    W p l e room_1 s m #[Value.ref b] below meth c H locs (64 + 18 * j) (7000 + 220 * j) (lw_Z below #[Value.ref b] s) (F0 m 733 ls []) := by
  obtain ⟨hx, hb, hr, hml, hown, hts0, hX, hbl, hlocks, hgv⟩ := C0
  have hts : ∀ w ∈ wsL_law, w.before #[Value.ref b] s = true := fun w h => hts0 w (wsL_law_in w h)
  have hbA : ¬ (fun q : Nat => s.heap.size ≤ q) b := Nat.not_le.mpr hbl
  obtain ⟨fb, on, fw, dr, fm, vs, ch, ps, la, wo, hc, hm, hO⟩ := hSt
  refine lv_aload_n hx hb dL_law_733 rfl (lv_at hl 2 rfl) ?_
  refine lv_aload_n hx hb dL_law_734 rfl (lv_at hl 1 rfl) ?_
  refine lv_iload hx hb dL_law_735 (lv_at hl 0 rfl) ?_
  refine lv_iconst (v := nI 1) hx hb dL_law_737 (by decide) ?_
  refine m_iadd hx hb dL_law_738 ?_
  refine m_sld hx hb hX hbl hbA hS (by omega) (by omega) dL_law_739 ?_
  refine lv_aload_n hx hb dL_law_740 rfl (lv_at hl 1 rfl) ?_
  refine lv_iload hx hb dL_law_741 (lv_at hl 0 rfl) ?_
  refine lv_iconst (v := nI 2) hx hb dL_law_743 (by decide) ?_
  refine m_iadd hx hb dL_law_744 ?_
  refine m_sld hx hb hX hbl hbA hS (by omega) (by omega) dL_law_745 ?_
  refine lv_aload_n hx hb dL_law_746 rfl (lv_at hl 4 rfl) ?_
  refine m_cWi (rest := []) ⟨hx, hb, hml, hown, hts⟩ hE hS (fun q h => h.1) (kL_staleBy l K (AwF s.heap.size om out) _ hl0 (AcF s.heap.size om out) (fun q h => ⟨h.1, h.2.elim Or.inl (fun z => Or.inr (Nat.le_of_lt z))⟩) out ⟨Nat.le_trans hNo hoo, Or.inr (Nat.le_refl _)⟩ (fun z => by have z2 := z.2; omega) wo hO o ad fb on fw dr fm vs ch ps hc (fun q hq => ⟨Nat.le_trans hS.1 hq, Or.inr (Nat.lt_of_lt_of_le hO.lt hq)⟩) (xs ((6 * j) + 1)) (xs ((6 * j) + 2))) (vx_cwSW 4 hts gL_law_L_staleBy rfl rfl rfl (by decide +kernel) ⟨Nat.le_of_ble_eq_true rfl, Nat.le_of_ble_eq_true rfl⟩) rfl rfl hl.1 rfl (Nat.le_of_ble_eq_true rfl) dL_law_747 ⟨by show _ ≤ 601024; omega, by show _ ≤ 7293034; omega⟩ (fun r H1 locs hp hS hk => ?_)
  obtain ⟨wo, hO9, hr3⟩ := hp
  have hm := hm.kept (fun q hq h => hk q hq (fun z => by have h1 := h.1; have h2 := h.2; have z2 := z.2; omega))
  have hO := hO9
  clear hk
  refine lv_istore (lv' := [(5, .int r), (4, .int (nI (6 * j))), (0, .ref b), (1, .ref o), (2, .ref om), (3, .ref out)]) hx hb dL_law_750 hl (by decide) rfl (fun ls hl => ?_)
  refine lv_aload_n hx hb dL_law_752 rfl (lv_at hl 4 rfl) ?_
  refine lv_aload_n hx hb dL_law_753 rfl (lv_at hl 2 rfl) ?_
  refine lv_iload hx hb dL_law_754 (lv_at hl 1 rfl) ?_
  refine lv_iconst (v := nI 1) hx hb dL_law_756 (by decide) ?_
  refine m_iadd hx hb dL_law_757 ?_
  refine m_sld hx hb hX hbl hbA hS (by omega) (by omega) dL_law_758 ?_
  refine lv_aload_n hx hb dL_law_759 rfl (lv_at hl 2 rfl) ?_
  refine lv_iload hx hb dL_law_760 (lv_at hl 1 rfl) ?_
  refine lv_iconst (v := nI 2) hx hb dL_law_762 (by decide) ?_
  refine m_iadd hx hb dL_law_763 ?_
  refine m_sld hx hb hX hbl hbA hS (by omega) (by omega) dL_law_764 ?_
  obtain ⟨f8, d8, pr8, ta8, ti8, hPm, hDm, hRm⟩ := id hm
  refine m_cVi (rest := []) ⟨hx, hb, hml, hown, hts⟩ hE hS (fun q h => Nat.le_trans hNo h.1) (kX3_staleBy l K (AmF om out) _ om adm fb on fw dr fm vs ch ps la hm (xs ((6 * j) + 1)) (xs ((6 * j) + 2))) (cwV 2 hts gL_law_X3_staleBy rfl rfl rfl (by decide +kernel) ⟨Nat.le_of_ble_eq_true rfl, Nat.le_of_ble_eq_true rfl⟩) (va_recv hE.k hPm (ci := 4) (q0 := 0) rfl rfl) rfl rfl hl.1 rfl (Nat.le_of_ble_eq_true rfl) dL_law_765 ⟨by show _ ≤ 601024; omega, by show _ ≤ 7293034; omega⟩ (fun r9 H2 locs hp hS hk2 => ?_)
  obtain ⟨k9, hq3⟩ := hp
  obtain ⟨hkk, hcase⟩ := r3_two hr3 hq3
  subst hkk
  have hO : OUT K out wo _ := hO.k1 (hk2 out hO.lt (fun z => absurd z.2 (Nat.lt_irrefl _)))
  rcases hcase with ⟨hk0, ⟨v, hv, hans, hc⟩, hans2, hm⟩ | ⟨hk0, hc, hm⟩
  · have hc := hc.kept (fun q hq h => hk2 q hq (fun z => by have h2 := h.2; have z1 := z.1; have z2 := z.2; omega))
    subst hk0
    have hvr := hans.trans hans2.symm
    rw [hvr] at hv
    refine lv_istore (lv' := [(6, .int r9), (5, .int (nI 0)), (4, .int (nI (6 * j))), (0, .ref b), (1, .ref o), (2, .ref om), (3, .ref out)]) hx hb dL_law_768 hl (by decide) rfl (fun ls hl => ?_)
    refine lv_aload_n hx hb dL_law_770 rfl (lv_at hl 5 rfl) ?_
    obtain ⟨f7, d7, pr7, ta7, ti7, hPm, hDm, hRm⟩ := id hm
    refine m_cVi (rest := []) ⟨hx, hb, hml, hown, hts⟩ hE hS (fun q h => Nat.le_trans hNo h.1) (kX3_thrown l K (AmF om out) _ om adm f7 d7 pr7 ta7 ti7 _ hPm) (cwV 0 hts gL_law_X3_thrown rfl rfl rfl (by decide +kernel) ⟨Nat.le_of_ble_eq_true rfl, Nat.le_of_ble_eq_true rfl⟩) (va_recv hE.k hPm (ci := 4) (q0 := 0) rfl rfl) rfl rfl hl.1 rfl (Nat.le_of_ble_eq_true rfl) dL_law_771 ⟨by show _ ≤ 601024; omega, by show _ ≤ 7293034; omega⟩ (fun r8 H3 locs hp hS hk3 => ?_)
    obtain ⟨rfl, rfl⟩ := hp
    refine lv_iload hx hb dL_law_774 (lv_at hl 1 rfl) ?_
    refine m_icmp_eq (tgt := 781) hx hb (by omega) (by omega) dL_law_776 (by decide) (fun c_776 => ?_) (fun c_776 => ?_)
    · refine lv_iload hx hb dL_law_781 (lv_at hl 1 rfl) ?_
      refine m_if_ne (tgt := 798) hx hb (by omega) dL_law_783 (by decide) (fun c_783 => ?_) (fun c_783 => ?_)
      · exact absurd rfl c_783
      · refine lv_aload_n hx hb dL_law_786 rfl (lv_at hl 6 rfl) ?_
        refine lv_iconst (v := nI 0) hx hb dL_law_787 (by decide) ?_
        refine m_lald1 hx hb hE.k hO hv dL_law_788 ?_
        refine lv_iload hx hb dL_law_789 (lv_at hl 0 rfl) ?_
        refine lv_i2l hx hb dL_law_791 rfl ?_
        refine m_lcmp0 hx hb dL_law_792 ?_
        refine lv_if_eq (tgt := 798) hx hb dL_law_793 (by decide) (fun c_793 => ?_) (fun c_793 => ?_)
        · refine lv_goto (tgt := 1545) hx hb dL_law_798 (by decide) ?_
          refine W.widen (k := 64 + 18 * (j + 1)) (n := 7000 + 220 * (j + 1)) (by omega) (by omega) ?_
          exact kk _ _ _ ⟨_, _, _, _, _, _, _, _, _, _, hc, hm, hO⟩ hS (lv_sub hl [2, 3, 4, 5, 6] rfl)
        · exact absurd rfl c_793
    · exact absurd rfl c_776
  · have hc := hc.kept (fun q hq h => hk2 q hq (fun z => by have h2 := h.2; have z1 := z.1; have z2 := z.2; omega))
    refine lv_istore (lv' := [(6, .int r9), (5, .int r), (4, .int (nI (6 * j))), (0, .ref b), (1, .ref o), (2, .ref om), (3, .ref out)]) hx hb dL_law_768 hl (by decide) rfl (fun ls hl => ?_)
    refine lv_aload_n hx hb dL_law_770 rfl (lv_at hl 5 rfl) ?_
    obtain ⟨f7, d7, pr7, ta7, ti7, hPm, hDm, hRm⟩ := id hm
    refine m_cVi (rest := []) ⟨hx, hb, hml, hown, hts⟩ hE hS (fun q h => Nat.le_trans hNo h.1) (kX3_thrown l K (AmF om out) _ om adm f7 d7 pr7 ta7 ti7 _ hPm) (cwV 0 hts gL_law_X3_thrown rfl rfl rfl (by decide +kernel) ⟨Nat.le_of_ble_eq_true rfl, Nat.le_of_ble_eq_true rfl⟩) (va_recv hE.k hPm (ci := 4) (q0 := 0) rfl rfl) rfl rfl hl.1 rfl (Nat.le_of_ble_eq_true rfl) dL_law_771 ⟨by show _ ≤ 601024; omega, by show _ ≤ 7293034; omega⟩ (fun r8 H3 locs hp hS hk3 => ?_)
    obtain ⟨rfl, rfl⟩ := hp
    refine lv_iload hx hb dL_law_774 (lv_at hl 1 rfl) ?_
    refine lv_icmp_eq (tgt := 781) hx hb dL_law_776 (by decide) (fun c_776 => ?_) (fun c_776 => ?_)
    · refine lv_iload hx hb dL_law_781 (lv_at hl 1 rfl) ?_
      refine lv_if_ne (tgt := 798) hx hb dL_law_783 (by decide) (fun c_783 => ?_) (fun c_783 => ?_)
      · refine lv_goto (tgt := 1545) hx hb dL_law_798 (by decide) ?_
        refine W.widen (k := 64 + 18 * (j + 1)) (n := 7000 + 220 * (j + 1)) (by omega) (by omega) ?_
        exact kk _ _ _ ⟨_, _, _, _, _, _, _, _, _, _, hc, hm, hO⟩ hS (lv_sub hl [2, 3, 4, 5, 6] rfl)
      · exact absurd (show _ = nI 0 from c_783) hk0
    · exact absurd rfl c_776

set_option maxHeartbeats 4000000 in
set_option maxRecDepth 100000 in
theorem lc_missing {p : Program} {l : Launch} {e : Env} {s : State} {m : MethodId} {below : List Frame} {meth : Method} {c : Code} {b L : Nat} {xs : Nat → Int32} (hl0 : l.stackTraces = false) (hL : L ≤ 3072) (C0 : lw_At p s m meth c b L xs) (K : m_K) (hE : ENV K (fun q => s.heap.size ≤ q) s) (o : Nat) (ad : Nat → Nat) (om : Nat) (adm : Nat → Nat) (out : Nat) (hNo : s.heap.size ≤ om) (hoo : om ≤ out) (j : Nat) (hj : 6 * j + 6 ≤ L) {H : Heap} {locs : List Loc} {ls : Array Slot} (hSt : LSt K s.heap.size o ad om adm out H) (hS : va_S (fun q => s.heap.size ≤ q) s.heap H locs) (hl : lv_has ls 7 [(4, .int (nI (6 * j))), (0, .ref b), (1, .ref o), (2, .ref om), (3, .ref out)])
    (kk : ∀ (H1 : Heap) (locs1 : List Loc) (ls1 : Array Slot), LSt K s.heap.size o ad om adm out H1 → va_S (fun q => s.heap.size ≤ q) s.heap H1 locs1 → lv_has ls1 7 [(4, .int (nI (6 * j))), (0, .ref b), (1, .ref o), (2, .ref om), (3, .ref out)] → W p l e room_1 s m #[Value.ref b] below meth c H1 locs1 (64 + 18 * (j + 1)) (7000 + 220 * (j + 1)) (lw_Z below #[Value.ref b] s) (F0 m 1545 ls1 [])) :
    W p l e room_1 s m #[Value.ref b] below meth c H locs (64 + 18 * j) (7000 + 220 * j) (lw_Z below #[Value.ref b] s) (F0 m 801 ls []) := by
  obtain ⟨hx, hb, hr, hml, hown, hts0, hX, hbl, hlocks, hgv⟩ := C0
  have hts : ∀ w ∈ wsL_law, w.before #[Value.ref b] s = true := fun w h => hts0 w (wsL_law_in w h)
  have hbA : ¬ (fun q : Nat => s.heap.size ≤ q) b := Nat.not_le.mpr hbl
  obtain ⟨fb, on, fw, dr, fm, vs, ch, ps, la, wo, hc, hm, hO⟩ := hSt
  refine lv_aload_n hx hb dL_law_801 rfl (lv_at hl 2 rfl) ?_
  refine lv_aload_n hx hb dL_law_802 rfl (lv_at hl 1 rfl) ?_
  refine lv_iload hx hb dL_law_803 (lv_at hl 0 rfl) ?_
  refine lv_iconst (v := nI 1) hx hb dL_law_805 (by decide) ?_
  refine m_iadd hx hb dL_law_806 ?_
  refine m_sld hx hb hX hbl hbA hS (by omega) (by omega) dL_law_807 ?_
  refine lv_aload_n hx hb dL_law_808 rfl (lv_at hl 4 rfl) ?_
  refine m_cWi (rest := []) ⟨hx, hb, hml, hown, hts⟩ hE hS (fun q h => h.1) (kL_missing l K (AwF s.heap.size om out) _ hl0 (AcF s.heap.size om out) (fun q h => ⟨h.1, h.2.elim Or.inl (fun z => Or.inr (Nat.le_of_lt z))⟩) out ⟨Nat.le_trans hNo hoo, Or.inr (Nat.le_refl _)⟩ (fun z => by have z2 := z.2; omega) wo hO o ad fb on fw dr fm vs ch ps hc (fun q hq => ⟨Nat.le_trans hS.1 hq, Or.inr (Nat.lt_of_lt_of_le hO.lt hq)⟩) (xs ((6 * j) + 1))) (vx_cwSW 3 hts gL_law_L_missing rfl rfl rfl (by decide +kernel) ⟨Nat.le_of_ble_eq_true rfl, Nat.le_of_ble_eq_true rfl⟩) rfl rfl hl.1 rfl (Nat.le_of_ble_eq_true rfl) dL_law_809 ⟨by show _ ≤ 601024; omega, by show _ ≤ 7293034; omega⟩ (fun r H1 locs hp hS hk => ?_)
  obtain ⟨wo, hO9, hr3⟩ := hp
  have hm := hm.kept (fun q hq h => hk q hq (fun z => by have h1 := h.1; have h2 := h.2; have z2 := z.2; omega))
  have hO := hO9
  clear hk
  refine lv_istore (lv' := [(5, .int r), (4, .int (nI (6 * j))), (0, .ref b), (1, .ref o), (2, .ref om), (3, .ref out)]) hx hb dL_law_812 hl (by decide) rfl (fun ls hl => ?_)
  refine lv_aload_n hx hb dL_law_814 rfl (lv_at hl 4 rfl) ?_
  refine lv_aload_n hx hb dL_law_815 rfl (lv_at hl 2 rfl) ?_
  refine lv_iload hx hb dL_law_816 (lv_at hl 1 rfl) ?_
  refine lv_iconst (v := nI 1) hx hb dL_law_818 (by decide) ?_
  refine m_iadd hx hb dL_law_819 ?_
  refine m_sld hx hb hX hbl hbA hS (by omega) (by omega) dL_law_820 ?_
  obtain ⟨f8, d8, pr8, ta8, ti8, hPm, hDm, hRm⟩ := id hm
  refine m_cVi (rest := []) ⟨hx, hb, hml, hown, hts⟩ hE hS (fun q h => Nat.le_trans hNo h.1) (kX3_missing l K (AmF om out) _ om adm fb on fw dr fm vs ch ps la hm (xs ((6 * j) + 1))) (cwV 1 hts gL_law_X3_missing rfl rfl rfl (by decide +kernel) ⟨Nat.le_of_ble_eq_true rfl, Nat.le_of_ble_eq_true rfl⟩) (va_recv hE.k hPm (ci := 4) (q0 := 0) rfl rfl) rfl rfl hl.1 rfl (Nat.le_of_ble_eq_true rfl) dL_law_821 ⟨by show _ ≤ 601024; omega, by show _ ≤ 7293034; omega⟩ (fun r9 H2 locs hp hS hk2 => ?_)
  obtain ⟨k9, hq3⟩ := hp
  obtain ⟨hkk, hcase⟩ := r3_two hr3 hq3
  subst hkk
  have hO : OUT K out wo _ := hO.k1 (hk2 out hO.lt (fun z => absurd z.2 (Nat.lt_irrefl _)))
  rcases hcase with ⟨hk0, ⟨v, hv, hans, hc⟩, hans2, hm⟩ | ⟨hk0, hc, hm⟩
  · have hc := hc.kept (fun q hq h => hk2 q hq (fun z => by have h2 := h.2; have z1 := z.1; have z2 := z.2; omega))
    subst hk0
    have hvr := hans.trans hans2.symm
    rw [hvr] at hv
    refine lv_istore (lv' := [(6, .int r9), (5, .int (nI 0)), (4, .int (nI (6 * j))), (0, .ref b), (1, .ref o), (2, .ref om), (3, .ref out)]) hx hb dL_law_824 hl (by decide) rfl (fun ls hl => ?_)
    refine lv_aload_n hx hb dL_law_826 rfl (lv_at hl 5 rfl) ?_
    obtain ⟨f7, d7, pr7, ta7, ti7, hPm, hDm, hRm⟩ := id hm
    refine m_cVi (rest := []) ⟨hx, hb, hml, hown, hts⟩ hE hS (fun q h => Nat.le_trans hNo h.1) (kX3_thrown l K (AmF om out) _ om adm f7 d7 pr7 ta7 ti7 _ hPm) (cwV 0 hts gL_law_X3_thrown rfl rfl rfl (by decide +kernel) ⟨Nat.le_of_ble_eq_true rfl, Nat.le_of_ble_eq_true rfl⟩) (va_recv hE.k hPm (ci := 4) (q0 := 0) rfl rfl) rfl rfl hl.1 rfl (Nat.le_of_ble_eq_true rfl) dL_law_827 ⟨by show _ ≤ 601024; omega, by show _ ≤ 7293034; omega⟩ (fun r8 H3 locs hp hS hk3 => ?_)
    obtain ⟨rfl, rfl⟩ := hp
    refine lv_iload hx hb dL_law_830 (lv_at hl 1 rfl) ?_
    refine m_icmp_eq (tgt := 837) hx hb (by omega) (by omega) dL_law_832 (by decide) (fun c_832 => ?_) (fun c_832 => ?_)
    · refine lv_iload hx hb dL_law_837 (lv_at hl 1 rfl) ?_
      refine m_if_ne (tgt := 854) hx hb (by omega) dL_law_839 (by decide) (fun c_839 => ?_) (fun c_839 => ?_)
      · exact absurd rfl c_839
      · refine lv_aload_n hx hb dL_law_842 rfl (lv_at hl 6 rfl) ?_
        refine lv_iconst (v := nI 0) hx hb dL_law_843 (by decide) ?_
        refine m_lald1 hx hb hE.k hO hv dL_law_844 ?_
        refine lv_iload hx hb dL_law_845 (lv_at hl 0 rfl) ?_
        refine lv_i2l hx hb dL_law_847 rfl ?_
        refine m_lcmp0 hx hb dL_law_848 ?_
        refine lv_if_eq (tgt := 854) hx hb dL_law_849 (by decide) (fun c_849 => ?_) (fun c_849 => ?_)
        · refine lv_goto (tgt := 1545) hx hb dL_law_854 (by decide) ?_
          refine W.widen (k := 64 + 18 * (j + 1)) (n := 7000 + 220 * (j + 1)) (by omega) (by omega) ?_
          exact kk _ _ _ ⟨_, _, _, _, _, _, _, _, _, _, hc, hm, hO⟩ hS (lv_sub hl [2, 3, 4, 5, 6] rfl)
        · exact absurd rfl c_849
    · exact absurd rfl c_832
  · have hc := hc.kept (fun q hq h => hk2 q hq (fun z => by have h2 := h.2; have z1 := z.1; have z2 := z.2; omega))
    refine lv_istore (lv' := [(6, .int r9), (5, .int r), (4, .int (nI (6 * j))), (0, .ref b), (1, .ref o), (2, .ref om), (3, .ref out)]) hx hb dL_law_824 hl (by decide) rfl (fun ls hl => ?_)
    refine lv_aload_n hx hb dL_law_826 rfl (lv_at hl 5 rfl) ?_
    obtain ⟨f7, d7, pr7, ta7, ti7, hPm, hDm, hRm⟩ := id hm
    refine m_cVi (rest := []) ⟨hx, hb, hml, hown, hts⟩ hE hS (fun q h => Nat.le_trans hNo h.1) (kX3_thrown l K (AmF om out) _ om adm f7 d7 pr7 ta7 ti7 _ hPm) (cwV 0 hts gL_law_X3_thrown rfl rfl rfl (by decide +kernel) ⟨Nat.le_of_ble_eq_true rfl, Nat.le_of_ble_eq_true rfl⟩) (va_recv hE.k hPm (ci := 4) (q0 := 0) rfl rfl) rfl rfl hl.1 rfl (Nat.le_of_ble_eq_true rfl) dL_law_827 ⟨by show _ ≤ 601024; omega, by show _ ≤ 7293034; omega⟩ (fun r8 H3 locs hp hS hk3 => ?_)
    obtain ⟨rfl, rfl⟩ := hp
    refine lv_iload hx hb dL_law_830 (lv_at hl 1 rfl) ?_
    refine lv_icmp_eq (tgt := 837) hx hb dL_law_832 (by decide) (fun c_832 => ?_) (fun c_832 => ?_)
    · refine lv_iload hx hb dL_law_837 (lv_at hl 1 rfl) ?_
      refine lv_if_ne (tgt := 854) hx hb dL_law_839 (by decide) (fun c_839 => ?_) (fun c_839 => ?_)
      · refine lv_goto (tgt := 1545) hx hb dL_law_854 (by decide) ?_
        refine W.widen (k := 64 + 18 * (j + 1)) (n := 7000 + 220 * (j + 1)) (by omega) (by omega) ?_
        exact kk _ _ _ ⟨_, _, _, _, _, _, _, _, _, _, hc, hm, hO⟩ hS (lv_sub hl [2, 3, 4, 5, 6] rfl)
      · exact absurd (show _ = nI 0 from c_839) hk0
    · exact absurd rfl c_832

set_option maxHeartbeats 4000000 in
set_option maxRecDepth 100000 in
theorem lc_fits {p : Program} {l : Launch} {e : Env} {s : State} {m : MethodId} {below : List Frame} {meth : Method} {c : Code} {b L : Nat} {xs : Nat → Int32} (hl0 : l.stackTraces = false) (hL : L ≤ 3072) (C0 : lw_At p s m meth c b L xs) (K : m_K) (hE : ENV K (fun q => s.heap.size ≤ q) s) (o : Nat) (ad : Nat → Nat) (om : Nat) (adm : Nat → Nat) (out : Nat) (hNo : s.heap.size ≤ om) (hoo : om ≤ out) (j : Nat) (hj : 6 * j + 6 ≤ L) {H : Heap} {locs : List Loc} {ls : Array Slot} (hSt : LSt K s.heap.size o ad om adm out H) (hS : va_S (fun q => s.heap.size ≤ q) s.heap H locs) (hl : lv_has ls 7 [(4, .int (nI (6 * j))), (0, .ref b), (1, .ref o), (2, .ref om), (3, .ref out)])
    (kk : ∀ (H1 : Heap) (locs1 : List Loc) (ls1 : Array Slot), LSt K s.heap.size o ad om adm out H1 → va_S (fun q => s.heap.size ≤ q) s.heap H1 locs1 → lv_has ls1 7 [(4, .int (nI (6 * j))), (0, .ref b), (1, .ref o), (2, .ref om), (3, .ref out)] → W p l e room_1 s m #[Value.ref b] below meth c H1 locs1 (64 + 18 * (j + 1)) (7000 + 220 * (j + 1)) (lw_Z below #[Value.ref b] s) (F0 m 1545 ls1 [])) :
    W p l e room_1 s m #[Value.ref b] below meth c H locs (64 + 18 * j) (7000 + 220 * j) (lw_Z below #[Value.ref b] s) (F0 m 857 ls []) := by
  obtain ⟨hx, hb, hr, hml, hown, hts0, hX, hbl, hlocks, hgv⟩ := C0
  have hts : ∀ w ∈ wsL_law, w.before #[Value.ref b] s = true := fun w h => hts0 w (wsL_law_in w h)
  have hbA : ¬ (fun q : Nat => s.heap.size ≤ q) b := Nat.not_le.mpr hbl
  obtain ⟨fb, on, fw, dr, fm, vs, ch, ps, la, wo, hc, hm, hO⟩ := hSt
  refine lv_aload_n hx hb dL_law_857 rfl (lv_at hl 2 rfl) ?_
  refine lv_aload_n hx hb dL_law_858 rfl (lv_at hl 1 rfl) ?_
  refine lv_iload hx hb dL_law_859 (lv_at hl 0 rfl) ?_
  refine lv_iconst (v := nI 1) hx hb dL_law_861 (by decide) ?_
  refine m_iadd hx hb dL_law_862 ?_
  refine m_sld hx hb hX hbl hbA hS (by omega) (by omega) dL_law_863 ?_
  refine lv_aload_n hx hb dL_law_864 rfl (lv_at hl 1 rfl) ?_
  refine lv_iload hx hb dL_law_865 (lv_at hl 0 rfl) ?_
  refine lv_iconst (v := nI 2) hx hb dL_law_867 (by decide) ?_
  refine m_iadd hx hb dL_law_868 ?_
  refine m_sld hx hb hX hbl hbA hS (by omega) (by omega) dL_law_869 ?_
  refine lv_aload_n hx hb dL_law_870 rfl (lv_at hl 1 rfl) ?_
  refine lv_iload hx hb dL_law_871 (lv_at hl 0 rfl) ?_
  refine lv_iconst (v := nI 3) hx hb dL_law_873 (by decide) ?_
  refine m_iadd hx hb dL_law_874 ?_
  refine m_sld hx hb hX hbl hbA hS (by omega) (by omega) dL_law_875 ?_
  refine lv_aload_n hx hb dL_law_876 rfl (lv_at hl 1 rfl) ?_
  refine lv_iload hx hb dL_law_877 (lv_at hl 0 rfl) ?_
  refine lv_iconst (v := nI 4) hx hb dL_law_879 (by decide) ?_
  refine m_iadd hx hb dL_law_880 ?_
  refine m_sld hx hb hX hbl hbA hS (by omega) (by omega) dL_law_881 ?_
  refine lv_aload_n hx hb dL_law_882 rfl (lv_at hl 4 rfl) ?_
  refine m_cWi (rest := []) ⟨hx, hb, hml, hown, hts⟩ hE hS (fun q h => h.1) (kL_fits l K (AwF s.heap.size om out) _ hl0 (AcF s.heap.size om out) (fun q h => ⟨h.1, h.2.elim Or.inl (fun z => Or.inr (Nat.le_of_lt z))⟩) out ⟨Nat.le_trans hNo hoo, Or.inr (Nat.le_refl _)⟩ (fun z => by have z2 := z.2; omega) wo hO o ad fb on fw dr fm vs ch ps hc (fun q hq => ⟨Nat.le_trans hS.1 hq, Or.inr (Nat.lt_of_lt_of_le hO.lt hq)⟩) (xs ((6 * j) + 1)) (xs ((6 * j) + 2)) (xs ((6 * j) + 3)) (xs ((6 * j) + 4))) (vx_cwSW 6 hts gL_law_L_fits rfl rfl rfl (by decide +kernel) ⟨Nat.le_of_ble_eq_true rfl, Nat.le_of_ble_eq_true rfl⟩) rfl rfl hl.1 rfl (Nat.le_of_ble_eq_true rfl) dL_law_883 ⟨by show _ ≤ 601024; omega, by show _ ≤ 7293034; omega⟩ (fun r H1 locs hp hS hk => ?_)
  obtain ⟨wo, hO9, hr3⟩ := hp
  have hm := hm.kept (fun q hq h => hk q hq (fun z => by have h1 := h.1; have h2 := h.2; have z2 := z.2; omega))
  have hO := hO9
  clear hk
  refine lv_istore (lv' := [(5, .int r), (4, .int (nI (6 * j))), (0, .ref b), (1, .ref o), (2, .ref om), (3, .ref out)]) hx hb dL_law_886 hl (by decide) rfl (fun ls hl => ?_)
  refine lv_aload_n hx hb dL_law_888 rfl (lv_at hl 4 rfl) ?_
  refine lv_aload_n hx hb dL_law_889 rfl (lv_at hl 2 rfl) ?_
  refine lv_iload hx hb dL_law_890 (lv_at hl 1 rfl) ?_
  refine lv_iconst (v := nI 1) hx hb dL_law_892 (by decide) ?_
  refine m_iadd hx hb dL_law_893 ?_
  refine m_sld hx hb hX hbl hbA hS (by omega) (by omega) dL_law_894 ?_
  refine lv_aload_n hx hb dL_law_895 rfl (lv_at hl 2 rfl) ?_
  refine lv_iload hx hb dL_law_896 (lv_at hl 1 rfl) ?_
  refine lv_iconst (v := nI 2) hx hb dL_law_898 (by decide) ?_
  refine m_iadd hx hb dL_law_899 ?_
  refine m_sld hx hb hX hbl hbA hS (by omega) (by omega) dL_law_900 ?_
  refine lv_aload_n hx hb dL_law_901 rfl (lv_at hl 2 rfl) ?_
  refine lv_iload hx hb dL_law_902 (lv_at hl 1 rfl) ?_
  refine lv_iconst (v := nI 3) hx hb dL_law_904 (by decide) ?_
  refine m_iadd hx hb dL_law_905 ?_
  refine m_sld hx hb hX hbl hbA hS (by omega) (by omega) dL_law_906 ?_
  refine lv_aload_n hx hb dL_law_907 rfl (lv_at hl 2 rfl) ?_
  refine lv_iload hx hb dL_law_908 (lv_at hl 1 rfl) ?_
  refine lv_iconst (v := nI 4) hx hb dL_law_910 (by decide) ?_
  refine m_iadd hx hb dL_law_911 ?_
  refine m_sld hx hb hX hbl hbA hS (by omega) (by omega) dL_law_912 ?_
  obtain ⟨f8, d8, pr8, ta8, ti8, hPm, hDm, hRm⟩ := id hm
  refine m_cVi (rest := []) ⟨hx, hb, hml, hown, hts⟩ hE hS (fun q h => Nat.le_trans hNo h.1) (kX3_fits l K (AmF om out) _ om adm fb on fw dr fm vs ch ps la hm (xs ((6 * j) + 1)) (xs ((6 * j) + 2)) (xs ((6 * j) + 3)) (xs ((6 * j) + 4))) (cwV 4 hts gL_law_X3_fits rfl rfl rfl (by decide +kernel) ⟨Nat.le_of_ble_eq_true rfl, Nat.le_of_ble_eq_true rfl⟩) (va_recv hE.k hPm (ci := 4) (q0 := 0) rfl rfl) rfl rfl hl.1 rfl (Nat.le_of_ble_eq_true rfl) dL_law_913 ⟨by show _ ≤ 601024; omega, by show _ ≤ 7293034; omega⟩ (fun r9 H2 locs hp hS hk2 => ?_)
  obtain ⟨k9, hq3⟩ := hp
  obtain ⟨hkk, hcase⟩ := r3_two hr3 hq3
  subst hkk
  have hO : OUT K out wo _ := hO.k1 (hk2 out hO.lt (fun z => absurd z.2 (Nat.lt_irrefl _)))
  rcases hcase with ⟨hk0, ⟨v, hv, hans, hc⟩, hans2, hm⟩ | ⟨hk0, hc, hm⟩
  · have hc := hc.kept (fun q hq h => hk2 q hq (fun z => by have h2 := h.2; have z1 := z.1; have z2 := z.2; omega))
    subst hk0
    have hvr := hans.trans hans2.symm
    rw [hvr] at hv
    rw [hans2] at hv
    rw [hans2]
    refine lv_istore (lv' := [(6, .int (bI (fitF fm (tN (xs ((6 * j) + 1))) (fm (54 * tN (xs ((6 * j) + 1)) + 9 * tN (xs ((6 * j) + 2)) + 3 * tN (xs ((6 * j) + 3)) + tN (xs ((6 * j) + 4))))))), (5, .int (nI 0)), (4, .int (nI (6 * j))), (0, .ref b), (1, .ref o), (2, .ref om), (3, .ref out)]) hx hb dL_law_916 hl (by decide) rfl (fun ls hl => ?_)
    refine lv_aload_n hx hb dL_law_918 rfl (lv_at hl 5 rfl) ?_
    obtain ⟨f7, d7, pr7, ta7, ti7, hPm, hDm, hRm⟩ := id hm
    refine m_cVi (rest := []) ⟨hx, hb, hml, hown, hts⟩ hE hS (fun q h => Nat.le_trans hNo h.1) (kX3_thrown l K (AmF om out) _ om adm f7 d7 pr7 ta7 ti7 _ hPm) (cwV 0 hts gL_law_X3_thrown rfl rfl rfl (by decide +kernel) ⟨Nat.le_of_ble_eq_true rfl, Nat.le_of_ble_eq_true rfl⟩) (va_recv hE.k hPm (ci := 4) (q0 := 0) rfl rfl) rfl rfl hl.1 rfl (Nat.le_of_ble_eq_true rfl) dL_law_919 ⟨by show _ ≤ 601024; omega, by show _ ≤ 7293034; omega⟩ (fun r8 H3 locs hp hS hk3 => ?_)
    obtain ⟨rfl, rfl⟩ := hp
    refine lv_iload hx hb dL_law_922 (lv_at hl 1 rfl) ?_
    refine m_icmp_eq (tgt := 929) hx hb (by omega) (by omega) dL_law_924 (by decide) (fun c_924 => ?_) (fun c_924 => ?_)
    · refine lv_iload hx hb dL_law_929 (lv_at hl 1 rfl) ?_
      refine m_if_ne (tgt := 953) hx hb (by omega) dL_law_931 (by decide) (fun c_931 => ?_) (fun c_931 => ?_)
      · exact absurd rfl c_931
      · refine lv_aload_n hx hb dL_law_934 rfl (lv_at hl 6 rfl) ?_
        refine lv_iconst (v := nI 0) hx hb dL_law_935 (by decide) ?_
        refine m_lald1 hx hb hE.k hO hv dL_law_936 ?_
        refine lv_iload hx hb dL_law_937 (lv_at hl 0 rfl) ?_
        refine m_if_eq_b (tgt := 946) hx hb dL_law_939 (by decide) (fun c_939 => ?_) (fun c_939 => ?_)
        · rw [c_939]
          refine lv_lconst (v := (bI false).toInt64) hx hb dL_law_946 (by decide) ?_
          refine m_lcmp0 hx hb dL_law_947 ?_
          refine lv_if_eq (tgt := 953) hx hb dL_law_948 (by decide) (fun c_948 => ?_) (fun c_948 => ?_)
          · refine lv_goto (tgt := 1545) hx hb dL_law_953 (by decide) ?_
            refine W.widen (k := 64 + 18 * (j + 1)) (n := 7000 + 220 * (j + 1)) (by omega) (by omega) ?_
            exact kk _ _ _ ⟨_, _, _, _, _, _, _, _, _, _, hc, hm, hO⟩ hS (lv_sub hl [2, 3, 4, 5, 6] rfl)
          · exact absurd rfl c_948
        · rw [c_939]
          refine lv_lconst (v := (bI true).toInt64) hx hb dL_law_942 (by decide) ?_
          refine lv_goto (tgt := 947) hx hb dL_law_943 (by decide) ?_
          refine m_lcmp0 hx hb dL_law_947 ?_
          refine lv_if_eq (tgt := 953) hx hb dL_law_948 (by decide) (fun c_948 => ?_) (fun c_948 => ?_)
          · refine lv_goto (tgt := 1545) hx hb dL_law_953 (by decide) ?_
            refine W.widen (k := 64 + 18 * (j + 1)) (n := 7000 + 220 * (j + 1)) (by omega) (by omega) ?_
            exact kk _ _ _ ⟨_, _, _, _, _, _, _, _, _, _, hc, hm, hO⟩ hS (lv_sub hl [2, 3, 4, 5, 6] rfl)
          · exact absurd rfl c_948
    · exact absurd rfl c_924
  · have hc := hc.kept (fun q hq h => hk2 q hq (fun z => by have h2 := h.2; have z1 := z.1; have z2 := z.2; omega))
    refine lv_istore (lv' := [(6, .int r9), (5, .int r), (4, .int (nI (6 * j))), (0, .ref b), (1, .ref o), (2, .ref om), (3, .ref out)]) hx hb dL_law_916 hl (by decide) rfl (fun ls hl => ?_)
    refine lv_aload_n hx hb dL_law_918 rfl (lv_at hl 5 rfl) ?_
    obtain ⟨f7, d7, pr7, ta7, ti7, hPm, hDm, hRm⟩ := id hm
    refine m_cVi (rest := []) ⟨hx, hb, hml, hown, hts⟩ hE hS (fun q h => Nat.le_trans hNo h.1) (kX3_thrown l K (AmF om out) _ om adm f7 d7 pr7 ta7 ti7 _ hPm) (cwV 0 hts gL_law_X3_thrown rfl rfl rfl (by decide +kernel) ⟨Nat.le_of_ble_eq_true rfl, Nat.le_of_ble_eq_true rfl⟩) (va_recv hE.k hPm (ci := 4) (q0 := 0) rfl rfl) rfl rfl hl.1 rfl (Nat.le_of_ble_eq_true rfl) dL_law_919 ⟨by show _ ≤ 601024; omega, by show _ ≤ 7293034; omega⟩ (fun r8 H3 locs hp hS hk3 => ?_)
    obtain ⟨rfl, rfl⟩ := hp
    refine lv_iload hx hb dL_law_922 (lv_at hl 1 rfl) ?_
    refine lv_icmp_eq (tgt := 929) hx hb dL_law_924 (by decide) (fun c_924 => ?_) (fun c_924 => ?_)
    · refine lv_iload hx hb dL_law_929 (lv_at hl 1 rfl) ?_
      refine lv_if_ne (tgt := 953) hx hb dL_law_931 (by decide) (fun c_931 => ?_) (fun c_931 => ?_)
      · refine lv_goto (tgt := 1545) hx hb dL_law_953 (by decide) ?_
        refine W.widen (k := 64 + 18 * (j + 1)) (n := 7000 + 220 * (j + 1)) (by omega) (by omega) ?_
        exact kk _ _ _ ⟨_, _, _, _, _, _, _, _, _, _, hc, hm, hO⟩ hS (lv_sub hl [2, 3, 4, 5, 6] rfl)
      · exact absurd (show _ = nI 0 from c_931) hk0
    · exact absurd rfl c_924

set_option maxHeartbeats 4000000 in
set_option maxRecDepth 100000 in
theorem lc_toldBy {p : Program} {l : Launch} {e : Env} {s : State} {m : MethodId} {below : List Frame} {meth : Method} {c : Code} {b L : Nat} {xs : Nat → Int32} (hl0 : l.stackTraces = false) (hL : L ≤ 3072) (C0 : lw_At p s m meth c b L xs) (K : m_K) (hE : ENV K (fun q => s.heap.size ≤ q) s) (o : Nat) (ad : Nat → Nat) (om : Nat) (adm : Nat → Nat) (out : Nat) (hNo : s.heap.size ≤ om) (hoo : om ≤ out) (j : Nat) (hj : 6 * j + 6 ≤ L) {H : Heap} {locs : List Loc} {ls : Array Slot} (hSt : LSt K s.heap.size o ad om adm out H) (hS : va_S (fun q => s.heap.size ≤ q) s.heap H locs) (hl : lv_has ls 7 [(4, .int (nI (6 * j))), (0, .ref b), (1, .ref o), (2, .ref om), (3, .ref out)])
    (kk : ∀ (H1 : Heap) (locs1 : List Loc) (ls1 : Array Slot), LSt K s.heap.size o ad om adm out H1 → va_S (fun q => s.heap.size ≤ q) s.heap H1 locs1 → lv_has ls1 7 [(4, .int (nI (6 * j))), (0, .ref b), (1, .ref o), (2, .ref om), (3, .ref out)] → W p l e room_1 s m #[Value.ref b] below meth c H1 locs1 (64 + 18 * (j + 1)) (7000 + 220 * (j + 1)) (lw_Z below #[Value.ref b] s) (F0 m 1545 ls1 [])) :
    W p l e room_1 s m #[Value.ref b] below meth c H locs (64 + 18 * j) (7000 + 220 * j) (lw_Z below #[Value.ref b] s) (F0 m 956 ls []) := by
  obtain ⟨hx, hb, hr, hml, hown, hts0, hX, hbl, hlocks, hgv⟩ := C0
  have hts : ∀ w ∈ wsL_law, w.before #[Value.ref b] s = true := fun w h => hts0 w (wsL_law_in w h)
  have hbA : ¬ (fun q : Nat => s.heap.size ≤ q) b := Nat.not_le.mpr hbl
  obtain ⟨fb, on, fw, dr, fm, vs, ch, ps, la, wo, hc, hm, hO⟩ := hSt
  refine lv_aload_n hx hb dL_law_956 rfl (lv_at hl 2 rfl) ?_
  refine lv_aload_n hx hb dL_law_957 rfl (lv_at hl 1 rfl) ?_
  refine lv_iload hx hb dL_law_958 (lv_at hl 0 rfl) ?_
  refine lv_iconst (v := nI 1) hx hb dL_law_960 (by decide) ?_
  refine m_iadd hx hb dL_law_961 ?_
  refine m_sld hx hb hX hbl hbA hS (by omega) (by omega) dL_law_962 ?_
  refine lv_aload_n hx hb dL_law_963 rfl (lv_at hl 1 rfl) ?_
  refine lv_iload hx hb dL_law_964 (lv_at hl 0 rfl) ?_
  refine lv_iconst (v := nI 2) hx hb dL_law_966 (by decide) ?_
  refine m_iadd hx hb dL_law_967 ?_
  refine m_sld hx hb hX hbl hbA hS (by omega) (by omega) dL_law_968 ?_
  refine lv_aload_n hx hb dL_law_969 rfl (lv_at hl 1 rfl) ?_
  refine lv_iload hx hb dL_law_970 (lv_at hl 0 rfl) ?_
  refine lv_iconst (v := nI 3) hx hb dL_law_972 (by decide) ?_
  refine m_iadd hx hb dL_law_973 ?_
  refine m_sld hx hb hX hbl hbA hS (by omega) (by omega) dL_law_974 ?_
  refine lv_aload_n hx hb dL_law_975 rfl (lv_at hl 1 rfl) ?_
  refine lv_iload hx hb dL_law_976 (lv_at hl 0 rfl) ?_
  refine lv_iconst (v := nI 4) hx hb dL_law_978 (by decide) ?_
  refine m_iadd hx hb dL_law_979 ?_
  refine m_sld hx hb hX hbl hbA hS (by omega) (by omega) dL_law_980 ?_
  refine lv_aload_n hx hb dL_law_981 rfl (lv_at hl 4 rfl) ?_
  refine m_cWi (rest := []) ⟨hx, hb, hml, hown, hts⟩ hE hS (fun q h => h.1) (kL_toldBy l K (AwF s.heap.size om out) _ hl0 (AcF s.heap.size om out) (fun q h => ⟨h.1, h.2.elim Or.inl (fun z => Or.inr (Nat.le_of_lt z))⟩) out ⟨Nat.le_trans hNo hoo, Or.inr (Nat.le_refl _)⟩ (fun z => by have z2 := z.2; omega) wo hO o ad fb on fw dr fm vs ch ps hc (fun q hq => ⟨Nat.le_trans hS.1 hq, Or.inr (Nat.lt_of_lt_of_le hO.lt hq)⟩) (xs ((6 * j) + 1)) (xs ((6 * j) + 2)) (xs ((6 * j) + 3)) (xs ((6 * j) + 4))) (vx_cwSW 6 hts gL_law_L_toldBy rfl rfl rfl (by decide +kernel) ⟨Nat.le_of_ble_eq_true rfl, Nat.le_of_ble_eq_true rfl⟩) rfl rfl hl.1 rfl (Nat.le_of_ble_eq_true rfl) dL_law_982 ⟨by show _ ≤ 601024; omega, by show _ ≤ 7293034; omega⟩ (fun r H1 locs hp hS hk => ?_)
  obtain ⟨wo, hO9, hr3⟩ := hp
  have hm := hm.kept (fun q hq h => hk q hq (fun z => by have h1 := h.1; have h2 := h.2; have z2 := z.2; omega))
  have hO := hO9
  clear hk
  refine lv_istore (lv' := [(5, .int r), (4, .int (nI (6 * j))), (0, .ref b), (1, .ref o), (2, .ref om), (3, .ref out)]) hx hb dL_law_985 hl (by decide) rfl (fun ls hl => ?_)
  refine lv_aload_n hx hb dL_law_987 rfl (lv_at hl 4 rfl) ?_
  refine lv_aload_n hx hb dL_law_988 rfl (lv_at hl 2 rfl) ?_
  refine lv_iload hx hb dL_law_989 (lv_at hl 1 rfl) ?_
  refine lv_iconst (v := nI 1) hx hb dL_law_991 (by decide) ?_
  refine m_iadd hx hb dL_law_992 ?_
  refine m_sld hx hb hX hbl hbA hS (by omega) (by omega) dL_law_993 ?_
  refine lv_aload_n hx hb dL_law_994 rfl (lv_at hl 2 rfl) ?_
  refine lv_iload hx hb dL_law_995 (lv_at hl 1 rfl) ?_
  refine lv_iconst (v := nI 2) hx hb dL_law_997 (by decide) ?_
  refine m_iadd hx hb dL_law_998 ?_
  refine m_sld hx hb hX hbl hbA hS (by omega) (by omega) dL_law_999 ?_
  refine lv_aload_n hx hb dL_law_1000 rfl (lv_at hl 2 rfl) ?_
  refine lv_iload hx hb dL_law_1001 (lv_at hl 1 rfl) ?_
  refine lv_iconst (v := nI 3) hx hb dL_law_1003 (by decide) ?_
  refine m_iadd hx hb dL_law_1004 ?_
  refine m_sld hx hb hX hbl hbA hS (by omega) (by omega) dL_law_1005 ?_
  refine lv_aload_n hx hb dL_law_1006 rfl (lv_at hl 2 rfl) ?_
  refine lv_iload hx hb dL_law_1007 (lv_at hl 1 rfl) ?_
  refine lv_iconst (v := nI 4) hx hb dL_law_1009 (by decide) ?_
  refine m_iadd hx hb dL_law_1010 ?_
  refine m_sld hx hb hX hbl hbA hS (by omega) (by omega) dL_law_1011 ?_
  obtain ⟨f8, d8, pr8, ta8, ti8, hPm, hDm, hRm⟩ := id hm
  refine m_cVi (rest := []) ⟨hx, hb, hml, hown, hts⟩ hE hS (fun q h => Nat.le_trans hNo h.1) (kX3_toldBy l K (AmF om out) _ om adm fb on fw dr fm vs ch ps la hm (xs ((6 * j) + 1)) (xs ((6 * j) + 2)) (xs ((6 * j) + 3)) (xs ((6 * j) + 4))) (cwV 4 hts gL_law_X3_toldBy rfl rfl rfl (by decide +kernel) ⟨Nat.le_of_ble_eq_true rfl, Nat.le_of_ble_eq_true rfl⟩) (va_recv hE.k hPm (ci := 4) (q0 := 0) rfl rfl) rfl rfl hl.1 rfl (Nat.le_of_ble_eq_true rfl) dL_law_1012 ⟨by show _ ≤ 601024; omega, by show _ ≤ 7293034; omega⟩ (fun r9 H2 locs hp hS hk2 => ?_)
  obtain ⟨k9, hq3⟩ := hp
  obtain ⟨hkk, hcase⟩ := r3_two hr3 hq3
  subst hkk
  have hO : OUT K out wo _ := hO.k1 (hk2 out hO.lt (fun z => absurd z.2 (Nat.lt_irrefl _)))
  rcases hcase with ⟨hk0, ⟨v, hv, hans, hc⟩, hans2, hm⟩ | ⟨hk0, hc, hm⟩
  · have hc := hc.kept (fun q hq h => hk2 q hq (fun z => by have h2 := h.2; have z1 := z.1; have z2 := z.2; omega))
    subst hk0
    have hvr := hans.trans hans2.symm
    rw [hvr] at hv
    refine lv_istore (lv' := [(6, .int r9), (5, .int (nI 0)), (4, .int (nI (6 * j))), (0, .ref b), (1, .ref o), (2, .ref om), (3, .ref out)]) hx hb dL_law_1015 hl (by decide) rfl (fun ls hl => ?_)
    refine lv_aload_n hx hb dL_law_1017 rfl (lv_at hl 5 rfl) ?_
    obtain ⟨f7, d7, pr7, ta7, ti7, hPm, hDm, hRm⟩ := id hm
    refine m_cVi (rest := []) ⟨hx, hb, hml, hown, hts⟩ hE hS (fun q h => Nat.le_trans hNo h.1) (kX3_thrown l K (AmF om out) _ om adm f7 d7 pr7 ta7 ti7 _ hPm) (cwV 0 hts gL_law_X3_thrown rfl rfl rfl (by decide +kernel) ⟨Nat.le_of_ble_eq_true rfl, Nat.le_of_ble_eq_true rfl⟩) (va_recv hE.k hPm (ci := 4) (q0 := 0) rfl rfl) rfl rfl hl.1 rfl (Nat.le_of_ble_eq_true rfl) dL_law_1018 ⟨by show _ ≤ 601024; omega, by show _ ≤ 7293034; omega⟩ (fun r8 H3 locs hp hS hk3 => ?_)
    obtain ⟨rfl, rfl⟩ := hp
    refine lv_iload hx hb dL_law_1021 (lv_at hl 1 rfl) ?_
    refine m_icmp_eq (tgt := 1028) hx hb (by omega) (by omega) dL_law_1023 (by decide) (fun c_1023 => ?_) (fun c_1023 => ?_)
    · refine lv_iload hx hb dL_law_1028 (lv_at hl 1 rfl) ?_
      refine m_if_ne (tgt := 1045) hx hb (by omega) dL_law_1030 (by decide) (fun c_1030 => ?_) (fun c_1030 => ?_)
      · exact absurd rfl c_1030
      · refine lv_aload_n hx hb dL_law_1033 rfl (lv_at hl 6 rfl) ?_
        refine lv_iconst (v := nI 0) hx hb dL_law_1034 (by decide) ?_
        refine m_lald1 hx hb hE.k hO hv dL_law_1035 ?_
        refine lv_iload hx hb dL_law_1036 (lv_at hl 0 rfl) ?_
        refine lv_i2l hx hb dL_law_1038 rfl ?_
        refine m_lcmp0 hx hb dL_law_1039 ?_
        refine lv_if_eq (tgt := 1045) hx hb dL_law_1040 (by decide) (fun c_1040 => ?_) (fun c_1040 => ?_)
        · refine lv_goto (tgt := 1545) hx hb dL_law_1045 (by decide) ?_
          refine W.widen (k := 64 + 18 * (j + 1)) (n := 7000 + 220 * (j + 1)) (by omega) (by omega) ?_
          exact kk _ _ _ ⟨_, _, _, _, _, _, _, _, _, _, hc, hm, hO⟩ hS (lv_sub hl [2, 3, 4, 5, 6] rfl)
        · exact absurd rfl c_1040
    · exact absurd rfl c_1023
  · have hc := hc.kept (fun q hq h => hk2 q hq (fun z => by have h2 := h.2; have z1 := z.1; have z2 := z.2; omega))
    refine lv_istore (lv' := [(6, .int r9), (5, .int r), (4, .int (nI (6 * j))), (0, .ref b), (1, .ref o), (2, .ref om), (3, .ref out)]) hx hb dL_law_1015 hl (by decide) rfl (fun ls hl => ?_)
    refine lv_aload_n hx hb dL_law_1017 rfl (lv_at hl 5 rfl) ?_
    obtain ⟨f7, d7, pr7, ta7, ti7, hPm, hDm, hRm⟩ := id hm
    refine m_cVi (rest := []) ⟨hx, hb, hml, hown, hts⟩ hE hS (fun q h => Nat.le_trans hNo h.1) (kX3_thrown l K (AmF om out) _ om adm f7 d7 pr7 ta7 ti7 _ hPm) (cwV 0 hts gL_law_X3_thrown rfl rfl rfl (by decide +kernel) ⟨Nat.le_of_ble_eq_true rfl, Nat.le_of_ble_eq_true rfl⟩) (va_recv hE.k hPm (ci := 4) (q0 := 0) rfl rfl) rfl rfl hl.1 rfl (Nat.le_of_ble_eq_true rfl) dL_law_1018 ⟨by show _ ≤ 601024; omega, by show _ ≤ 7293034; omega⟩ (fun r8 H3 locs hp hS hk3 => ?_)
    obtain ⟨rfl, rfl⟩ := hp
    refine lv_iload hx hb dL_law_1021 (lv_at hl 1 rfl) ?_
    refine lv_icmp_eq (tgt := 1028) hx hb dL_law_1023 (by decide) (fun c_1023 => ?_) (fun c_1023 => ?_)
    · refine lv_iload hx hb dL_law_1028 (lv_at hl 1 rfl) ?_
      refine lv_if_ne (tgt := 1045) hx hb dL_law_1030 (by decide) (fun c_1030 => ?_) (fun c_1030 => ?_)
      · refine lv_goto (tgt := 1545) hx hb dL_law_1045 (by decide) ?_
        refine W.widen (k := 64 + 18 * (j + 1)) (n := 7000 + 220 * (j + 1)) (by omega) (by omega) ?_
        exact kk _ _ _ ⟨_, _, _, _, _, _, _, _, _, _, hc, hm, hO⟩ hS (lv_sub hl [2, 3, 4, 5, 6] rfl)
      · exact absurd (show _ = nI 0 from c_1030) hk0
    · exact absurd rfl c_1023

set_option maxHeartbeats 4000000 in
set_option maxRecDepth 100000 in
theorem lc_toldByLooking {p : Program} {l : Launch} {e : Env} {s : State} {m : MethodId} {below : List Frame} {meth : Method} {c : Code} {b L : Nat} {xs : Nat → Int32} (hl0 : l.stackTraces = false) (hL : L ≤ 3072) (C0 : lw_At p s m meth c b L xs) (K : m_K) (hE : ENV K (fun q => s.heap.size ≤ q) s) (o : Nat) (ad : Nat → Nat) (om : Nat) (adm : Nat → Nat) (out : Nat) (hNo : s.heap.size ≤ om) (hoo : om ≤ out) (j : Nat) (hj : 6 * j + 6 ≤ L) {H : Heap} {locs : List Loc} {ls : Array Slot} (hSt : LSt K s.heap.size o ad om adm out H) (hS : va_S (fun q => s.heap.size ≤ q) s.heap H locs) (hl : lv_has ls 7 [(4, .int (nI (6 * j))), (0, .ref b), (1, .ref o), (2, .ref om), (3, .ref out)])
    (kk : ∀ (H1 : Heap) (locs1 : List Loc) (ls1 : Array Slot), LSt K s.heap.size o ad om adm out H1 → va_S (fun q => s.heap.size ≤ q) s.heap H1 locs1 → lv_has ls1 7 [(4, .int (nI (6 * j))), (0, .ref b), (1, .ref o), (2, .ref om), (3, .ref out)] → W p l e room_1 s m #[Value.ref b] below meth c H1 locs1 (64 + 18 * (j + 1)) (7000 + 220 * (j + 1)) (lw_Z below #[Value.ref b] s) (F0 m 1545 ls1 [])) :
    W p l e room_1 s m #[Value.ref b] below meth c H locs (64 + 18 * j) (7000 + 220 * j) (lw_Z below #[Value.ref b] s) (F0 m 1048 ls []) := by
  obtain ⟨hx, hb, hr, hml, hown, hts0, hX, hbl, hlocks, hgv⟩ := C0
  have hts : ∀ w ∈ wsL_law, w.before #[Value.ref b] s = true := fun w h => hts0 w (wsL_law_in w h)
  have hbA : ¬ (fun q : Nat => s.heap.size ≤ q) b := Nat.not_le.mpr hbl
  obtain ⟨fb, on, fw, dr, fm, vs, ch, ps, la, wo, hc, hm, hO⟩ := hSt
  refine lv_aload_n hx hb dL_law_1048 rfl (lv_at hl 2 rfl) ?_
  refine lv_aload_n hx hb dL_law_1049 rfl (lv_at hl 1 rfl) ?_
  refine lv_iload hx hb dL_law_1050 (lv_at hl 0 rfl) ?_
  refine lv_iconst (v := nI 1) hx hb dL_law_1052 (by decide) ?_
  refine m_iadd hx hb dL_law_1053 ?_
  refine m_sld hx hb hX hbl hbA hS (by omega) (by omega) dL_law_1054 ?_
  refine lv_aload_n hx hb dL_law_1055 rfl (lv_at hl 1 rfl) ?_
  refine lv_iload hx hb dL_law_1056 (lv_at hl 0 rfl) ?_
  refine lv_iconst (v := nI 2) hx hb dL_law_1058 (by decide) ?_
  refine m_iadd hx hb dL_law_1059 ?_
  refine m_sld hx hb hX hbl hbA hS (by omega) (by omega) dL_law_1060 ?_
  refine lv_aload_n hx hb dL_law_1061 rfl (lv_at hl 1 rfl) ?_
  refine lv_iload hx hb dL_law_1062 (lv_at hl 0 rfl) ?_
  refine lv_iconst (v := nI 3) hx hb dL_law_1064 (by decide) ?_
  refine m_iadd hx hb dL_law_1065 ?_
  refine m_sld hx hb hX hbl hbA hS (by omega) (by omega) dL_law_1066 ?_
  refine lv_aload_n hx hb dL_law_1067 rfl (lv_at hl 1 rfl) ?_
  refine lv_iload hx hb dL_law_1068 (lv_at hl 0 rfl) ?_
  refine lv_iconst (v := nI 4) hx hb dL_law_1070 (by decide) ?_
  refine m_iadd hx hb dL_law_1071 ?_
  refine m_sld hx hb hX hbl hbA hS (by omega) (by omega) dL_law_1072 ?_
  refine lv_aload_n hx hb dL_law_1073 rfl (lv_at hl 4 rfl) ?_
  refine m_cWi (rest := []) ⟨hx, hb, hml, hown, hts⟩ hE hS (fun q h => h.1) (kL_toldByLooking l K (AwF s.heap.size om out) _ hl0 (AcF s.heap.size om out) (fun q h => ⟨h.1, h.2.elim Or.inl (fun z => Or.inr (Nat.le_of_lt z))⟩) out ⟨Nat.le_trans hNo hoo, Or.inr (Nat.le_refl _)⟩ (fun z => by have z2 := z.2; omega) wo hO o ad fb on fw dr fm vs ch ps hc (fun q hq => ⟨Nat.le_trans hS.1 hq, Or.inr (Nat.lt_of_lt_of_le hO.lt hq)⟩) (xs ((6 * j) + 1)) (xs ((6 * j) + 2)) (xs ((6 * j) + 3)) (xs ((6 * j) + 4))) (vx_cwSW 6 hts gL_law_L_toldByLooking rfl rfl rfl (by decide +kernel) ⟨Nat.le_of_ble_eq_true rfl, Nat.le_of_ble_eq_true rfl⟩) rfl rfl hl.1 rfl (Nat.le_of_ble_eq_true rfl) dL_law_1074 ⟨by show _ ≤ 601024; omega, by show _ ≤ 7293034; omega⟩ (fun r H1 locs hp hS hk => ?_)
  obtain ⟨wo, hO9, hr3⟩ := hp
  have hm := hm.kept (fun q hq h => hk q hq (fun z => by have h1 := h.1; have h2 := h.2; have z2 := z.2; omega))
  have hO := hO9
  clear hk
  refine lv_istore (lv' := [(5, .int r), (4, .int (nI (6 * j))), (0, .ref b), (1, .ref o), (2, .ref om), (3, .ref out)]) hx hb dL_law_1077 hl (by decide) rfl (fun ls hl => ?_)
  refine lv_aload_n hx hb dL_law_1079 rfl (lv_at hl 4 rfl) ?_
  refine lv_aload_n hx hb dL_law_1080 rfl (lv_at hl 2 rfl) ?_
  refine lv_iload hx hb dL_law_1081 (lv_at hl 1 rfl) ?_
  refine lv_iconst (v := nI 1) hx hb dL_law_1083 (by decide) ?_
  refine m_iadd hx hb dL_law_1084 ?_
  refine m_sld hx hb hX hbl hbA hS (by omega) (by omega) dL_law_1085 ?_
  refine lv_aload_n hx hb dL_law_1086 rfl (lv_at hl 2 rfl) ?_
  refine lv_iload hx hb dL_law_1087 (lv_at hl 1 rfl) ?_
  refine lv_iconst (v := nI 2) hx hb dL_law_1089 (by decide) ?_
  refine m_iadd hx hb dL_law_1090 ?_
  refine m_sld hx hb hX hbl hbA hS (by omega) (by omega) dL_law_1091 ?_
  refine lv_aload_n hx hb dL_law_1092 rfl (lv_at hl 2 rfl) ?_
  refine lv_iload hx hb dL_law_1093 (lv_at hl 1 rfl) ?_
  refine lv_iconst (v := nI 3) hx hb dL_law_1095 (by decide) ?_
  refine m_iadd hx hb dL_law_1096 ?_
  refine m_sld hx hb hX hbl hbA hS (by omega) (by omega) dL_law_1097 ?_
  refine lv_aload_n hx hb dL_law_1098 rfl (lv_at hl 2 rfl) ?_
  refine lv_iload hx hb dL_law_1099 (lv_at hl 1 rfl) ?_
  refine lv_iconst (v := nI 4) hx hb dL_law_1101 (by decide) ?_
  refine m_iadd hx hb dL_law_1102 ?_
  refine m_sld hx hb hX hbl hbA hS (by omega) (by omega) dL_law_1103 ?_
  obtain ⟨f8, d8, pr8, ta8, ti8, hPm, hDm, hRm⟩ := id hm
  refine m_cVi (rest := []) ⟨hx, hb, hml, hown, hts⟩ hE hS (fun q h => Nat.le_trans hNo h.1) (kX3_toldByLooking l K (AmF om out) _ om adm fb on fw dr fm vs ch ps la hm (xs ((6 * j) + 1)) (xs ((6 * j) + 2)) (xs ((6 * j) + 3)) (xs ((6 * j) + 4))) (cwV 4 hts gL_law_X3_toldByLooking rfl rfl rfl (by decide +kernel) ⟨Nat.le_of_ble_eq_true rfl, Nat.le_of_ble_eq_true rfl⟩) (va_recv hE.k hPm (ci := 4) (q0 := 0) rfl rfl) rfl rfl hl.1 rfl (Nat.le_of_ble_eq_true rfl) dL_law_1104 ⟨by show _ ≤ 601024; omega, by show _ ≤ 7293034; omega⟩ (fun r9 H2 locs hp hS hk2 => ?_)
  obtain ⟨k9, hq3⟩ := hp
  obtain ⟨hkk, hcase⟩ := r3_two hr3 hq3
  subst hkk
  have hO : OUT K out wo _ := hO.k1 (hk2 out hO.lt (fun z => absurd z.2 (Nat.lt_irrefl _)))
  rcases hcase with ⟨hk0, ⟨v, hv, hans, hc⟩, hans2, hm⟩ | ⟨hk0, hc, hm⟩
  · have hc := hc.kept (fun q hq h => hk2 q hq (fun z => by have h2 := h.2; have z1 := z.1; have z2 := z.2; omega))
    subst hk0
    have hvr := hans.trans hans2.symm
    rw [hvr] at hv
    refine lv_istore (lv' := [(6, .int r9), (5, .int (nI 0)), (4, .int (nI (6 * j))), (0, .ref b), (1, .ref o), (2, .ref om), (3, .ref out)]) hx hb dL_law_1107 hl (by decide) rfl (fun ls hl => ?_)
    refine lv_aload_n hx hb dL_law_1109 rfl (lv_at hl 5 rfl) ?_
    obtain ⟨f7, d7, pr7, ta7, ti7, hPm, hDm, hRm⟩ := id hm
    refine m_cVi (rest := []) ⟨hx, hb, hml, hown, hts⟩ hE hS (fun q h => Nat.le_trans hNo h.1) (kX3_thrown l K (AmF om out) _ om adm f7 d7 pr7 ta7 ti7 _ hPm) (cwV 0 hts gL_law_X3_thrown rfl rfl rfl (by decide +kernel) ⟨Nat.le_of_ble_eq_true rfl, Nat.le_of_ble_eq_true rfl⟩) (va_recv hE.k hPm (ci := 4) (q0 := 0) rfl rfl) rfl rfl hl.1 rfl (Nat.le_of_ble_eq_true rfl) dL_law_1110 ⟨by show _ ≤ 601024; omega, by show _ ≤ 7293034; omega⟩ (fun r8 H3 locs hp hS hk3 => ?_)
    obtain ⟨rfl, rfl⟩ := hp
    refine lv_iload hx hb dL_law_1113 (lv_at hl 1 rfl) ?_
    refine m_icmp_eq (tgt := 1120) hx hb (by omega) (by omega) dL_law_1115 (by decide) (fun c_1115 => ?_) (fun c_1115 => ?_)
    · refine lv_iload hx hb dL_law_1120 (lv_at hl 1 rfl) ?_
      refine m_if_ne (tgt := 1137) hx hb (by omega) dL_law_1122 (by decide) (fun c_1122 => ?_) (fun c_1122 => ?_)
      · exact absurd rfl c_1122
      · refine lv_aload_n hx hb dL_law_1125 rfl (lv_at hl 6 rfl) ?_
        refine lv_iconst (v := nI 0) hx hb dL_law_1126 (by decide) ?_
        refine m_lald1 hx hb hE.k hO hv dL_law_1127 ?_
        refine lv_iload hx hb dL_law_1128 (lv_at hl 0 rfl) ?_
        refine lv_i2l hx hb dL_law_1130 rfl ?_
        refine m_lcmp0 hx hb dL_law_1131 ?_
        refine lv_if_eq (tgt := 1137) hx hb dL_law_1132 (by decide) (fun c_1132 => ?_) (fun c_1132 => ?_)
        · refine lv_goto (tgt := 1545) hx hb dL_law_1137 (by decide) ?_
          refine W.widen (k := 64 + 18 * (j + 1)) (n := 7000 + 220 * (j + 1)) (by omega) (by omega) ?_
          exact kk _ _ _ ⟨_, _, _, _, _, _, _, _, _, _, hc, hm, hO⟩ hS (lv_sub hl [2, 3, 4, 5, 6] rfl)
        · exact absurd rfl c_1132
    · exact absurd rfl c_1115
  · have hc := hc.kept (fun q hq h => hk2 q hq (fun z => by have h2 := h.2; have z1 := z.1; have z2 := z.2; omega))
    refine lv_istore (lv' := [(6, .int r9), (5, .int r), (4, .int (nI (6 * j))), (0, .ref b), (1, .ref o), (2, .ref om), (3, .ref out)]) hx hb dL_law_1107 hl (by decide) rfl (fun ls hl => ?_)
    refine lv_aload_n hx hb dL_law_1109 rfl (lv_at hl 5 rfl) ?_
    obtain ⟨f7, d7, pr7, ta7, ti7, hPm, hDm, hRm⟩ := id hm
    refine m_cVi (rest := []) ⟨hx, hb, hml, hown, hts⟩ hE hS (fun q h => Nat.le_trans hNo h.1) (kX3_thrown l K (AmF om out) _ om adm f7 d7 pr7 ta7 ti7 _ hPm) (cwV 0 hts gL_law_X3_thrown rfl rfl rfl (by decide +kernel) ⟨Nat.le_of_ble_eq_true rfl, Nat.le_of_ble_eq_true rfl⟩) (va_recv hE.k hPm (ci := 4) (q0 := 0) rfl rfl) rfl rfl hl.1 rfl (Nat.le_of_ble_eq_true rfl) dL_law_1110 ⟨by show _ ≤ 601024; omega, by show _ ≤ 7293034; omega⟩ (fun r8 H3 locs hp hS hk3 => ?_)
    obtain ⟨rfl, rfl⟩ := hp
    refine lv_iload hx hb dL_law_1113 (lv_at hl 1 rfl) ?_
    refine lv_icmp_eq (tgt := 1120) hx hb dL_law_1115 (by decide) (fun c_1115 => ?_) (fun c_1115 => ?_)
    · refine lv_iload hx hb dL_law_1120 (lv_at hl 1 rfl) ?_
      refine lv_if_ne (tgt := 1137) hx hb dL_law_1122 (by decide) (fun c_1122 => ?_) (fun c_1122 => ?_)
      · refine lv_goto (tgt := 1545) hx hb dL_law_1137 (by decide) ?_
        refine W.widen (k := 64 + 18 * (j + 1)) (n := 7000 + 220 * (j + 1)) (by omega) (by omega) ?_
        exact kk _ _ _ ⟨_, _, _, _, _, _, _, _, _, _, hc, hm, hO⟩ hS (lv_sub hl [2, 3, 4, 5, 6] rfl)
      · exact absurd (show _ = nI 0 from c_1122) hk0
    · exact absurd rfl c_1115

set_option maxHeartbeats 4000000 in
set_option maxRecDepth 100000 in
theorem lc_toldForm {p : Program} {l : Launch} {e : Env} {s : State} {m : MethodId} {below : List Frame} {meth : Method} {c : Code} {b L : Nat} {xs : Nat → Int32} (hl0 : l.stackTraces = false) (hL : L ≤ 3072) (C0 : lw_At p s m meth c b L xs) (K : m_K) (hE : ENV K (fun q => s.heap.size ≤ q) s) (o : Nat) (ad : Nat → Nat) (om : Nat) (adm : Nat → Nat) (out : Nat) (hNo : s.heap.size ≤ om) (hoo : om ≤ out) (j : Nat) (hj : 6 * j + 6 ≤ L) {H : Heap} {locs : List Loc} {ls : Array Slot} (hSt : LSt K s.heap.size o ad om adm out H) (hS : va_S (fun q => s.heap.size ≤ q) s.heap H locs) (hl : lv_has ls 7 [(4, .int (nI (6 * j))), (0, .ref b), (1, .ref o), (2, .ref om), (3, .ref out)])
    (kk : ∀ (H1 : Heap) (locs1 : List Loc) (ls1 : Array Slot), LSt K s.heap.size o ad om adm out H1 → va_S (fun q => s.heap.size ≤ q) s.heap H1 locs1 → lv_has ls1 7 [(4, .int (nI (6 * j))), (0, .ref b), (1, .ref o), (2, .ref om), (3, .ref out)] → W p l e room_1 s m #[Value.ref b] below meth c H1 locs1 (64 + 18 * (j + 1)) (7000 + 220 * (j + 1)) (lw_Z below #[Value.ref b] s) (F0 m 1545 ls1 [])) :
    W p l e room_1 s m #[Value.ref b] below meth c H locs (64 + 18 * j) (7000 + 220 * j) (lw_Z below #[Value.ref b] s) (F0 m 1140 ls []) := by
  obtain ⟨hx, hb, hr, hml, hown, hts0, hX, hbl, hlocks, hgv⟩ := C0
  have hts : ∀ w ∈ wsL_law, w.before #[Value.ref b] s = true := fun w h => hts0 w (wsL_law_in w h)
  have hbA : ¬ (fun q : Nat => s.heap.size ≤ q) b := Nat.not_le.mpr hbl
  obtain ⟨fb, on, fw, dr, fm, vs, ch, ps, la, wo, hc, hm, hO⟩ := hSt
  refine lv_aload_n hx hb dL_law_1140 rfl (lv_at hl 2 rfl) ?_
  refine lv_aload_n hx hb dL_law_1141 rfl (lv_at hl 1 rfl) ?_
  refine lv_iload hx hb dL_law_1142 (lv_at hl 0 rfl) ?_
  refine lv_iconst (v := nI 1) hx hb dL_law_1144 (by decide) ?_
  refine m_iadd hx hb dL_law_1145 ?_
  refine m_sld hx hb hX hbl hbA hS (by omega) (by omega) dL_law_1146 ?_
  refine lv_aload_n hx hb dL_law_1147 rfl (lv_at hl 1 rfl) ?_
  refine lv_iload hx hb dL_law_1148 (lv_at hl 0 rfl) ?_
  refine lv_iconst (v := nI 2) hx hb dL_law_1150 (by decide) ?_
  refine m_iadd hx hb dL_law_1151 ?_
  refine m_sld hx hb hX hbl hbA hS (by omega) (by omega) dL_law_1152 ?_
  refine lv_aload_n hx hb dL_law_1153 rfl (lv_at hl 1 rfl) ?_
  refine lv_iload hx hb dL_law_1154 (lv_at hl 0 rfl) ?_
  refine lv_iconst (v := nI 3) hx hb dL_law_1156 (by decide) ?_
  refine m_iadd hx hb dL_law_1157 ?_
  refine m_sld hx hb hX hbl hbA hS (by omega) (by omega) dL_law_1158 ?_
  refine lv_aload_n hx hb dL_law_1159 rfl (lv_at hl 1 rfl) ?_
  refine lv_iload hx hb dL_law_1160 (lv_at hl 0 rfl) ?_
  refine lv_iconst (v := nI 4) hx hb dL_law_1162 (by decide) ?_
  refine m_iadd hx hb dL_law_1163 ?_
  refine m_sld hx hb hX hbl hbA hS (by omega) (by omega) dL_law_1164 ?_
  refine lv_aload_n hx hb dL_law_1165 rfl (lv_at hl 4 rfl) ?_
  refine m_cWi (rest := []) ⟨hx, hb, hml, hown, hts⟩ hE hS (fun q h => h.1) (kL_toldForm l K (AwF s.heap.size om out) _ hl0 (AcF s.heap.size om out) (fun q h => ⟨h.1, h.2.elim Or.inl (fun z => Or.inr (Nat.le_of_lt z))⟩) out ⟨Nat.le_trans hNo hoo, Or.inr (Nat.le_refl _)⟩ (fun z => by have z2 := z.2; omega) wo hO o ad fb on fw dr fm vs ch ps hc (fun q hq => ⟨Nat.le_trans hS.1 hq, Or.inr (Nat.lt_of_lt_of_le hO.lt hq)⟩) (xs ((6 * j) + 1)) (xs ((6 * j) + 2)) (xs ((6 * j) + 3)) (xs ((6 * j) + 4))) (vx_cwSW 6 hts gL_law_L_toldForm rfl rfl rfl (by decide +kernel) ⟨Nat.le_of_ble_eq_true rfl, Nat.le_of_ble_eq_true rfl⟩) rfl rfl hl.1 rfl (Nat.le_of_ble_eq_true rfl) dL_law_1166 ⟨by show _ ≤ 601024; omega, by show _ ≤ 7293034; omega⟩ (fun r H1 locs hp hS hk => ?_)
  obtain ⟨wo, hO9, hr3⟩ := hp
  have hm := hm.kept (fun q hq h => hk q hq (fun z => by have h1 := h.1; have h2 := h.2; have z2 := z.2; omega))
  have hO := hO9
  clear hk
  refine lv_istore (lv' := [(5, .int r), (4, .int (nI (6 * j))), (0, .ref b), (1, .ref o), (2, .ref om), (3, .ref out)]) hx hb dL_law_1169 hl (by decide) rfl (fun ls hl => ?_)
  refine lv_aload_n hx hb dL_law_1171 rfl (lv_at hl 4 rfl) ?_
  refine lv_aload_n hx hb dL_law_1172 rfl (lv_at hl 2 rfl) ?_
  refine lv_iload hx hb dL_law_1173 (lv_at hl 1 rfl) ?_
  refine lv_iconst (v := nI 1) hx hb dL_law_1175 (by decide) ?_
  refine m_iadd hx hb dL_law_1176 ?_
  refine m_sld hx hb hX hbl hbA hS (by omega) (by omega) dL_law_1177 ?_
  refine lv_aload_n hx hb dL_law_1178 rfl (lv_at hl 2 rfl) ?_
  refine lv_iload hx hb dL_law_1179 (lv_at hl 1 rfl) ?_
  refine lv_iconst (v := nI 2) hx hb dL_law_1181 (by decide) ?_
  refine m_iadd hx hb dL_law_1182 ?_
  refine m_sld hx hb hX hbl hbA hS (by omega) (by omega) dL_law_1183 ?_
  refine lv_aload_n hx hb dL_law_1184 rfl (lv_at hl 2 rfl) ?_
  refine lv_iload hx hb dL_law_1185 (lv_at hl 1 rfl) ?_
  refine lv_iconst (v := nI 3) hx hb dL_law_1187 (by decide) ?_
  refine m_iadd hx hb dL_law_1188 ?_
  refine m_sld hx hb hX hbl hbA hS (by omega) (by omega) dL_law_1189 ?_
  refine lv_aload_n hx hb dL_law_1190 rfl (lv_at hl 2 rfl) ?_
  refine lv_iload hx hb dL_law_1191 (lv_at hl 1 rfl) ?_
  refine lv_iconst (v := nI 4) hx hb dL_law_1193 (by decide) ?_
  refine m_iadd hx hb dL_law_1194 ?_
  refine m_sld hx hb hX hbl hbA hS (by omega) (by omega) dL_law_1195 ?_
  obtain ⟨f8, d8, pr8, ta8, ti8, hPm, hDm, hRm⟩ := id hm
  refine m_cVi (rest := []) ⟨hx, hb, hml, hown, hts⟩ hE hS (fun q h => Nat.le_trans hNo h.1) (kX3_toldForm l K (AmF om out) _ om adm fb on fw dr fm vs ch ps la hm (xs ((6 * j) + 1)) (xs ((6 * j) + 2)) (xs ((6 * j) + 3)) (xs ((6 * j) + 4))) (cwV 4 hts gL_law_X3_toldForm rfl rfl rfl (by decide +kernel) ⟨Nat.le_of_ble_eq_true rfl, Nat.le_of_ble_eq_true rfl⟩) (va_recv hE.k hPm (ci := 4) (q0 := 0) rfl rfl) rfl rfl hl.1 rfl (Nat.le_of_ble_eq_true rfl) dL_law_1196 ⟨by show _ ≤ 601024; omega, by show _ ≤ 7293034; omega⟩ (fun r9 H2 locs hp hS hk2 => ?_)
  obtain ⟨k9, hq3⟩ := hp
  obtain ⟨hkk, hcase⟩ := r3_two hr3 hq3
  subst hkk
  have hO : OUT K out wo _ := hO.k1 (hk2 out hO.lt (fun z => absurd z.2 (Nat.lt_irrefl _)))
  rcases hcase with ⟨hk0, ⟨v, hv, hans, hc⟩, hans2, hm⟩ | ⟨hk0, hc, hm⟩
  · have hc := hc.kept (fun q hq h => hk2 q hq (fun z => by have h2 := h.2; have z1 := z.1; have z2 := z.2; omega))
    subst hk0
    have hvr := hans.trans hans2.symm
    rw [hvr] at hv
    refine lv_istore (lv' := [(6, .int r9), (5, .int (nI 0)), (4, .int (nI (6 * j))), (0, .ref b), (1, .ref o), (2, .ref om), (3, .ref out)]) hx hb dL_law_1199 hl (by decide) rfl (fun ls hl => ?_)
    refine lv_aload_n hx hb dL_law_1201 rfl (lv_at hl 5 rfl) ?_
    obtain ⟨f7, d7, pr7, ta7, ti7, hPm, hDm, hRm⟩ := id hm
    refine m_cVi (rest := []) ⟨hx, hb, hml, hown, hts⟩ hE hS (fun q h => Nat.le_trans hNo h.1) (kX3_thrown l K (AmF om out) _ om adm f7 d7 pr7 ta7 ti7 _ hPm) (cwV 0 hts gL_law_X3_thrown rfl rfl rfl (by decide +kernel) ⟨Nat.le_of_ble_eq_true rfl, Nat.le_of_ble_eq_true rfl⟩) (va_recv hE.k hPm (ci := 4) (q0 := 0) rfl rfl) rfl rfl hl.1 rfl (Nat.le_of_ble_eq_true rfl) dL_law_1202 ⟨by show _ ≤ 601024; omega, by show _ ≤ 7293034; omega⟩ (fun r8 H3 locs hp hS hk3 => ?_)
    obtain ⟨rfl, rfl⟩ := hp
    refine lv_iload hx hb dL_law_1205 (lv_at hl 1 rfl) ?_
    refine m_icmp_eq (tgt := 1212) hx hb (by omega) (by omega) dL_law_1207 (by decide) (fun c_1207 => ?_) (fun c_1207 => ?_)
    · refine lv_iload hx hb dL_law_1212 (lv_at hl 1 rfl) ?_
      refine m_if_ne (tgt := 1229) hx hb (by omega) dL_law_1214 (by decide) (fun c_1214 => ?_) (fun c_1214 => ?_)
      · exact absurd rfl c_1214
      · refine lv_aload_n hx hb dL_law_1217 rfl (lv_at hl 6 rfl) ?_
        refine lv_iconst (v := nI 0) hx hb dL_law_1218 (by decide) ?_
        refine m_lald1 hx hb hE.k hO hv dL_law_1219 ?_
        refine lv_iload hx hb dL_law_1220 (lv_at hl 0 rfl) ?_
        refine lv_i2l hx hb dL_law_1222 rfl ?_
        refine m_lcmp0 hx hb dL_law_1223 ?_
        refine lv_if_eq (tgt := 1229) hx hb dL_law_1224 (by decide) (fun c_1224 => ?_) (fun c_1224 => ?_)
        · refine lv_goto (tgt := 1545) hx hb dL_law_1229 (by decide) ?_
          refine W.widen (k := 64 + 18 * (j + 1)) (n := 7000 + 220 * (j + 1)) (by omega) (by omega) ?_
          exact kk _ _ _ ⟨_, _, _, _, _, _, _, _, _, _, hc, hm, hO⟩ hS (lv_sub hl [2, 3, 4, 5, 6] rfl)
        · exact absurd rfl c_1224
    · exact absurd rfl c_1207
  · have hc := hc.kept (fun q hq h => hk2 q hq (fun z => by have h2 := h.2; have z1 := z.1; have z2 := z.2; omega))
    refine lv_istore (lv' := [(6, .int r9), (5, .int r), (4, .int (nI (6 * j))), (0, .ref b), (1, .ref o), (2, .ref om), (3, .ref out)]) hx hb dL_law_1199 hl (by decide) rfl (fun ls hl => ?_)
    refine lv_aload_n hx hb dL_law_1201 rfl (lv_at hl 5 rfl) ?_
    obtain ⟨f7, d7, pr7, ta7, ti7, hPm, hDm, hRm⟩ := id hm
    refine m_cVi (rest := []) ⟨hx, hb, hml, hown, hts⟩ hE hS (fun q h => Nat.le_trans hNo h.1) (kX3_thrown l K (AmF om out) _ om adm f7 d7 pr7 ta7 ti7 _ hPm) (cwV 0 hts gL_law_X3_thrown rfl rfl rfl (by decide +kernel) ⟨Nat.le_of_ble_eq_true rfl, Nat.le_of_ble_eq_true rfl⟩) (va_recv hE.k hPm (ci := 4) (q0 := 0) rfl rfl) rfl rfl hl.1 rfl (Nat.le_of_ble_eq_true rfl) dL_law_1202 ⟨by show _ ≤ 601024; omega, by show _ ≤ 7293034; omega⟩ (fun r8 H3 locs hp hS hk3 => ?_)
    obtain ⟨rfl, rfl⟩ := hp
    refine lv_iload hx hb dL_law_1205 (lv_at hl 1 rfl) ?_
    refine lv_icmp_eq (tgt := 1212) hx hb dL_law_1207 (by decide) (fun c_1207 => ?_) (fun c_1207 => ?_)
    · refine lv_iload hx hb dL_law_1212 (lv_at hl 1 rfl) ?_
      refine lv_if_ne (tgt := 1229) hx hb dL_law_1214 (by decide) (fun c_1214 => ?_) (fun c_1214 => ?_)
      · refine lv_goto (tgt := 1545) hx hb dL_law_1229 (by decide) ?_
        refine W.widen (k := 64 + 18 * (j + 1)) (n := 7000 + 220 * (j + 1)) (by omega) (by omega) ?_
        exact kk _ _ _ ⟨_, _, _, _, _, _, _, _, _, _, hc, hm, hO⟩ hS (lv_sub hl [2, 3, 4, 5, 6] rfl)
      · exact absurd (show _ = nI 0 from c_1214) hk0
    · exact absurd rfl c_1207

set_option maxHeartbeats 4000000 in
set_option maxRecDepth 100000 in
theorem lc_toldSign {p : Program} {l : Launch} {e : Env} {s : State} {m : MethodId} {below : List Frame} {meth : Method} {c : Code} {b L : Nat} {xs : Nat → Int32} (hl0 : l.stackTraces = false) (hL : L ≤ 3072) (C0 : lw_At p s m meth c b L xs) (K : m_K) (hE : ENV K (fun q => s.heap.size ≤ q) s) (o : Nat) (ad : Nat → Nat) (om : Nat) (adm : Nat → Nat) (out : Nat) (hNo : s.heap.size ≤ om) (hoo : om ≤ out) (j : Nat) (hj : 6 * j + 6 ≤ L) {H : Heap} {locs : List Loc} {ls : Array Slot} (hSt : LSt K s.heap.size o ad om adm out H) (hS : va_S (fun q => s.heap.size ≤ q) s.heap H locs) (hl : lv_has ls 7 [(4, .int (nI (6 * j))), (0, .ref b), (1, .ref o), (2, .ref om), (3, .ref out)])
    (kk : ∀ (H1 : Heap) (locs1 : List Loc) (ls1 : Array Slot), LSt K s.heap.size o ad om adm out H1 → va_S (fun q => s.heap.size ≤ q) s.heap H1 locs1 → lv_has ls1 7 [(4, .int (nI (6 * j))), (0, .ref b), (1, .ref o), (2, .ref om), (3, .ref out)] → W p l e room_1 s m #[Value.ref b] below meth c H1 locs1 (64 + 18 * (j + 1)) (7000 + 220 * (j + 1)) (lw_Z below #[Value.ref b] s) (F0 m 1545 ls1 [])) :
    W p l e room_1 s m #[Value.ref b] below meth c H locs (64 + 18 * j) (7000 + 220 * j) (lw_Z below #[Value.ref b] s) (F0 m 1232 ls []) := by
  obtain ⟨hx, hb, hr, hml, hown, hts0, hX, hbl, hlocks, hgv⟩ := C0
  have hts : ∀ w ∈ wsL_law, w.before #[Value.ref b] s = true := fun w h => hts0 w (wsL_law_in w h)
  have hbA : ¬ (fun q : Nat => s.heap.size ≤ q) b := Nat.not_le.mpr hbl
  obtain ⟨fb, on, fw, dr, fm, vs, ch, ps, la, wo, hc, hm, hO⟩ := hSt
  refine lv_aload_n hx hb dL_law_1232 rfl (lv_at hl 2 rfl) ?_
  refine lv_aload_n hx hb dL_law_1233 rfl (lv_at hl 1 rfl) ?_
  refine lv_iload hx hb dL_law_1234 (lv_at hl 0 rfl) ?_
  refine lv_iconst (v := nI 1) hx hb dL_law_1236 (by decide) ?_
  refine m_iadd hx hb dL_law_1237 ?_
  refine m_sld hx hb hX hbl hbA hS (by omega) (by omega) dL_law_1238 ?_
  refine lv_aload_n hx hb dL_law_1239 rfl (lv_at hl 1 rfl) ?_
  refine lv_iload hx hb dL_law_1240 (lv_at hl 0 rfl) ?_
  refine lv_iconst (v := nI 2) hx hb dL_law_1242 (by decide) ?_
  refine m_iadd hx hb dL_law_1243 ?_
  refine m_sld hx hb hX hbl hbA hS (by omega) (by omega) dL_law_1244 ?_
  refine lv_aload_n hx hb dL_law_1245 rfl (lv_at hl 1 rfl) ?_
  refine lv_iload hx hb dL_law_1246 (lv_at hl 0 rfl) ?_
  refine lv_iconst (v := nI 3) hx hb dL_law_1248 (by decide) ?_
  refine m_iadd hx hb dL_law_1249 ?_
  refine m_sld hx hb hX hbl hbA hS (by omega) (by omega) dL_law_1250 ?_
  refine lv_aload_n hx hb dL_law_1251 rfl (lv_at hl 1 rfl) ?_
  refine lv_iload hx hb dL_law_1252 (lv_at hl 0 rfl) ?_
  refine lv_iconst (v := nI 4) hx hb dL_law_1254 (by decide) ?_
  refine m_iadd hx hb dL_law_1255 ?_
  refine m_sld hx hb hX hbl hbA hS (by omega) (by omega) dL_law_1256 ?_
  refine lv_aload_n hx hb dL_law_1257 rfl (lv_at hl 1 rfl) ?_
  refine lv_iload hx hb dL_law_1258 (lv_at hl 0 rfl) ?_
  refine lv_iconst (v := nI 5) hx hb dL_law_1260 (by decide) ?_
  refine m_iadd hx hb dL_law_1261 ?_
  refine m_sld hx hb hX hbl hbA hS (by omega) (by omega) dL_law_1262 ?_
  refine lv_aload_n hx hb dL_law_1263 rfl (lv_at hl 4 rfl) ?_
  refine m_cWi (rest := []) ⟨hx, hb, hml, hown, hts⟩ hE hS (fun q h => h.1) (kL_toldSign l K (AwF s.heap.size om out) _ hl0 (AcF s.heap.size om out) (fun q h => ⟨h.1, h.2.elim Or.inl (fun z => Or.inr (Nat.le_of_lt z))⟩) out ⟨Nat.le_trans hNo hoo, Or.inr (Nat.le_refl _)⟩ (fun z => by have z2 := z.2; omega) wo hO o ad fb on fw dr fm vs ch ps hc (fun q hq => ⟨Nat.le_trans hS.1 hq, Or.inr (Nat.lt_of_lt_of_le hO.lt hq)⟩) (xs ((6 * j) + 1)) (xs ((6 * j) + 2)) (xs ((6 * j) + 3)) (xs ((6 * j) + 4)) (xs ((6 * j) + 5))) (vx_cwSW 7 hts gL_law_L_toldSign rfl rfl rfl (by decide +kernel) ⟨Nat.le_of_ble_eq_true rfl, Nat.le_of_ble_eq_true rfl⟩) rfl rfl hl.1 rfl (Nat.le_of_ble_eq_true rfl) dL_law_1264 ⟨by show _ ≤ 601024; omega, by show _ ≤ 7293034; omega⟩ (fun r H1 locs hp hS hk => ?_)
  obtain ⟨wo, hO9, hr3⟩ := hp
  have hm := hm.kept (fun q hq h => hk q hq (fun z => by have h1 := h.1; have h2 := h.2; have z2 := z.2; omega))
  have hO := hO9
  clear hk
  refine lv_istore (lv' := [(5, .int r), (4, .int (nI (6 * j))), (0, .ref b), (1, .ref o), (2, .ref om), (3, .ref out)]) hx hb dL_law_1267 hl (by decide) rfl (fun ls hl => ?_)
  refine lv_aload_n hx hb dL_law_1269 rfl (lv_at hl 4 rfl) ?_
  refine lv_aload_n hx hb dL_law_1270 rfl (lv_at hl 2 rfl) ?_
  refine lv_iload hx hb dL_law_1271 (lv_at hl 1 rfl) ?_
  refine lv_iconst (v := nI 1) hx hb dL_law_1273 (by decide) ?_
  refine m_iadd hx hb dL_law_1274 ?_
  refine m_sld hx hb hX hbl hbA hS (by omega) (by omega) dL_law_1275 ?_
  refine lv_aload_n hx hb dL_law_1276 rfl (lv_at hl 2 rfl) ?_
  refine lv_iload hx hb dL_law_1277 (lv_at hl 1 rfl) ?_
  refine lv_iconst (v := nI 2) hx hb dL_law_1279 (by decide) ?_
  refine m_iadd hx hb dL_law_1280 ?_
  refine m_sld hx hb hX hbl hbA hS (by omega) (by omega) dL_law_1281 ?_
  refine lv_aload_n hx hb dL_law_1282 rfl (lv_at hl 2 rfl) ?_
  refine lv_iload hx hb dL_law_1283 (lv_at hl 1 rfl) ?_
  refine lv_iconst (v := nI 3) hx hb dL_law_1285 (by decide) ?_
  refine m_iadd hx hb dL_law_1286 ?_
  refine m_sld hx hb hX hbl hbA hS (by omega) (by omega) dL_law_1287 ?_
  refine lv_aload_n hx hb dL_law_1288 rfl (lv_at hl 2 rfl) ?_
  refine lv_iload hx hb dL_law_1289 (lv_at hl 1 rfl) ?_
  refine lv_iconst (v := nI 4) hx hb dL_law_1291 (by decide) ?_
  refine m_iadd hx hb dL_law_1292 ?_
  refine m_sld hx hb hX hbl hbA hS (by omega) (by omega) dL_law_1293 ?_
  refine lv_aload_n hx hb dL_law_1294 rfl (lv_at hl 2 rfl) ?_
  refine lv_iload hx hb dL_law_1295 (lv_at hl 1 rfl) ?_
  refine lv_iconst (v := nI 5) hx hb dL_law_1297 (by decide) ?_
  refine m_iadd hx hb dL_law_1298 ?_
  refine m_sld hx hb hX hbl hbA hS (by omega) (by omega) dL_law_1299 ?_
  obtain ⟨f8, d8, pr8, ta8, ti8, hPm, hDm, hRm⟩ := id hm
  refine m_cVi (rest := []) ⟨hx, hb, hml, hown, hts⟩ hE hS (fun q h => Nat.le_trans hNo h.1) (kX3_toldSign l K (AmF om out) _ om adm fb on fw dr fm vs ch ps la hm (xs ((6 * j) + 1)) (xs ((6 * j) + 2)) (xs ((6 * j) + 3)) (xs ((6 * j) + 4)) (xs ((6 * j) + 5))) (cwV 5 hts gL_law_X3_toldSign rfl rfl rfl (by decide +kernel) ⟨Nat.le_of_ble_eq_true rfl, Nat.le_of_ble_eq_true rfl⟩) (va_recv hE.k hPm (ci := 4) (q0 := 0) rfl rfl) rfl rfl hl.1 rfl (Nat.le_of_ble_eq_true rfl) dL_law_1300 ⟨by show _ ≤ 601024; omega, by show _ ≤ 7293034; omega⟩ (fun r9 H2 locs hp hS hk2 => ?_)
  obtain ⟨k9, hq3⟩ := hp
  obtain ⟨hkk, hcase⟩ := r3_two hr3 hq3
  subst hkk
  have hO : OUT K out wo _ := hO.k1 (hk2 out hO.lt (fun z => absurd z.2 (Nat.lt_irrefl _)))
  rcases hcase with ⟨hk0, ⟨v, hv, hans, hc⟩, hans2, hm⟩ | ⟨hk0, hc, hm⟩
  · have hc := hc.kept (fun q hq h => hk2 q hq (fun z => by have h2 := h.2; have z1 := z.1; have z2 := z.2; omega))
    subst hk0
    have hvr := Option.some.inj (hans.symm.trans hans2)
    rw [hvr] at hv
    refine lv_istore (lv' := [(6, .int r9), (5, .int (nI 0)), (4, .int (nI (6 * j))), (0, .ref b), (1, .ref o), (2, .ref om), (3, .ref out)]) hx hb dL_law_1303 hl (by decide) rfl (fun ls hl => ?_)
    refine lv_aload_n hx hb dL_law_1305 rfl (lv_at hl 5 rfl) ?_
    obtain ⟨f7, d7, pr7, ta7, ti7, hPm, hDm, hRm⟩ := id hm
    refine m_cVi (rest := []) ⟨hx, hb, hml, hown, hts⟩ hE hS (fun q h => Nat.le_trans hNo h.1) (kX3_thrown l K (AmF om out) _ om adm f7 d7 pr7 ta7 ti7 _ hPm) (cwV 0 hts gL_law_X3_thrown rfl rfl rfl (by decide +kernel) ⟨Nat.le_of_ble_eq_true rfl, Nat.le_of_ble_eq_true rfl⟩) (va_recv hE.k hPm (ci := 4) (q0 := 0) rfl rfl) rfl rfl hl.1 rfl (Nat.le_of_ble_eq_true rfl) dL_law_1306 ⟨by show _ ≤ 601024; omega, by show _ ≤ 7293034; omega⟩ (fun r8 H3 locs hp hS hk3 => ?_)
    obtain ⟨rfl, rfl⟩ := hp
    refine lv_iload hx hb dL_law_1309 (lv_at hl 1 rfl) ?_
    refine m_icmp_eq (tgt := 1316) hx hb (by omega) (by omega) dL_law_1311 (by decide) (fun c_1311 => ?_) (fun c_1311 => ?_)
    · refine lv_iload hx hb dL_law_1316 (lv_at hl 1 rfl) ?_
      refine m_if_ne (tgt := 1333) hx hb (by omega) dL_law_1318 (by decide) (fun c_1318 => ?_) (fun c_1318 => ?_)
      · exact absurd rfl c_1318
      · refine lv_aload_n hx hb dL_law_1321 rfl (lv_at hl 6 rfl) ?_
        refine lv_iconst (v := nI 0) hx hb dL_law_1322 (by decide) ?_
        refine m_lald1 hx hb hE.k hO hv dL_law_1323 ?_
        refine lv_iload hx hb dL_law_1324 (lv_at hl 0 rfl) ?_
        refine lv_i2l hx hb dL_law_1326 rfl ?_
        refine m_lcmp0 hx hb dL_law_1327 ?_
        refine lv_if_eq (tgt := 1333) hx hb dL_law_1328 (by decide) (fun c_1328 => ?_) (fun c_1328 => ?_)
        · refine lv_goto (tgt := 1545) hx hb dL_law_1333 (by decide) ?_
          refine W.widen (k := 64 + 18 * (j + 1)) (n := 7000 + 220 * (j + 1)) (by omega) (by omega) ?_
          exact kk _ _ _ ⟨_, _, _, _, _, _, _, _, _, _, hc, hm, hO⟩ hS (lv_sub hl [2, 3, 4, 5, 6] rfl)
        · exact absurd rfl c_1328
    · exact absurd rfl c_1311
  · have hc := hc.kept (fun q hq h => hk2 q hq (fun z => by have h2 := h.2; have z1 := z.1; have z2 := z.2; omega))
    refine lv_istore (lv' := [(6, .int r9), (5, .int r), (4, .int (nI (6 * j))), (0, .ref b), (1, .ref o), (2, .ref om), (3, .ref out)]) hx hb dL_law_1303 hl (by decide) rfl (fun ls hl => ?_)
    refine lv_aload_n hx hb dL_law_1305 rfl (lv_at hl 5 rfl) ?_
    obtain ⟨f7, d7, pr7, ta7, ti7, hPm, hDm, hRm⟩ := id hm
    refine m_cVi (rest := []) ⟨hx, hb, hml, hown, hts⟩ hE hS (fun q h => Nat.le_trans hNo h.1) (kX3_thrown l K (AmF om out) _ om adm f7 d7 pr7 ta7 ti7 _ hPm) (cwV 0 hts gL_law_X3_thrown rfl rfl rfl (by decide +kernel) ⟨Nat.le_of_ble_eq_true rfl, Nat.le_of_ble_eq_true rfl⟩) (va_recv hE.k hPm (ci := 4) (q0 := 0) rfl rfl) rfl rfl hl.1 rfl (Nat.le_of_ble_eq_true rfl) dL_law_1306 ⟨by show _ ≤ 601024; omega, by show _ ≤ 7293034; omega⟩ (fun r8 H3 locs hp hS hk3 => ?_)
    obtain ⟨rfl, rfl⟩ := hp
    refine lv_iload hx hb dL_law_1309 (lv_at hl 1 rfl) ?_
    refine lv_icmp_eq (tgt := 1316) hx hb dL_law_1311 (by decide) (fun c_1311 => ?_) (fun c_1311 => ?_)
    · refine lv_iload hx hb dL_law_1316 (lv_at hl 1 rfl) ?_
      refine lv_if_ne (tgt := 1333) hx hb dL_law_1318 (by decide) (fun c_1318 => ?_) (fun c_1318 => ?_)
      · refine lv_goto (tgt := 1545) hx hb dL_law_1333 (by decide) ?_
        refine W.widen (k := 64 + 18 * (j + 1)) (n := 7000 + 220 * (j + 1)) (by omega) (by omega) ?_
        exact kk _ _ _ ⟨_, _, _, _, _, _, _, _, _, _, hc, hm, hO⟩ hS (lv_sub hl [2, 3, 4, 5, 6] rfl)
      · exact absurd (show _ = nI 0 from c_1318) hk0
    · exact absurd rfl c_1311

set_option maxHeartbeats 4000000 in
set_option maxRecDepth 100000 in
theorem lc_pairs {p : Program} {l : Launch} {e : Env} {s : State} {m : MethodId} {below : List Frame} {meth : Method} {c : Code} {b L : Nat} {xs : Nat → Int32} (hl0 : l.stackTraces = false) (hL : L ≤ 3072) (C0 : lw_At p s m meth c b L xs) (K : m_K) (hE : ENV K (fun q => s.heap.size ≤ q) s) (o : Nat) (ad : Nat → Nat) (om : Nat) (adm : Nat → Nat) (out : Nat) (hNo : s.heap.size ≤ om) (hoo : om ≤ out) (j : Nat) (hj : 6 * j + 6 ≤ L) {H : Heap} {locs : List Loc} {ls : Array Slot} (hSt : LSt K s.heap.size o ad om adm out H) (hS : va_S (fun q => s.heap.size ≤ q) s.heap H locs) (hl : lv_has ls 7 [(4, .int (nI (6 * j))), (0, .ref b), (1, .ref o), (2, .ref om), (3, .ref out)])
    (kk : ∀ (H1 : Heap) (locs1 : List Loc) (ls1 : Array Slot), LSt K s.heap.size o ad om adm out H1 → va_S (fun q => s.heap.size ≤ q) s.heap H1 locs1 → lv_has ls1 7 [(4, .int (nI (6 * j))), (0, .ref b), (1, .ref o), (2, .ref om), (3, .ref out)] → W p l e room_1 s m #[Value.ref b] below meth c H1 locs1 (64 + 18 * (j + 1)) (7000 + 220 * (j + 1)) (lw_Z below #[Value.ref b] s) (F0 m 1545 ls1 [])) :
    W p l e room_1 s m #[Value.ref b] below meth c H locs (64 + 18 * j) (7000 + 220 * j) (lw_Z below #[Value.ref b] s) (F0 m 1336 ls []) := by
  obtain ⟨hx, hb, hr, hml, hown, hts0, hX, hbl, hlocks, hgv⟩ := C0
  have hts : ∀ w ∈ wsL_law, w.before #[Value.ref b] s = true := fun w h => hts0 w (wsL_law_in w h)
  have hbA : ¬ (fun q : Nat => s.heap.size ≤ q) b := Nat.not_le.mpr hbl
  obtain ⟨fb, on, fw, dr, fm, vs, ch, ps, la, wo, hc, hm, hO⟩ := hSt
  refine lv_aload_n hx hb dL_law_1336 rfl (lv_at hl 2 rfl) ?_
  obtain ⟨f9, d9, ft9, li9, T9, hPc, hDc, hRc⟩ := id hc
  refine m_cVi (rest := []) ⟨hx, hb, hml, hown, hts⟩ hE hS (fun q h => h.1) (kX2_pairs l K (AcF s.heap.size om out) _ o ad fb on fw dr fm vs ch ps hc) (cwV 0 hts gL_law_X2_pairs rfl rfl rfl (by decide +kernel) ⟨Nat.le_of_ble_eq_true rfl, Nat.le_of_ble_eq_true rfl⟩) (va_recv hE.k hPc (ci := 3) (q0 := 0) rfl rfl) rfl rfl hl.1 rfl (Nat.le_of_ble_eq_true rfl) dL_law_1337 ⟨by show _ ≤ 601024; omega, by show _ ≤ 7293034; omega⟩ (fun r H1 locs hp hS hk => ?_)
  obtain ⟨rfl, rfl⟩ := hp
  clear hk
  refine lv_aload_n hx hb dL_law_1340 rfl (lv_at hl 3 rfl) ?_
  obtain ⟨f8, d8, pr8, ta8, ti8, hPm, hDm, hRm⟩ := id hm
  refine m_cVi (rest := [.int (nI ps.length)]) ⟨hx, hb, hml, hown, hts⟩ hE hS (fun q h => Nat.le_trans hNo h.1) (kX3_pairs l K (AmF om out) _ om adm fb on fw dr fm vs ch ps la hm) (cwV 0 hts gL_law_X3_pairs rfl rfl rfl (by decide +kernel) ⟨Nat.le_of_ble_eq_true rfl, Nat.le_of_ble_eq_true rfl⟩) (va_recv hE.k hPm (ci := 4) (q0 := 0) rfl rfl) rfl rfl hl.1 rfl (Nat.le_of_ble_eq_true rfl) dL_law_1341 ⟨by show _ ≤ 601024; omega, by show _ ≤ 7293034; omega⟩ (fun r9 H2 locs hp hS hk2 => ?_)
  obtain ⟨rfl, hm⟩ := hp
  have hc := hc.kept (fun q hq h => hk2 q hq (fun z => by have h2 := h.2; have z1 := z.1; have z2 := z.2; omega))
  have hO : OUT K out wo _ := hO.k1 (hk2 out hO.lt (fun z => absurd z.2 (Nat.lt_irrefl _)))
  refine lv_icmp_eq (tgt := 1545) hx hb dL_law_1344 (by decide) (fun c_1344 => ?_) (fun c_1344 => ?_)
  · refine W.widen (k := 64 + 18 * (j + 1)) (n := 7000 + 220 * (j + 1)) (by omega) (by omega) ?_
    exact kk _ _ _ ⟨_, _, _, _, _, _, _, _, _, _, hc, hm, hO⟩ hS (lv_sub hl [0, 1, 2, 3, 4] rfl)
  · exact absurd rfl c_1344

set_option maxHeartbeats 4000000 in
set_option maxRecDepth 100000 in
theorem lc_nearDistance {p : Program} {l : Launch} {e : Env} {s : State} {m : MethodId} {below : List Frame} {meth : Method} {c : Code} {b L : Nat} {xs : Nat → Int32} (hl0 : l.stackTraces = false) (hL : L ≤ 3072) (C0 : lw_At p s m meth c b L xs) (K : m_K) (hE : ENV K (fun q => s.heap.size ≤ q) s) (o : Nat) (ad : Nat → Nat) (om : Nat) (adm : Nat → Nat) (out : Nat) (hNo : s.heap.size ≤ om) (hoo : om ≤ out) (j : Nat) (hj : 6 * j + 6 ≤ L) {H : Heap} {locs : List Loc} {ls : Array Slot} (hSt : LSt K s.heap.size o ad om adm out H) (hS : va_S (fun q => s.heap.size ≤ q) s.heap H locs) (hl : lv_has ls 7 [(4, .int (nI (6 * j))), (0, .ref b), (1, .ref o), (2, .ref om), (3, .ref out)])
    (kk : ∀ (H1 : Heap) (locs1 : List Loc) (ls1 : Array Slot), LSt K s.heap.size o ad om adm out H1 → va_S (fun q => s.heap.size ≤ q) s.heap H1 locs1 → lv_has ls1 7 [(4, .int (nI (6 * j))), (0, .ref b), (1, .ref o), (2, .ref om), (3, .ref out)] → W p l e room_1 s m #[Value.ref b] below meth c H1 locs1 (64 + 18 * (j + 1)) (7000 + 220 * (j + 1)) (lw_Z below #[Value.ref b] s) (F0 m 1545 ls1 [])) :
    W p l e room_1 s m #[Value.ref b] below meth c H locs (64 + 18 * j) (7000 + 220 * j) (lw_Z below #[Value.ref b] s) (F0 m 1349 ls []) := by
  obtain ⟨hx, hb, hr, hml, hown, hts0, hX, hbl, hlocks, hgv⟩ := C0
  have hts : ∀ w ∈ wsL_law, w.before #[Value.ref b] s = true := fun w h => hts0 w (wsL_law_in w h)
  have hbA : ¬ (fun q : Nat => s.heap.size ≤ q) b := Nat.not_le.mpr hbl
  obtain ⟨fb, on, fw, dr, fm, vs, ch, ps, la, wo, hc, hm, hO⟩ := hSt
  refine lv_aload_n hx hb dL_law_1349 rfl (lv_at hl 2 rfl) ?_
  refine lv_aload_n hx hb dL_law_1350 rfl (lv_at hl 1 rfl) ?_
  refine lv_iload hx hb dL_law_1351 (lv_at hl 0 rfl) ?_
  refine lv_iconst (v := nI 1) hx hb dL_law_1353 (by decide) ?_
  refine m_iadd hx hb dL_law_1354 ?_
  refine m_sld hx hb hX hbl hbA hS (by omega) (by omega) dL_law_1355 ?_
  refine lv_aload_n hx hb dL_law_1356 rfl (lv_at hl 1 rfl) ?_
  refine lv_iload hx hb dL_law_1357 (lv_at hl 0 rfl) ?_
  refine lv_iconst (v := nI 2) hx hb dL_law_1359 (by decide) ?_
  refine m_iadd hx hb dL_law_1360 ?_
  refine m_sld hx hb hX hbl hbA hS (by omega) (by omega) dL_law_1361 ?_
  refine lv_aload_n hx hb dL_law_1362 rfl (lv_at hl 1 rfl) ?_
  refine lv_iload hx hb dL_law_1363 (lv_at hl 0 rfl) ?_
  refine lv_iconst (v := nI 3) hx hb dL_law_1365 (by decide) ?_
  refine m_iadd hx hb dL_law_1366 ?_
  refine m_sld hx hb hX hbl hbA hS (by omega) (by omega) dL_law_1367 ?_
  refine lv_aload_n hx hb dL_law_1368 rfl (lv_at hl 1 rfl) ?_
  refine lv_iload hx hb dL_law_1369 (lv_at hl 0 rfl) ?_
  refine lv_iconst (v := nI 4) hx hb dL_law_1371 (by decide) ?_
  refine m_iadd hx hb dL_law_1372 ?_
  refine m_sld hx hb hX hbl hbA hS (by omega) (by omega) dL_law_1373 ?_
  refine lv_aload_n hx hb dL_law_1374 rfl (lv_at hl 4 rfl) ?_
  refine m_cWi (rest := []) ⟨hx, hb, hml, hown, hts⟩ hE hS (fun q h => h.1) (kL_nearDistance l K (AwF s.heap.size om out) _ hl0 (AcF s.heap.size om out) (fun q h => ⟨h.1, h.2.elim Or.inl (fun z => Or.inr (Nat.le_of_lt z))⟩) out ⟨Nat.le_trans hNo hoo, Or.inr (Nat.le_refl _)⟩ (fun z => by have z2 := z.2; omega) wo hO o ad fb on fw dr fm vs ch ps hc (fun q hq => ⟨Nat.le_trans hS.1 hq, Or.inr (Nat.lt_of_lt_of_le hO.lt hq)⟩) (xs ((6 * j) + 1)) (xs ((6 * j) + 2)) (xs ((6 * j) + 3)) (xs ((6 * j) + 4))) (vx_cwSW 6 hts gL_law_L_nearDistance rfl rfl rfl (by decide +kernel) ⟨Nat.le_of_ble_eq_true rfl, Nat.le_of_ble_eq_true rfl⟩) rfl rfl hl.1 rfl (Nat.le_of_ble_eq_true rfl) dL_law_1375 ⟨by show _ ≤ 601024; omega, by show _ ≤ 7293034; omega⟩ (fun r H1 locs hp hS hk => ?_)
  obtain ⟨wo, hO9, hr3⟩ := hp
  have hm := hm.kept (fun q hq h => hk q hq (fun z => by have h1 := h.1; have h2 := h.2; have z2 := z.2; omega))
  have hO := hO9
  clear hk
  refine lv_istore (lv' := [(5, .int r), (4, .int (nI (6 * j))), (0, .ref b), (1, .ref o), (2, .ref om), (3, .ref out)]) hx hb dL_law_1378 hl (by decide) rfl (fun ls hl => ?_)
  refine lv_aload_n hx hb dL_law_1380 rfl (lv_at hl 4 rfl) ?_
  refine lv_aload_n hx hb dL_law_1381 rfl (lv_at hl 2 rfl) ?_
  refine lv_iload hx hb dL_law_1382 (lv_at hl 1 rfl) ?_
  refine lv_iconst (v := nI 1) hx hb dL_law_1384 (by decide) ?_
  refine m_iadd hx hb dL_law_1385 ?_
  refine m_sld hx hb hX hbl hbA hS (by omega) (by omega) dL_law_1386 ?_
  refine lv_aload_n hx hb dL_law_1387 rfl (lv_at hl 2 rfl) ?_
  refine lv_iload hx hb dL_law_1388 (lv_at hl 1 rfl) ?_
  refine lv_iconst (v := nI 2) hx hb dL_law_1390 (by decide) ?_
  refine m_iadd hx hb dL_law_1391 ?_
  refine m_sld hx hb hX hbl hbA hS (by omega) (by omega) dL_law_1392 ?_
  refine lv_aload_n hx hb dL_law_1393 rfl (lv_at hl 2 rfl) ?_
  refine lv_iload hx hb dL_law_1394 (lv_at hl 1 rfl) ?_
  refine lv_iconst (v := nI 3) hx hb dL_law_1396 (by decide) ?_
  refine m_iadd hx hb dL_law_1397 ?_
  refine m_sld hx hb hX hbl hbA hS (by omega) (by omega) dL_law_1398 ?_
  refine lv_aload_n hx hb dL_law_1399 rfl (lv_at hl 2 rfl) ?_
  refine lv_iload hx hb dL_law_1400 (lv_at hl 1 rfl) ?_
  refine lv_iconst (v := nI 4) hx hb dL_law_1402 (by decide) ?_
  refine m_iadd hx hb dL_law_1403 ?_
  refine m_sld hx hb hX hbl hbA hS (by omega) (by omega) dL_law_1404 ?_
  obtain ⟨f8, d8, pr8, ta8, ti8, hPm, hDm, hRm⟩ := id hm
  refine m_cVi (rest := []) ⟨hx, hb, hml, hown, hts⟩ hE hS (fun q h => Nat.le_trans hNo h.1) (kX3_nearDistance l K (AmF om out) _ om adm fb on fw dr fm vs ch ps la hm (xs ((6 * j) + 1)) (xs ((6 * j) + 2)) (xs ((6 * j) + 3)) (xs ((6 * j) + 4))) (cwV 4 hts gL_law_X3_nearDistance rfl rfl rfl (by decide +kernel) ⟨Nat.le_of_ble_eq_true rfl, Nat.le_of_ble_eq_true rfl⟩) (va_recv hE.k hPm (ci := 4) (q0 := 0) rfl rfl) rfl rfl hl.1 rfl (Nat.le_of_ble_eq_true rfl) dL_law_1405 ⟨by show _ ≤ 601024; omega, by show _ ≤ 7293034; omega⟩ (fun r9 H2 locs hp hS hk2 => ?_)
  obtain ⟨k9, hq3⟩ := hp
  obtain ⟨hkk, hcase⟩ := r3_two hr3 hq3
  subst hkk
  have hO : OUT K out wo _ := hO.k1 (hk2 out hO.lt (fun z => absurd z.2 (Nat.lt_irrefl _)))
  rcases hcase with ⟨hk0, ⟨v, hv, hans, hc⟩, hans2, hm⟩ | ⟨hk0, hc, hm⟩
  · have hc := hc.kept (fun q hq h => hk2 q hq (fun z => by have h2 := h.2; have z1 := z.1; have z2 := z.2; omega))
    subst hk0
    have hvr := hans.trans hans2.symm
    rw [hvr] at hv
    refine lv_istore (lv' := [(6, .int r9), (5, .int (nI 0)), (4, .int (nI (6 * j))), (0, .ref b), (1, .ref o), (2, .ref om), (3, .ref out)]) hx hb dL_law_1408 hl (by decide) rfl (fun ls hl => ?_)
    refine lv_aload_n hx hb dL_law_1410 rfl (lv_at hl 5 rfl) ?_
    obtain ⟨f7, d7, pr7, ta7, ti7, hPm, hDm, hRm⟩ := id hm
    refine m_cVi (rest := []) ⟨hx, hb, hml, hown, hts⟩ hE hS (fun q h => Nat.le_trans hNo h.1) (kX3_thrown l K (AmF om out) _ om adm f7 d7 pr7 ta7 ti7 _ hPm) (cwV 0 hts gL_law_X3_thrown rfl rfl rfl (by decide +kernel) ⟨Nat.le_of_ble_eq_true rfl, Nat.le_of_ble_eq_true rfl⟩) (va_recv hE.k hPm (ci := 4) (q0 := 0) rfl rfl) rfl rfl hl.1 rfl (Nat.le_of_ble_eq_true rfl) dL_law_1411 ⟨by show _ ≤ 601024; omega, by show _ ≤ 7293034; omega⟩ (fun r8 H3 locs hp hS hk3 => ?_)
    obtain ⟨rfl, rfl⟩ := hp
    refine lv_iload hx hb dL_law_1414 (lv_at hl 1 rfl) ?_
    refine m_icmp_eq (tgt := 1421) hx hb (by omega) (by omega) dL_law_1416 (by decide) (fun c_1416 => ?_) (fun c_1416 => ?_)
    · refine lv_iload hx hb dL_law_1421 (lv_at hl 1 rfl) ?_
      refine m_if_ne (tgt := 1438) hx hb (by omega) dL_law_1423 (by decide) (fun c_1423 => ?_) (fun c_1423 => ?_)
      · exact absurd rfl c_1423
      · refine lv_aload_n hx hb dL_law_1426 rfl (lv_at hl 6 rfl) ?_
        refine lv_iconst (v := nI 0) hx hb dL_law_1427 (by decide) ?_
        refine m_lald1 hx hb hE.k hO hv dL_law_1428 ?_
        refine lv_iload hx hb dL_law_1429 (lv_at hl 0 rfl) ?_
        refine lv_i2l hx hb dL_law_1431 rfl ?_
        refine m_lcmp0 hx hb dL_law_1432 ?_
        refine lv_if_eq (tgt := 1438) hx hb dL_law_1433 (by decide) (fun c_1433 => ?_) (fun c_1433 => ?_)
        · refine lv_goto (tgt := 1545) hx hb dL_law_1438 (by decide) ?_
          refine W.widen (k := 64 + 18 * (j + 1)) (n := 7000 + 220 * (j + 1)) (by omega) (by omega) ?_
          exact kk _ _ _ ⟨_, _, _, _, _, _, _, _, _, _, hc, hm, hO⟩ hS (lv_sub hl [2, 3, 4, 5, 6] rfl)
        · exact absurd rfl c_1433
    · exact absurd rfl c_1416
  · have hc := hc.kept (fun q hq h => hk2 q hq (fun z => by have h2 := h.2; have z1 := z.1; have z2 := z.2; omega))
    refine lv_istore (lv' := [(6, .int r9), (5, .int r), (4, .int (nI (6 * j))), (0, .ref b), (1, .ref o), (2, .ref om), (3, .ref out)]) hx hb dL_law_1408 hl (by decide) rfl (fun ls hl => ?_)
    refine lv_aload_n hx hb dL_law_1410 rfl (lv_at hl 5 rfl) ?_
    obtain ⟨f7, d7, pr7, ta7, ti7, hPm, hDm, hRm⟩ := id hm
    refine m_cVi (rest := []) ⟨hx, hb, hml, hown, hts⟩ hE hS (fun q h => Nat.le_trans hNo h.1) (kX3_thrown l K (AmF om out) _ om adm f7 d7 pr7 ta7 ti7 _ hPm) (cwV 0 hts gL_law_X3_thrown rfl rfl rfl (by decide +kernel) ⟨Nat.le_of_ble_eq_true rfl, Nat.le_of_ble_eq_true rfl⟩) (va_recv hE.k hPm (ci := 4) (q0 := 0) rfl rfl) rfl rfl hl.1 rfl (Nat.le_of_ble_eq_true rfl) dL_law_1411 ⟨by show _ ≤ 601024; omega, by show _ ≤ 7293034; omega⟩ (fun r8 H3 locs hp hS hk3 => ?_)
    obtain ⟨rfl, rfl⟩ := hp
    refine lv_iload hx hb dL_law_1414 (lv_at hl 1 rfl) ?_
    refine lv_icmp_eq (tgt := 1421) hx hb dL_law_1416 (by decide) (fun c_1416 => ?_) (fun c_1416 => ?_)
    · refine lv_iload hx hb dL_law_1421 (lv_at hl 1 rfl) ?_
      refine lv_if_ne (tgt := 1438) hx hb dL_law_1423 (by decide) (fun c_1423 => ?_) (fun c_1423 => ?_)
      · refine lv_goto (tgt := 1545) hx hb dL_law_1438 (by decide) ?_
        refine W.widen (k := 64 + 18 * (j + 1)) (n := 7000 + 220 * (j + 1)) (by omega) (by omega) ?_
        exact kk _ _ _ ⟨_, _, _, _, _, _, _, _, _, _, hc, hm, hO⟩ hS (lv_sub hl [2, 3, 4, 5, 6] rfl)
      · exact absurd (show _ = nI 0 from c_1423) hk0
    · exact absurd rfl c_1416

set_option maxHeartbeats 4000000 in
set_option maxRecDepth 100000 in
theorem lc_nearSign {p : Program} {l : Launch} {e : Env} {s : State} {m : MethodId} {below : List Frame} {meth : Method} {c : Code} {b L : Nat} {xs : Nat → Int32} (hl0 : l.stackTraces = false) (hL : L ≤ 3072) (C0 : lw_At p s m meth c b L xs) (K : m_K) (hE : ENV K (fun q => s.heap.size ≤ q) s) (o : Nat) (ad : Nat → Nat) (om : Nat) (adm : Nat → Nat) (out : Nat) (hNo : s.heap.size ≤ om) (hoo : om ≤ out) (j : Nat) (hj : 6 * j + 6 ≤ L) {H : Heap} {locs : List Loc} {ls : Array Slot} (hSt : LSt K s.heap.size o ad om adm out H) (hS : va_S (fun q => s.heap.size ≤ q) s.heap H locs) (hl : lv_has ls 7 [(4, .int (nI (6 * j))), (0, .ref b), (1, .ref o), (2, .ref om), (3, .ref out)])
    (kk : ∀ (H1 : Heap) (locs1 : List Loc) (ls1 : Array Slot), LSt K s.heap.size o ad om adm out H1 → va_S (fun q => s.heap.size ≤ q) s.heap H1 locs1 → lv_has ls1 7 [(4, .int (nI (6 * j))), (0, .ref b), (1, .ref o), (2, .ref om), (3, .ref out)] → W p l e room_1 s m #[Value.ref b] below meth c H1 locs1 (64 + 18 * (j + 1)) (7000 + 220 * (j + 1)) (lw_Z below #[Value.ref b] s) (F0 m 1545 ls1 [])) :
    W p l e room_1 s m #[Value.ref b] below meth c H locs (64 + 18 * j) (7000 + 220 * j) (lw_Z below #[Value.ref b] s) (F0 m 1441 ls []) := by
  obtain ⟨hx, hb, hr, hml, hown, hts0, hX, hbl, hlocks, hgv⟩ := C0
  have hts : ∀ w ∈ wsL_law, w.before #[Value.ref b] s = true := fun w h => hts0 w (wsL_law_in w h)
  have hbA : ¬ (fun q : Nat => s.heap.size ≤ q) b := Nat.not_le.mpr hbl
  obtain ⟨fb, on, fw, dr, fm, vs, ch, ps, la, wo, hc, hm, hO⟩ := hSt
  refine lv_aload_n hx hb dL_law_1441 rfl (lv_at hl 2 rfl) ?_
  refine lv_aload_n hx hb dL_law_1442 rfl (lv_at hl 1 rfl) ?_
  refine lv_iload hx hb dL_law_1443 (lv_at hl 0 rfl) ?_
  refine lv_iconst (v := nI 1) hx hb dL_law_1445 (by decide) ?_
  refine m_iadd hx hb dL_law_1446 ?_
  refine m_sld hx hb hX hbl hbA hS (by omega) (by omega) dL_law_1447 ?_
  refine lv_aload_n hx hb dL_law_1448 rfl (lv_at hl 1 rfl) ?_
  refine lv_iload hx hb dL_law_1449 (lv_at hl 0 rfl) ?_
  refine lv_iconst (v := nI 2) hx hb dL_law_1451 (by decide) ?_
  refine m_iadd hx hb dL_law_1452 ?_
  refine m_sld hx hb hX hbl hbA hS (by omega) (by omega) dL_law_1453 ?_
  refine lv_aload_n hx hb dL_law_1454 rfl (lv_at hl 1 rfl) ?_
  refine lv_iload hx hb dL_law_1455 (lv_at hl 0 rfl) ?_
  refine lv_iconst (v := nI 3) hx hb dL_law_1457 (by decide) ?_
  refine m_iadd hx hb dL_law_1458 ?_
  refine m_sld hx hb hX hbl hbA hS (by omega) (by omega) dL_law_1459 ?_
  refine lv_aload_n hx hb dL_law_1460 rfl (lv_at hl 1 rfl) ?_
  refine lv_iload hx hb dL_law_1461 (lv_at hl 0 rfl) ?_
  refine lv_iconst (v := nI 4) hx hb dL_law_1463 (by decide) ?_
  refine m_iadd hx hb dL_law_1464 ?_
  refine m_sld hx hb hX hbl hbA hS (by omega) (by omega) dL_law_1465 ?_
  refine lv_aload_n hx hb dL_law_1466 rfl (lv_at hl 1 rfl) ?_
  refine lv_iload hx hb dL_law_1467 (lv_at hl 0 rfl) ?_
  refine lv_iconst (v := nI 5) hx hb dL_law_1469 (by decide) ?_
  refine m_iadd hx hb dL_law_1470 ?_
  refine m_sld hx hb hX hbl hbA hS (by omega) (by omega) dL_law_1471 ?_
  refine lv_aload_n hx hb dL_law_1472 rfl (lv_at hl 4 rfl) ?_
  refine m_cWi (rest := []) ⟨hx, hb, hml, hown, hts⟩ hE hS (fun q h => h.1) (kL_nearSign l K (AwF s.heap.size om out) _ hl0 (AcF s.heap.size om out) (fun q h => ⟨h.1, h.2.elim Or.inl (fun z => Or.inr (Nat.le_of_lt z))⟩) out ⟨Nat.le_trans hNo hoo, Or.inr (Nat.le_refl _)⟩ (fun z => by have z2 := z.2; omega) wo hO o ad fb on fw dr fm vs ch ps hc (fun q hq => ⟨Nat.le_trans hS.1 hq, Or.inr (Nat.lt_of_lt_of_le hO.lt hq)⟩) (xs ((6 * j) + 1)) (xs ((6 * j) + 2)) (xs ((6 * j) + 3)) (xs ((6 * j) + 4)) (xs ((6 * j) + 5))) (vx_cwSW 7 hts gL_law_L_nearSign rfl rfl rfl (by decide +kernel) ⟨Nat.le_of_ble_eq_true rfl, Nat.le_of_ble_eq_true rfl⟩) rfl rfl hl.1 rfl (Nat.le_of_ble_eq_true rfl) dL_law_1473 ⟨by show _ ≤ 601024; omega, by show _ ≤ 7293034; omega⟩ (fun r H1 locs hp hS hk => ?_)
  obtain ⟨wo, hO9, hr3⟩ := hp
  have hm := hm.kept (fun q hq h => hk q hq (fun z => by have h1 := h.1; have h2 := h.2; have z2 := z.2; omega))
  have hO := hO9
  clear hk
  refine lv_istore (lv' := [(5, .int r), (4, .int (nI (6 * j))), (0, .ref b), (1, .ref o), (2, .ref om), (3, .ref out)]) hx hb dL_law_1476 hl (by decide) rfl (fun ls hl => ?_)
  refine lv_aload_n hx hb dL_law_1478 rfl (lv_at hl 4 rfl) ?_
  refine lv_aload_n hx hb dL_law_1479 rfl (lv_at hl 2 rfl) ?_
  refine lv_iload hx hb dL_law_1480 (lv_at hl 1 rfl) ?_
  refine lv_iconst (v := nI 1) hx hb dL_law_1482 (by decide) ?_
  refine m_iadd hx hb dL_law_1483 ?_
  refine m_sld hx hb hX hbl hbA hS (by omega) (by omega) dL_law_1484 ?_
  refine lv_aload_n hx hb dL_law_1485 rfl (lv_at hl 2 rfl) ?_
  refine lv_iload hx hb dL_law_1486 (lv_at hl 1 rfl) ?_
  refine lv_iconst (v := nI 2) hx hb dL_law_1488 (by decide) ?_
  refine m_iadd hx hb dL_law_1489 ?_
  refine m_sld hx hb hX hbl hbA hS (by omega) (by omega) dL_law_1490 ?_
  refine lv_aload_n hx hb dL_law_1491 rfl (lv_at hl 2 rfl) ?_
  refine lv_iload hx hb dL_law_1492 (lv_at hl 1 rfl) ?_
  refine lv_iconst (v := nI 3) hx hb dL_law_1494 (by decide) ?_
  refine m_iadd hx hb dL_law_1495 ?_
  refine m_sld hx hb hX hbl hbA hS (by omega) (by omega) dL_law_1496 ?_
  refine lv_aload_n hx hb dL_law_1497 rfl (lv_at hl 2 rfl) ?_
  refine lv_iload hx hb dL_law_1498 (lv_at hl 1 rfl) ?_
  refine lv_iconst (v := nI 4) hx hb dL_law_1500 (by decide) ?_
  refine m_iadd hx hb dL_law_1501 ?_
  refine m_sld hx hb hX hbl hbA hS (by omega) (by omega) dL_law_1502 ?_
  refine lv_aload_n hx hb dL_law_1503 rfl (lv_at hl 2 rfl) ?_
  refine lv_iload hx hb dL_law_1504 (lv_at hl 1 rfl) ?_
  refine lv_iconst (v := nI 5) hx hb dL_law_1506 (by decide) ?_
  refine m_iadd hx hb dL_law_1507 ?_
  refine m_sld hx hb hX hbl hbA hS (by omega) (by omega) dL_law_1508 ?_
  obtain ⟨f8, d8, pr8, ta8, ti8, hPm, hDm, hRm⟩ := id hm
  refine m_cVi (rest := []) ⟨hx, hb, hml, hown, hts⟩ hE hS (fun q h => Nat.le_trans hNo h.1) (kX3_nearSign l K (AmF om out) _ om adm fb on fw dr fm vs ch ps la hm (xs ((6 * j) + 1)) (xs ((6 * j) + 2)) (xs ((6 * j) + 3)) (xs ((6 * j) + 4)) (xs ((6 * j) + 5))) (cwV 5 hts gL_law_X3_nearSign rfl rfl rfl (by decide +kernel) ⟨Nat.le_of_ble_eq_true rfl, Nat.le_of_ble_eq_true rfl⟩) (va_recv hE.k hPm (ci := 4) (q0 := 0) rfl rfl) rfl rfl hl.1 rfl (Nat.le_of_ble_eq_true rfl) dL_law_1509 ⟨by show _ ≤ 601024; omega, by show _ ≤ 7293034; omega⟩ (fun r9 H2 locs hp hS hk2 => ?_)
  obtain ⟨k9, hq3⟩ := hp
  obtain ⟨hkk, hcase⟩ := r3_two hr3 hq3
  subst hkk
  have hO : OUT K out wo _ := hO.k1 (hk2 out hO.lt (fun z => absurd z.2 (Nat.lt_irrefl _)))
  rcases hcase with ⟨hk0, ⟨v, hv, hans, hc⟩, hans2, hm⟩ | ⟨hk0, hc, hm⟩
  · have hc := hc.kept (fun q hq h => hk2 q hq (fun z => by have h2 := h.2; have z1 := z.1; have z2 := z.2; omega))
    subst hk0
    have hvr := hans.trans hans2.symm
    rw [hvr] at hv
    refine lv_istore (lv' := [(6, .int r9), (5, .int (nI 0)), (4, .int (nI (6 * j))), (0, .ref b), (1, .ref o), (2, .ref om), (3, .ref out)]) hx hb dL_law_1512 hl (by decide) rfl (fun ls hl => ?_)
    refine lv_aload_n hx hb dL_law_1514 rfl (lv_at hl 5 rfl) ?_
    obtain ⟨f7, d7, pr7, ta7, ti7, hPm, hDm, hRm⟩ := id hm
    refine m_cVi (rest := []) ⟨hx, hb, hml, hown, hts⟩ hE hS (fun q h => Nat.le_trans hNo h.1) (kX3_thrown l K (AmF om out) _ om adm f7 d7 pr7 ta7 ti7 _ hPm) (cwV 0 hts gL_law_X3_thrown rfl rfl rfl (by decide +kernel) ⟨Nat.le_of_ble_eq_true rfl, Nat.le_of_ble_eq_true rfl⟩) (va_recv hE.k hPm (ci := 4) (q0 := 0) rfl rfl) rfl rfl hl.1 rfl (Nat.le_of_ble_eq_true rfl) dL_law_1515 ⟨by show _ ≤ 601024; omega, by show _ ≤ 7293034; omega⟩ (fun r8 H3 locs hp hS hk3 => ?_)
    obtain ⟨rfl, rfl⟩ := hp
    refine lv_iload hx hb dL_law_1518 (lv_at hl 1 rfl) ?_
    refine m_icmp_eq (tgt := 1525) hx hb (by omega) (by omega) dL_law_1520 (by decide) (fun c_1520 => ?_) (fun c_1520 => ?_)
    · refine lv_iload hx hb dL_law_1525 (lv_at hl 1 rfl) ?_
      refine m_if_ne (tgt := 1542) hx hb (by omega) dL_law_1527 (by decide) (fun c_1527 => ?_) (fun c_1527 => ?_)
      · exact absurd rfl c_1527
      · refine lv_aload_n hx hb dL_law_1530 rfl (lv_at hl 6 rfl) ?_
        refine lv_iconst (v := nI 0) hx hb dL_law_1531 (by decide) ?_
        refine m_lald1 hx hb hE.k hO hv dL_law_1532 ?_
        refine lv_iload hx hb dL_law_1533 (lv_at hl 0 rfl) ?_
        refine lv_i2l hx hb dL_law_1535 rfl ?_
        refine m_lcmp0 hx hb dL_law_1536 ?_
        refine lv_if_eq (tgt := 1542) hx hb dL_law_1537 (by decide) (fun c_1537 => ?_) (fun c_1537 => ?_)
        · refine lv_goto (tgt := 1545) hx hb dL_law_1542 (by decide) ?_
          refine W.widen (k := 64 + 18 * (j + 1)) (n := 7000 + 220 * (j + 1)) (by omega) (by omega) ?_
          exact kk _ _ _ ⟨_, _, _, _, _, _, _, _, _, _, hc, hm, hO⟩ hS (lv_sub hl [2, 3, 4, 5, 6] rfl)
        · exact absurd rfl c_1537
    · exact absurd rfl c_1520
  · have hc := hc.kept (fun q hq h => hk2 q hq (fun z => by have h2 := h.2; have z1 := z.1; have z2 := z.2; omega))
    refine lv_istore (lv' := [(6, .int r9), (5, .int r), (4, .int (nI (6 * j))), (0, .ref b), (1, .ref o), (2, .ref om), (3, .ref out)]) hx hb dL_law_1512 hl (by decide) rfl (fun ls hl => ?_)
    refine lv_aload_n hx hb dL_law_1514 rfl (lv_at hl 5 rfl) ?_
    obtain ⟨f7, d7, pr7, ta7, ti7, hPm, hDm, hRm⟩ := id hm
    refine m_cVi (rest := []) ⟨hx, hb, hml, hown, hts⟩ hE hS (fun q h => Nat.le_trans hNo h.1) (kX3_thrown l K (AmF om out) _ om adm f7 d7 pr7 ta7 ti7 _ hPm) (cwV 0 hts gL_law_X3_thrown rfl rfl rfl (by decide +kernel) ⟨Nat.le_of_ble_eq_true rfl, Nat.le_of_ble_eq_true rfl⟩) (va_recv hE.k hPm (ci := 4) (q0 := 0) rfl rfl) rfl rfl hl.1 rfl (Nat.le_of_ble_eq_true rfl) dL_law_1515 ⟨by show _ ≤ 601024; omega, by show _ ≤ 7293034; omega⟩ (fun r8 H3 locs hp hS hk3 => ?_)
    obtain ⟨rfl, rfl⟩ := hp
    refine lv_iload hx hb dL_law_1518 (lv_at hl 1 rfl) ?_
    refine lv_icmp_eq (tgt := 1525) hx hb dL_law_1520 (by decide) (fun c_1520 => ?_) (fun c_1520 => ?_)
    · refine lv_iload hx hb dL_law_1525 (lv_at hl 1 rfl) ?_
      refine lv_if_ne (tgt := 1542) hx hb dL_law_1527 (by decide) (fun c_1527 => ?_) (fun c_1527 => ?_)
      · refine lv_goto (tgt := 1545) hx hb dL_law_1542 (by decide) ?_
        refine W.widen (k := 64 + 18 * (j + 1)) (n := 7000 + 220 * (j + 1)) (by omega) (by omega) ?_
        exact kk _ _ _ ⟨_, _, _, _, _, _, _, _, _, _, hc, hm, hO⟩ hS (lv_sub hl [2, 3, 4, 5, 6] rfl)
      · exact absurd (show _ = nI 0 from c_1527) hk0
    · exact absurd rfl c_1520
