/-! THE LAW: change -/
set_option maxHeartbeats 4000000 in
set_option maxRecDepth 100000 in
theorem kL_change (l : Launch) (K : m_K) (A : Nat → Prop) (H0 : Heap) (b : Nat → Nat) (g : Nat → Nat → Int32) (hP : va_P K.1 vwCl (lW K b g) H0) (hD : va_D A (lW K b g)) (fm : Nat → Option Frm) (hfm : fmOK fm) (hf : fRep (g 0) fm) (vs ch : Nat → Int32) (ha : aRep (g 2) vs ch) (ps : List Pr) (hps : psOK ps) (hq : qRep (g 3) ps) (dr : List Int32) (hm : mRep (g 5) ps dr) (k l9 j : Nat) (hk9 : k < 2) (hl9 : l9 < 3) (hj9 : j < 9) : Met l yL_change wsL_change ({ frames := 0, cells := 0, slots := 0, locals := 0 } : Room) (m_Pc K A H0 [.ref (b 0), .ref (b 2), .ref (b 3), .ref (b 5), .int (nI k), .int (nI l9), .int (nI j)]) (va_Qv (fun H1 => ∃ g1, va_P K.1 vwCl (lW K b g1) H1 ∧ va_D A (lW K b g1) ∧ g1 0 = g 0 ∧ g1 1 = g 1 ∧ g1 4 = g 4 ∧ aRep (g1 2) (vsC vs k l9) (chC ch vs k l9) ∧ qRep (g1 3) (psC fm ps k l9 j) ∧ mRep (g1 5) (psC fm ps k l9 j) dr) m_B A) 0 0 A := by
  refine m_ofW (by decide) rfl (Nat.le_of_ble_eq_true rfl) ?_
  intro p e s m args below meth c ls hx hb hr hml hown hts hlk hnm hE hsz hS hl
  have hl : lv_has ls 9 [(0, .ref (b 0)), (1, .ref (b 2)), (2, .ref (b 3)), (3, .ref (b 5)), (4, .int (nI k)), (5, .int (nI l9)), (6, .int (nI j))] := hl
  have hbF := (hfm.1 (54 * k + j)).g.lt0
  have hl20 := hps.1
  refine lv_iload hx hb dL_change_0 (lv_at hl 5 rfl) ?_
  refine m_if_ne (tgt := 173) hx hb (by omega) dL_change_2 (by decide) (fun c_2 => ?_) (fun c_2 => ?_)
  · refine lv_aload_n hx hb dL_change_173 rfl (lv_at hl 1 rfl) ?_
    refine lv_iconst (v := nI 2) hx hb dL_change_174 (by decide) ?_
    refine lv_iconst (v := nI 3) hx hb dL_change_175 (by decide) ?_
    refine lv_iload hx hb dL_change_176 (lv_at hl 4 rfl) ?_
    refine m_imul hx hb dL_change_178 ?_
    refine m_iadd hx hb dL_change_179 ?_
    refine lv_iload hx hb dL_change_180 (lv_at hl 5 rfl) ?_
    refine m_iadd hx hb dL_change_182 ?_
    refine lv_aload_n hx hb dL_change_183 rfl (lv_at hl 1 rfl) ?_
    refine lv_iload hx hb dL_change_184 (lv_at hl 4 rfl) ?_
    refine m_iald hx hb hE.k hP 2 rfl (by omega) (by omega) ((ha k hk9).1) dL_change_186 ?_
    refine m_iast hx hb hE.k hP hD hS 2 rfl (by omega) (by omega) dL_change_187 (fun H locs hP hD hS => ?_)
    have hP : va_P K.1 vwCl (lW K b (va_up g 2 (upd (g 2) ((2 + (3 * k)) + l9) (vs k)))) H := hP
    have hD : va_D A (lW K b (va_up g 2 (upd (g 2) ((2 + (3 * k)) + l9) (vs k)))) := hD
    exact m_vret hx hb hr hlk hS (Nat.le_of_ble_eq_true rfl) (Nat.le_of_ble_eq_true rfl) dL_change_188 (⟨_, hP, hD, rfl, rfl, rfl, aRep_0 ha hk9 hl9 c_2, (by rw [psC, if_neg c_2]; exact hq), (by rw [psC, if_neg c_2]; exact hm)⟩)
  · subst c_2
    cases hF : fm (54 * k + j) with
    | none =>
      refine lv_iconst (v := nI 1) hx hb dL_change_5 (by decide) ?_
      refine lv_istore (lv' := [(7, .int (nI 1)), (0, .ref (b 0)), (1, .ref (b 2)), (2, .ref (b 3)), (3, .ref (b 5)), (4, .int (nI k)), (5, .int (nI 0)), (6, .int (nI j))]) hx hb dL_change_6 hl (by decide) rfl (fun ls hl => ?_)
      refine lv_iload hx hb dL_change_8 (lv_at hl 0 rfl) ?_
      refine lv_iconst (v := nI 3) hx hb dL_change_10 (by decide) ?_
      refine m_icmp_ge (tgt := 165) hx hb (by omega) (by omega) dL_change_11 (by decide) (fun c_11 => ?_) (fun c_11 => ?_)
      · refine lv_aload_n hx hb dL_change_165 rfl (lv_at hl 2 rfl) ?_
        refine lv_iload hx hb dL_change_166 (lv_at hl 5 rfl) ?_
        refine lv_dup2_11 hx hb dL_change_168 rfl rfl ?_
        refine m_iald hx hb hE.k hP 2 rfl (by omega) (by omega) ((ha k hk9).1) dL_change_169 ?_
        refine lv_iconst (v := nI 1) hx hb dL_change_170 (by decide) ?_
        refine lv_iadd hx hb dL_change_171 ?_
        refine m_iast hx hb hE.k hP hD hS 2 rfl (by omega) (by omega) dL_change_172 (fun H locs hP hD hS => ?_)
        have hP : va_P K.1 vwCl (lW K b (va_up g 2 (upd (g 2) k ((vs k) + (nI 1))))) H := hP
        have hD : va_D A (lW K b (va_up g 2 (upd (g 2) k ((vs k) + (nI 1))))) := hD
        refine lv_aload_n hx hb dL_change_173 rfl (lv_at hl 2 rfl) ?_
        refine lv_iconst (v := nI 2) hx hb dL_change_174 (by decide) ?_
        refine lv_iconst (v := nI 3) hx hb dL_change_175 (by decide) ?_
        refine lv_iload hx hb dL_change_176 (lv_at hl 5 rfl) ?_
        refine m_imul hx hb dL_change_178 ?_
        refine m_iadd hx hb dL_change_179 ?_
        refine lv_iload hx hb dL_change_180 (lv_at hl 6 rfl) ?_
        refine m_iadd hx hb dL_change_182 ?_
        refine lv_aload_n hx hb dL_change_183 rfl (lv_at hl 2 rfl) ?_
        refine lv_iload hx hb dL_change_184 (lv_at hl 5 rfl) ?_
        refine m_iald hx hb hE.k hP 2 rfl (by omega) (by omega) (show upd _ k (vs k + nI 1) k = vs k + nI 1 from up_s) dL_change_186 ?_
        refine m_iast hx hb hE.k hP hD hS 2 rfl (by omega) (by omega) dL_change_187 (fun H locs hP hD hS => ?_)
        have hP : va_P K.1 vwCl (lW K b (va_up (va_up g 2 (upd (g 2) k ((vs k) + (nI 1)))) 2 (upd (upd (g 2) k ((vs k) + (nI 1))) ((2 + (3 * k)) + 0) (vs k + nI 1)))) H := hP
        have hD : va_D A (lW K b (va_up (va_up g 2 (upd (g 2) k ((vs k) + (nI 1)))) 2 (upd (upd (g 2) k ((vs k) + (nI 1))) ((2 + (3 * k)) + 0) (vs k + nI 1)))) := hD
        exact m_vret hx hb hr hlk hS (Nat.le_of_ble_eq_true rfl) (Nat.le_of_ble_eq_true rfl) dL_change_188 (⟨_, hP, hD, rfl, rfl, rfl, aRep_1 ha hk9, (by rw [psC, if_pos rfl, keepP_n hF]; exact hq), (by rw [psC, if_pos rfl, keepP_n hF]; exact hm)⟩)
      · refine lv_aload_n hx hb dL_change_14 rfl (lv_at hl 1 rfl) ?_
        refine lv_bipush (v := nI 27) hx hb dL_change_15 (by decide) ?_
        refine lv_iload hx hb dL_change_17 (lv_at hl 5 rfl) ?_
        refine m_imul hx hb dL_change_19 ?_
        refine lv_iload hx hb dL_change_20 (lv_at hl 7 rfl) ?_
        refine m_iadd hx hb dL_change_22 ?_
        refine m_iald hx hb hE.k hP 0 rfl (by omega) (by omega) ((hf.r0 hk9 hj9).trans (fR_n hF)) dL_change_23 ?_
        refine m_if_le (tgt := 165) hx hb (by omega) dL_change_24 (by decide) (fun c_24 => ?_) (fun c_24 => ?_)
        · refine lv_aload_n hx hb dL_change_165 rfl (lv_at hl 2 rfl) ?_
          refine lv_iload hx hb dL_change_166 (lv_at hl 5 rfl) ?_
          refine lv_dup2_11 hx hb dL_change_168 rfl rfl ?_
          refine m_iald hx hb hE.k hP 2 rfl (by omega) (by omega) ((ha k hk9).1) dL_change_169 ?_
          refine lv_iconst (v := nI 1) hx hb dL_change_170 (by decide) ?_
          refine lv_iadd hx hb dL_change_171 ?_
          refine m_iast hx hb hE.k hP hD hS 2 rfl (by omega) (by omega) dL_change_172 (fun H locs hP hD hS => ?_)
          have hP : va_P K.1 vwCl (lW K b (va_up g 2 (upd (g 2) k ((vs k) + (nI 1))))) H := hP
          have hD : va_D A (lW K b (va_up g 2 (upd (g 2) k ((vs k) + (nI 1))))) := hD
          refine lv_aload_n hx hb dL_change_173 rfl (lv_at hl 2 rfl) ?_
          refine lv_iconst (v := nI 2) hx hb dL_change_174 (by decide) ?_
          refine lv_iconst (v := nI 3) hx hb dL_change_175 (by decide) ?_
          refine lv_iload hx hb dL_change_176 (lv_at hl 5 rfl) ?_
          refine m_imul hx hb dL_change_178 ?_
          refine m_iadd hx hb dL_change_179 ?_
          refine lv_iload hx hb dL_change_180 (lv_at hl 6 rfl) ?_
          refine m_iadd hx hb dL_change_182 ?_
          refine lv_aload_n hx hb dL_change_183 rfl (lv_at hl 2 rfl) ?_
          refine lv_iload hx hb dL_change_184 (lv_at hl 5 rfl) ?_
          refine m_iald hx hb hE.k hP 2 rfl (by omega) (by omega) (show upd _ k (vs k + nI 1) k = vs k + nI 1 from up_s) dL_change_186 ?_
          refine m_iast hx hb hE.k hP hD hS 2 rfl (by omega) (by omega) dL_change_187 (fun H locs hP hD hS => ?_)
          have hP : va_P K.1 vwCl (lW K b (va_up (va_up g 2 (upd (g 2) k ((vs k) + (nI 1)))) 2 (upd (upd (g 2) k ((vs k) + (nI 1))) ((2 + (3 * k)) + 0) (vs k + nI 1)))) H := hP
          have hD : va_D A (lW K b (va_up (va_up g 2 (upd (g 2) k ((vs k) + (nI 1)))) 2 (upd (upd (g 2) k ((vs k) + (nI 1))) ((2 + (3 * k)) + 0) (vs k + nI 1)))) := hD
          exact m_vret hx hb hr hlk hS (Nat.le_of_ble_eq_true rfl) (Nat.le_of_ble_eq_true rfl) dL_change_188 (⟨_, hP, hD, rfl, rfl, rfl, aRep_1 ha hk9, (by rw [psC, if_pos rfl, keepP_n hF]; exact hq), (by rw [psC, if_pos rfl, keepP_n hF]; exact hm)⟩)
        · exact absurd c_24 (by first | decide | exact (show ¬ false = true by decide) | exact (show ¬ true = false by decide))
    | some F =>
      have hgF := hfm.1 _ F hF
      have hFp : 0 < enR (drR F.1) := (gFo.pos (fo := some F) (fun G e => by cases e; exact hgF)).mpr rfl
      have hFb := hgF.1.g.lt0
      refine lv_iconst (v := nI 1) hx hb dL_change_5 (by decide) ?_
      refine lv_istore (lv' := [(7, .int (nI 1)), (0, .ref (b 0)), (1, .ref (b 2)), (2, .ref (b 3)), (3, .ref (b 5)), (4, .int (nI k)), (5, .int (nI 0)), (6, .int (nI j))]) hx hb dL_change_6 hl (by decide) rfl (fun ls hl => ?_)
      have hP : va_P K.1 vwCl (lW K b (va_up (va_up g 3 (g 3)) 5 (g 5))) _ := hP
      have hD : va_D A (lW K b (va_up (va_up g 3 (g 3)) 5 (g 5))) := hD
      refine (?_ : ∀ (n9a : Nat) (c9 : Nat) (w3 : Nat → Int32) (w5 : Nat → Int32) (H : Heap) (locs : List Loc) (ls : Array Slot), c9 ≤ 2 → 2 < c9 + n9a → qRep w3 (keepL fm k j F c9 ps) → mRep w5 (keepL fm k j F c9 ps) dr → va_P K.1 vwCl (lW K b (va_up (va_up g 3 w3) 5 w5)) H → va_D A (lW K b (va_up (va_up g 3 w3) 5 w5)) → va_S A s.heap H locs → lv_has ls 9 [(7, .int (nI (c9 + 1))), (0, .ref (b 0)), (1, .ref (b 2)), (2, .ref (b 3)), (3, .ref (b 5)), (4, .int (nI k)), (5, .int (nI 0)), (6, .int (nI j))] → W p l e _ s m args below meth c H locs 0 0 _ (F0 m 8 ls [])) (2 + 1) 0 (g 3) (g 5) _ _ ls (by omega) (by omega) hq hm hP hD hS (lv_sub hl [0, 1, 2, 3, 4, 5, 6, 7] rfl)
      clear hS hl hP hD
      intro n9a
      induction n9a with
      | zero => intro c9 w3 w5 H locs ls hi9 hn9; exact absurd hn9 (by omega)
      | succ n9a iha =>
        intro c9 w3 w5 H locs ls hi9a hn9a hq hm hP hD hS hl
        refine lv_iload hx hb dL_change_8 (lv_at hl 0 rfl) ?_
        refine lv_iconst (v := nI 3) hx hb dL_change_10 (by decide) ?_
        refine m_icmp_ge (tgt := 165) hx hb (by omega) (by omega) dL_change_11 (by decide) (fun c_11 => ?_) (fun c_11 => ?_)
        · refine lv_aload_n hx hb dL_change_165 rfl (lv_at hl 2 rfl) ?_
          refine lv_iload hx hb dL_change_166 (lv_at hl 5 rfl) ?_
          refine lv_dup2_11 hx hb dL_change_168 rfl rfl ?_
          refine m_iald hx hb hE.k hP 2 rfl (by omega) (by omega) ((ha k hk9).1) dL_change_169 ?_
          refine lv_iconst (v := nI 1) hx hb dL_change_170 (by decide) ?_
          refine lv_iadd hx hb dL_change_171 ?_
          refine m_iast hx hb hE.k hP hD hS 2 rfl (by omega) (by omega) dL_change_172 (fun H locs hP hD hS => ?_)
          have hP : va_P K.1 vwCl (lW K b (va_up (va_up (va_up g 3 w3) 5 w5) 2 (upd (g 2) k ((vs k) + (nI 1))))) H := hP
          have hD : va_D A (lW K b (va_up (va_up (va_up g 3 w3) 5 w5) 2 (upd (g 2) k ((vs k) + (nI 1))))) := hD
          refine lv_aload_n hx hb dL_change_173 rfl (lv_at hl 2 rfl) ?_
          refine lv_iconst (v := nI 2) hx hb dL_change_174 (by decide) ?_
          refine lv_iconst (v := nI 3) hx hb dL_change_175 (by decide) ?_
          refine lv_iload hx hb dL_change_176 (lv_at hl 5 rfl) ?_
          refine m_imul hx hb dL_change_178 ?_
          refine m_iadd hx hb dL_change_179 ?_
          refine lv_iload hx hb dL_change_180 (lv_at hl 6 rfl) ?_
          refine m_iadd hx hb dL_change_182 ?_
          refine lv_aload_n hx hb dL_change_183 rfl (lv_at hl 2 rfl) ?_
          refine lv_iload hx hb dL_change_184 (lv_at hl 5 rfl) ?_
          refine m_iald hx hb hE.k hP 2 rfl (by omega) (by omega) (show upd _ k (vs k + nI 1) k = vs k + nI 1 from up_s) dL_change_186 ?_
          refine m_iast hx hb hE.k hP hD hS 2 rfl (by omega) (by omega) dL_change_187 (fun H locs hP hD hS => ?_)
          have hP : va_P K.1 vwCl (lW K b (va_up (va_up (va_up (va_up g 3 w3) 5 w5) 2 (upd (g 2) k ((vs k) + (nI 1)))) 2 (upd (upd (g 2) k ((vs k) + (nI 1))) ((2 + (3 * k)) + 0) (vs k + nI 1)))) H := hP
          have hD : va_D A (lW K b (va_up (va_up (va_up (va_up g 3 w3) 5 w5) 2 (upd (g 2) k ((vs k) + (nI 1)))) 2 (upd (upd (g 2) k ((vs k) + (nI 1))) ((2 + (3 * k)) + 0) (vs k + nI 1)))) := hD
          exact m_vret hx hb hr hlk hS (Nat.le_of_ble_eq_true rfl) (Nat.le_of_ble_eq_true rfl) dL_change_188 (⟨_, hP, hD, rfl, rfl, rfl, aRep_1 ha hk9, (by rw [psC, if_pos rfl, keepP_c hfm (by omega) hj9 hF (n := c9) (by omega)]; exact hq), (by rw [psC, if_pos rfl, keepP_c hfm (by omega) hj9 hF (n := c9) (by omega)]; exact hm)⟩)
        · refine lv_aload_n hx hb dL_change_14 rfl (lv_at hl 1 rfl) ?_
          refine lv_bipush (v := nI 27) hx hb dL_change_15 (by decide) ?_
          refine lv_iload hx hb dL_change_17 (lv_at hl 5 rfl) ?_
          refine m_imul hx hb dL_change_19 ?_
          refine lv_iload hx hb dL_change_20 (lv_at hl 7 rfl) ?_
          refine m_iadd hx hb dL_change_22 ?_
          refine m_iald hx hb hE.k hP 0 rfl (by omega) (by omega) ((hf.r0 hk9 hj9).trans (fR_s hF)) dL_change_23 ?_
          refine m_if_le (tgt := 165) hx hb (by omega) dL_change_24 (by decide) (fun c_24 => ?_) (fun c_24 => ?_)
          · omega
          · refine lv_aload_n hx hb dL_change_27 rfl (lv_at hl 1 rfl) ?_
            refine lv_bipush (v := nI 27) hx hb dL_change_28 (by decide) ?_
            refine lv_iload hx hb dL_change_30 (lv_at hl 5 rfl) ?_
            refine m_imul hx hb dL_change_32 ?_
            refine lv_bipush (v := nI 9) hx hb dL_change_33 (by decide) ?_
            refine lv_iload hx hb dL_change_35 (lv_at hl 0 rfl) ?_
            refine m_imul hx hb dL_change_37 ?_
            refine m_iadd hx hb dL_change_38 ?_
            refine lv_iload hx hb dL_change_39 (lv_at hl 7 rfl) ?_
            refine m_iadd hx hb dL_change_41 ?_
            have hzb := (hfm.1 (54 * k + 9 * (c9 + 1) + j)).g.lt0
            refine m_iald hx hb hE.k hP 0 rfl (by omega) (by omega) (hf k (c9 + 1) j hk9 (by omega) hj9) dL_change_42 ?_
            refine m_if_le (tgt := 159) hx hb (by omega) dL_change_43 (by decide) (fun c_43 => ?_) (fun c_43 => ?_)
            · have hG := (hfm.1 (54 * k + 9 * (c9 + 1) + j)).zero c_43
              refine lv_iinc (v := nI ((c9 + 1) + 1)) (lv' := [(7, .int (nI ((c9 + 1) + 1))), (0, .ref (b 0)), (1, .ref (b 2)), (2, .ref (b 3)), (3, .ref (b 5)), (4, .int (nI k)), (5, .int (nI 0)), (6, .int (nI j))]) hx hb dL_change_159 hl (k := 0) rfl (m_inc _) (by decide) rfl (fun ls hl => ?_)
              refine lv_goto (tgt := 8) hx hb dL_change_162 (by decide) ?_
              exact iha (c9 + 1) w3 w5 _ _ ls (by omega) (by omega) (by rw [keepL_n hG]; exact hq) (by rw [keepL_n hG]; exact hm) hP hD hS (lv_sub hl [0, 1, 2, 3, 4, 5, 6, 7] rfl)
            · have hz := (hfm.1 (54 * k + 9 * (c9 + 1) + j)).pos.mp (by omega)
              obtain ⟨G, hG⟩ := Option.isSome_iff_exists.mp hz
              have hGb := (hfm.1 _ G hG).1.g.lt0
              have hX9 := psOK_keepL (n := c9) (j := j) (k := k) hfm hgF (by omega) hps
              have hXl := hX9.1
              by_cases h20 : (keepL fm k j F c9 ps).length = 20
              · refine lv_iconst (v := nI 0) hx hb dL_change_46 (by decide) ?_
                refine lv_istore (lv' := [(8, .int (nI 0)), (7, .int (nI (c9 + 1))), (0, .ref (b 0)), (1, .ref (b 2)), (2, .ref (b 3)), (3, .ref (b 5)), (4, .int (nI k)), (5, .int (nI 0)), (6, .int (nI j))]) hx hb dL_change_47 hl (by decide) rfl (fun ls hl => ?_)
                refine (?_ : ∀ (n9b : Nat) (t : Nat) (w1 : Nat → Int32) (H : Heap) (locs : List Loc) (ls : Array Slot), t ≤ 57 → 57 < t + n9b → (∀ s, s < t → w1 s = w3 (s + 3)) → (∀ s, t ≤ s → w1 s = w3 s) → va_P K.1 vwCl (lW K b (va_up (va_up g 3 w1) 5 w5)) H → va_D A (lW K b (va_up (va_up g 3 w1) 5 w5)) → va_S A s.heap H locs → lv_has ls 9 [(8, .int (nI t)), (7, .int (nI (c9 + 1))), (0, .ref (b 0)), (1, .ref (b 2)), (2, .ref (b 3)), (3, .ref (b 5)), (4, .int (nI k)), (5, .int (nI 0)), (6, .int (nI j))] → W p l e _ s m args below meth c H locs 0 0 _ (F0 m 49 ls [])) (57 + 1) 0 w3 _ _ ls (by omega) (by omega) (fun s hs => absurd hs (Nat.not_lt_zero s)) (fun s _ => rfl) hP hD hS (lv_sub hl [0, 1, 2, 3, 4, 5, 6, 7, 8] rfl)
                clear hS hl hP hD
                intro n9b
                induction n9b with
                | zero => intro t w1 H locs ls hi9 hn9; exact absurd hn9 (by omega)
                | succ n9b ihb =>
                  intro t w1 H locs ls hi9b hn9b hw1 hw2 hP hD hS hl
                  refine lv_iload hx hb dL_change_49 (lv_at hl 0 rfl) ?_
                  refine lv_bipush (v := nI 57) hx hb dL_change_51 (by decide) ?_
                  refine m_icmp_ge (tgt := 80) hx hb (by omega) (by omega) dL_change_53 (by decide) (fun c_53 => ?_) (fun c_53 => ?_)
                  · refine lv_aload_n hx hb dL_change_80 rfl (lv_at hl 5 rfl) ?_
                    refine lv_iconst (v := nI 0) hx hb dL_change_81 (by decide) ?_
                    refine lv_aload_n hx hb dL_change_82 rfl (lv_at hl 5 rfl) ?_
                    refine lv_iconst (v := nI 0) hx hb dL_change_83 (by decide) ?_
                    refine m_iald hx hb hE.k hP 5 rfl (by omega) (by omega) (hm.1.trans (congrArg nI h20)) dL_change_84 ?_
                    refine lv_bipush (v := nI 20) hx hb dL_change_85 (by decide) ?_
                    refine m_icmp_ne (tgt := 95) hx hb (by omega) (by omega) dL_change_87 (by decide) (fun c_87 => ?_) (fun c_87 => ?_)
                    · omega
                    · refine lv_bipush (v := nI 19) hx hb dL_change_90 (by decide) ?_
                      refine lv_goto (tgt := 98) hx hb dL_change_92 (by decide) ?_
                      refine m_iast hx hb hE.k hP hD hS 5 rfl (by omega) (by omega) dL_change_98 (fun H locs hP hD hS => ?_)
                      have hP : va_P K.1 vwCl (lW K b (va_up (va_up (va_up g 3 w1) 5 w5) 5 (upd w5 0 (nI 19)))) H := hP
                      have hD : va_D A (lW K b (va_up (va_up (va_up g 3 w1) 5 w5) 5 (upd w5 0 (nI 19)))) := hD
                      refine lv_aload_n hx hb dL_change_99 rfl (lv_at hl 4 rfl) ?_
                      refine lv_iconst (v := nI 3) hx hb dL_change_100 (by decide) ?_
                      refine lv_aload_n hx hb dL_change_101 rfl (lv_at hl 5 rfl) ?_
                      refine lv_iconst (v := nI 0) hx hb dL_change_102 (by decide) ?_
                      refine m_iald hx hb hE.k hP 5 rfl (by omega) (by omega) (show _ = nI 19 from rfl) dL_change_103 ?_
                      refine m_imul hx hb dL_change_104 ?_
                      refine lv_iload hx hb dL_change_105 (lv_at hl 1 rfl) ?_
                      refine m_iast hx hb hE.k hP hD hS 3 rfl (by omega) (by omega) dL_change_107 (fun H locs hP hD hS => ?_)
                      have hP : va_P K.1 vwCl (lW K b (va_up (va_up (va_up (va_up g 3 w1) 5 w5) 5 (upd w5 0 (nI 19))) 3 (upd w1 (3 * 19) (nI (c9 + 1))))) H := hP
                      have hD : va_D A (lW K b (va_up (va_up (va_up (va_up g 3 w1) 5 w5) 5 (upd w5 0 (nI 19))) 3 (upd w1 (3 * 19) (nI (c9 + 1))))) := hD
                      refine lv_aload_n hx hb dL_change_108 rfl (lv_at hl 4 rfl) ?_
                      refine lv_iconst (v := nI 3) hx hb dL_change_109 (by decide) ?_
                      refine lv_aload_n hx hb dL_change_110 rfl (lv_at hl 5 rfl) ?_
                      refine lv_iconst (v := nI 0) hx hb dL_change_111 (by decide) ?_
                      refine m_iald hx hb hE.k hP 5 rfl (by omega) (by omega) (show _ = nI 19 from rfl) dL_change_112 ?_
                      refine m_imul hx hb dL_change_113 ?_
                      refine lv_iconst (v := nI 1) hx hb dL_change_114 (by decide) ?_
                      refine m_iadd hx hb dL_change_115 ?_
                      refine lv_aload_n hx hb dL_change_116 rfl (lv_at hl 2 rfl) ?_
                      refine lv_bipush (v := nI 27) hx hb dL_change_117 (by decide) ?_
                      refine lv_iload hx hb dL_change_119 (lv_at hl 6 rfl) ?_
                      refine m_imul hx hb dL_change_121 ?_
                      refine lv_iload hx hb dL_change_122 (lv_at hl 8 rfl) ?_
                      refine m_iadd hx hb dL_change_124 ?_
                      refine m_iald hx hb hE.k hP 0 rfl (by omega) (by omega) ((hf.r0 hk9 hj9).trans (fR_s hF)) dL_change_125 ?_
                      refine m_iast hx hb hE.k hP hD hS 3 rfl (by omega) (by omega) dL_change_126 (fun H locs hP hD hS => ?_)
                      have hP : va_P K.1 vwCl (lW K b (va_up (va_up (va_up (va_up (va_up g 3 w1) 5 w5) 5 (upd w5 0 (nI 19))) 3 (upd w1 (3 * 19) (nI (c9 + 1)))) 3 (upd (upd w1 (3 * 19) (nI (c9 + 1))) ((3 * 19) + 1) (nI (enR (drR F.1)))))) H := hP
                      have hD : va_D A (lW K b (va_up (va_up (va_up (va_up (va_up g 3 w1) 5 w5) 5 (upd w5 0 (nI 19))) 3 (upd w1 (3 * 19) (nI (c9 + 1)))) 3 (upd (upd w1 (3 * 19) (nI (c9 + 1))) ((3 * 19) + 1) (nI (enR (drR F.1)))))) := hD
                      refine lv_aload_n hx hb dL_change_127 rfl (lv_at hl 4 rfl) ?_
                      refine lv_iconst (v := nI 3) hx hb dL_change_128 (by decide) ?_
                      refine lv_aload_n hx hb dL_change_129 rfl (lv_at hl 5 rfl) ?_
                      refine lv_iconst (v := nI 0) hx hb dL_change_130 (by decide) ?_
                      refine m_iald hx hb hE.k hP 5 rfl (by omega) (by omega) (show _ = nI 19 from rfl) dL_change_131 ?_
                      refine m_imul hx hb dL_change_132 ?_
                      refine lv_iconst (v := nI 2) hx hb dL_change_133 (by decide) ?_
                      refine m_iadd hx hb dL_change_134 ?_
                      refine lv_aload_n hx hb dL_change_135 rfl (lv_at hl 2 rfl) ?_
                      refine lv_bipush (v := nI 27) hx hb dL_change_136 (by decide) ?_
                      refine lv_iload hx hb dL_change_138 (lv_at hl 6 rfl) ?_
                      refine m_imul hx hb dL_change_140 ?_
                      refine lv_bipush (v := nI 9) hx hb dL_change_141 (by decide) ?_
                      refine lv_iload hx hb dL_change_143 (lv_at hl 1 rfl) ?_
                      refine m_imul hx hb dL_change_145 ?_
                      refine m_iadd hx hb dL_change_146 ?_
                      refine lv_iload hx hb dL_change_147 (lv_at hl 8 rfl) ?_
                      refine m_iadd hx hb dL_change_149 ?_
                      refine m_iald hx hb hE.k hP 0 rfl (by omega) (by omega) ((hf k (c9 + 1) j hk9 (by omega) hj9).trans (fR_s hG)) dL_change_150 ?_
                      refine m_iast hx hb hE.k hP hD hS 3 rfl (by omega) (by omega) dL_change_151 (fun H locs hP hD hS => ?_)
                      have hP : va_P K.1 vwCl (lW K b (va_up (va_up (va_up (va_up (va_up (va_up g 3 w1) 5 w5) 5 (upd w5 0 (nI 19))) 3 (upd w1 (3 * 19) (nI (c9 + 1)))) 3 (upd (upd w1 (3 * 19) (nI (c9 + 1))) ((3 * 19) + 1) (nI (enR (drR F.1))))) 3 (upd (upd (upd w1 (3 * 19) (nI (c9 + 1))) ((3 * 19) + 1) (nI (enR (drR F.1)))) ((3 * 19) + 2) (nI (enR (drR G.1)))))) H := hP
                      have hD : va_D A (lW K b (va_up (va_up (va_up (va_up (va_up (va_up g 3 w1) 5 w5) 5 (upd w5 0 (nI 19))) 3 (upd w1 (3 * 19) (nI (c9 + 1)))) 3 (upd (upd w1 (3 * 19) (nI (c9 + 1))) ((3 * 19) + 1) (nI (enR (drR F.1))))) 3 (upd (upd (upd w1 (3 * 19) (nI (c9 + 1))) ((3 * 19) + 1) (nI (enR (drR F.1)))) ((3 * 19) + 2) (nI (enR (drR G.1)))))) := hD
                      refine lv_aload_n hx hb dL_change_152 rfl (lv_at hl 5 rfl) ?_
                      refine lv_iconst (v := nI 0) hx hb dL_change_153 (by decide) ?_
                      refine lv_dup2_11 hx hb dL_change_154 rfl rfl ?_
                      refine m_iald hx hb hE.k hP 5 rfl (by omega) (by omega) (show _ = nI 19 from rfl) dL_change_155 ?_
                      refine lv_iconst (v := nI 1) hx hb dL_change_156 (by decide) ?_
                      refine m_iadd hx hb dL_change_157 ?_
                      refine m_iast hx hb hE.k hP hD hS 5 rfl (by omega) (by omega) dL_change_158 (fun H locs hP hD hS => ?_)
                      have hP : va_P K.1 vwCl (lW K b (va_up (va_up (va_up (va_up (va_up (va_up (va_up g 3 w1) 5 w5) 5 (upd w5 0 (nI 19))) 3 (upd w1 (3 * 19) (nI (c9 + 1)))) 3 (upd (upd w1 (3 * 19) (nI (c9 + 1))) ((3 * 19) + 1) (nI (enR (drR F.1))))) 3 (upd (upd (upd w1 (3 * 19) (nI (c9 + 1))) ((3 * 19) + 1) (nI (enR (drR F.1)))) ((3 * 19) + 2) (nI (enR (drR G.1))))) 5 (upd (upd w5 0 (nI 19)) 0 (nI (19 + 1))))) H := hP
                      have hD : va_D A (lW K b (va_up (va_up (va_up (va_up (va_up (va_up (va_up g 3 w1) 5 w5) 5 (upd w5 0 (nI 19))) 3 (upd w1 (3 * 19) (nI (c9 + 1)))) 3 (upd (upd w1 (3 * 19) (nI (c9 + 1))) ((3 * 19) + 1) (nI (enR (drR F.1))))) 3 (upd (upd (upd w1 (3 * 19) (nI (c9 + 1))) ((3 * 19) + 1) (nI (enR (drR F.1)))) ((3 * 19) + 2) (nI (enR (drR G.1))))) 5 (upd (upd w5 0 (nI 19)) 0 (nI (19 + 1))))) := hD
                      refine lv_iinc (v := nI ((c9 + 1) + 1)) (lv' := [(7, .int (nI ((c9 + 1) + 1))), (8, .int (nI t)), (0, .ref (b 0)), (1, .ref (b 2)), (2, .ref (b 3)), (3, .ref (b 5)), (4, .int (nI k)), (5, .int (nI 0)), (6, .int (nI j))]) hx hb dL_change_159 hl (k := 1) rfl (m_inc _) (by decide) rfl (fun ls hl => ?_)
                      refine lv_goto (tgt := 8) hx hb dL_change_162 (by decide) ?_
                      exact iha (c9 + 1) (upd (upd (upd w1 (3 * 19) (nI (c9 + 1))) ((3 * 19) + 1) (nI (enR (drR F.1)))) ((3 * 19) + 2) (nI (enR (drR G.1)))) (upd (upd w5 0 (nI 19)) 0 (nI (19 + 1))) _ _ ls (by omega) (by omega) (by rw [keepL_s hG, pushP_f h20]; exact (hq.tail h20 (fun t ht => hw1 t (by omega))).add (n := 19) (by rw [List.length_tail, h20]) (c9 + 1, F, G)) (⟨by rw [keepL_s hG, pushP_f h20, List.length_append, List.length_tail, h20]; exact up_s, hm.2.1, hm.2.2⟩) hP hD hS (lv_sub hl [0, 2, 3, 4, 5, 6, 7, 8] rfl)
                  · refine lv_aload_n hx hb dL_change_56 rfl (lv_at hl 5 rfl) ?_
                    refine lv_iconst (v := nI 0) hx hb dL_change_57 (by decide) ?_
                    refine m_iald hx hb hE.k hP 5 rfl (by omega) (by omega) (hm.1.trans (congrArg nI h20)) dL_change_58 ?_
                    refine lv_bipush (v := nI 20) hx hb dL_change_59 (by decide) ?_
                    refine m_icmp_ne (tgt := 80) hx hb (by omega) (by omega) dL_change_61 (by decide) (fun c_61 => ?_) (fun c_61 => ?_)
                    · omega
                    · refine lv_aload_n hx hb dL_change_64 rfl (lv_at hl 4 rfl) ?_
                      refine lv_iload hx hb dL_change_65 (lv_at hl 0 rfl) ?_
                      refine lv_aload_n hx hb dL_change_67 rfl (lv_at hl 4 rfl) ?_
                      refine lv_iload hx hb dL_change_68 (lv_at hl 0 rfl) ?_
                      refine lv_iconst (v := nI 3) hx hb dL_change_70 (by decide) ?_
                      refine m_iadd hx hb dL_change_71 ?_
                      refine m_iald hx hb hE.k hP 3 rfl (by omega) (by omega) rfl dL_change_72 ?_
                      refine m_iast hx hb hE.k hP hD hS 3 rfl (by omega) (by omega) dL_change_73 (fun H locs hP hD hS => ?_)
                      have hP : va_P K.1 vwCl (lW K b (va_up (va_up (va_up g 3 w1) 5 w5) 3 (upd w1 t (w1 (t + 3))))) H := hP
                      have hD : va_D A (lW K b (va_up (va_up (va_up g 3 w1) 5 w5) 3 (upd w1 t (w1 (t + 3))))) := hD
                      refine lv_iinc (v := nI (t + 1)) (lv' := [(8, .int (nI (t + 1))), (7, .int (nI (c9 + 1))), (0, .ref (b 0)), (1, .ref (b 2)), (2, .ref (b 3)), (3, .ref (b 5)), (4, .int (nI k)), (5, .int (nI 0)), (6, .int (nI j))]) hx hb dL_change_74 hl (k := 0) rfl (m_inc _) (by decide) rfl (fun ls hl => ?_)
                      refine lv_goto (tgt := 49) hx hb dL_change_77 (by decide) ?_
                      exact ihb (t + 1) (upd w1 t (w1 (t + 3))) _ _ ls (by omega) (by omega) ((sh_1 hw1 hw2).1) ((sh_1 hw1 hw2).2) hP hD hS (lv_sub hl [0, 1, 2, 3, 4, 5, 6, 7, 8] rfl)
              · refine lv_iconst (v := nI 0) hx hb dL_change_46 (by decide) ?_
                refine lv_istore (lv' := [(8, .int (nI 0)), (7, .int (nI (c9 + 1))), (0, .ref (b 0)), (1, .ref (b 2)), (2, .ref (b 3)), (3, .ref (b 5)), (4, .int (nI k)), (5, .int (nI 0)), (6, .int (nI j))]) hx hb dL_change_47 hl (by decide) rfl (fun ls hl => ?_)
                refine lv_iload hx hb dL_change_49 (lv_at hl 0 rfl) ?_
                refine lv_bipush (v := nI 57) hx hb dL_change_51 (by decide) ?_
                refine m_icmp_ge (tgt := 80) hx hb (by omega) (by omega) dL_change_53 (by decide) (fun c_53 => ?_) (fun c_53 => ?_)
                · omega
                · refine lv_aload_n hx hb dL_change_56 rfl (lv_at hl 5 rfl) ?_
                  refine lv_iconst (v := nI 0) hx hb dL_change_57 (by decide) ?_
                  refine m_iald hx hb hE.k hP 5 rfl (by omega) (by omega) hm.1 dL_change_58 ?_
                  refine lv_bipush (v := nI 20) hx hb dL_change_59 (by decide) ?_
                  refine m_icmp_ne (tgt := 80) hx hb (by omega) (by omega) dL_change_61 (by decide) (fun c_61 => ?_) (fun c_61 => ?_)
                  · refine lv_aload_n hx hb dL_change_80 rfl (lv_at hl 5 rfl) ?_
                    refine lv_iconst (v := nI 0) hx hb dL_change_81 (by decide) ?_
                    refine lv_aload_n hx hb dL_change_82 rfl (lv_at hl 5 rfl) ?_
                    refine lv_iconst (v := nI 0) hx hb dL_change_83 (by decide) ?_
                    refine m_iald hx hb hE.k hP 5 rfl (by omega) (by omega) hm.1 dL_change_84 ?_
                    refine lv_bipush (v := nI 20) hx hb dL_change_85 (by decide) ?_
                    refine m_icmp_ne (tgt := 95) hx hb (by omega) (by omega) dL_change_87 (by decide) (fun c_87 => ?_) (fun c_87 => ?_)
                    · refine lv_aload_n hx hb dL_change_95 rfl (lv_at hl 5 rfl) ?_
                      refine lv_iconst (v := nI 0) hx hb dL_change_96 (by decide) ?_
                      refine m_iald hx hb hE.k hP 5 rfl (by omega) (by omega) hm.1 dL_change_97 ?_
                      refine m_iast hx hb hE.k hP hD hS 5 rfl (by omega) (by omega) dL_change_98 (fun H locs hP hD hS => ?_)
                      have hP : va_P K.1 vwCl (lW K b (va_up (va_up (va_up g 3 w3) 5 w5) 5 (upd w5 0 (nI ((keepL fm k j F c9 ps).length))))) H := hP
                      have hD : va_D A (lW K b (va_up (va_up (va_up g 3 w3) 5 w5) 5 (upd w5 0 (nI ((keepL fm k j F c9 ps).length))))) := hD
                      refine lv_aload_n hx hb dL_change_99 rfl (lv_at hl 4 rfl) ?_
                      refine lv_iconst (v := nI 3) hx hb dL_change_100 (by decide) ?_
                      refine lv_aload_n hx hb dL_change_101 rfl (lv_at hl 5 rfl) ?_
                      refine lv_iconst (v := nI 0) hx hb dL_change_102 (by decide) ?_
                      refine m_iald hx hb hE.k hP 5 rfl (by omega) (by omega) (show _ = nI ((keepL fm k j F c9 ps).length) from rfl) dL_change_103 ?_
                      refine m_imul hx hb dL_change_104 ?_
                      refine lv_iload hx hb dL_change_105 (lv_at hl 1 rfl) ?_
                      refine m_iast hx hb hE.k hP hD hS 3 rfl (by omega) (by omega) dL_change_107 (fun H locs hP hD hS => ?_)
                      have hP : va_P K.1 vwCl (lW K b (va_up (va_up (va_up (va_up g 3 w3) 5 w5) 5 (upd w5 0 (nI ((keepL fm k j F c9 ps).length)))) 3 (upd w3 (3 * ((keepL fm k j F c9 ps).length)) (nI (c9 + 1))))) H := hP
                      have hD : va_D A (lW K b (va_up (va_up (va_up (va_up g 3 w3) 5 w5) 5 (upd w5 0 (nI ((keepL fm k j F c9 ps).length)))) 3 (upd w3 (3 * ((keepL fm k j F c9 ps).length)) (nI (c9 + 1))))) := hD
                      refine lv_aload_n hx hb dL_change_108 rfl (lv_at hl 4 rfl) ?_
                      refine lv_iconst (v := nI 3) hx hb dL_change_109 (by decide) ?_
                      refine lv_aload_n hx hb dL_change_110 rfl (lv_at hl 5 rfl) ?_
                      refine lv_iconst (v := nI 0) hx hb dL_change_111 (by decide) ?_
                      refine m_iald hx hb hE.k hP 5 rfl (by omega) (by omega) (show _ = nI ((keepL fm k j F c9 ps).length) from rfl) dL_change_112 ?_
                      refine m_imul hx hb dL_change_113 ?_
                      refine lv_iconst (v := nI 1) hx hb dL_change_114 (by decide) ?_
                      refine m_iadd hx hb dL_change_115 ?_
                      refine lv_aload_n hx hb dL_change_116 rfl (lv_at hl 2 rfl) ?_
                      refine lv_bipush (v := nI 27) hx hb dL_change_117 (by decide) ?_
                      refine lv_iload hx hb dL_change_119 (lv_at hl 6 rfl) ?_
                      refine m_imul hx hb dL_change_121 ?_
                      refine lv_iload hx hb dL_change_122 (lv_at hl 8 rfl) ?_
                      refine m_iadd hx hb dL_change_124 ?_
                      refine m_iald hx hb hE.k hP 0 rfl (by omega) (by omega) ((hf.r0 hk9 hj9).trans (fR_s hF)) dL_change_125 ?_
                      refine m_iast hx hb hE.k hP hD hS 3 rfl (by omega) (by omega) dL_change_126 (fun H locs hP hD hS => ?_)
                      have hP : va_P K.1 vwCl (lW K b (va_up (va_up (va_up (va_up (va_up g 3 w3) 5 w5) 5 (upd w5 0 (nI ((keepL fm k j F c9 ps).length)))) 3 (upd w3 (3 * ((keepL fm k j F c9 ps).length)) (nI (c9 + 1)))) 3 (upd (upd w3 (3 * ((keepL fm k j F c9 ps).length)) (nI (c9 + 1))) ((3 * ((keepL fm k j F c9 ps).length)) + 1) (nI (enR (drR F.1)))))) H := hP
                      have hD : va_D A (lW K b (va_up (va_up (va_up (va_up (va_up g 3 w3) 5 w5) 5 (upd w5 0 (nI ((keepL fm k j F c9 ps).length)))) 3 (upd w3 (3 * ((keepL fm k j F c9 ps).length)) (nI (c9 + 1)))) 3 (upd (upd w3 (3 * ((keepL fm k j F c9 ps).length)) (nI (c9 + 1))) ((3 * ((keepL fm k j F c9 ps).length)) + 1) (nI (enR (drR F.1)))))) := hD
                      refine lv_aload_n hx hb dL_change_127 rfl (lv_at hl 4 rfl) ?_
                      refine lv_iconst (v := nI 3) hx hb dL_change_128 (by decide) ?_
                      refine lv_aload_n hx hb dL_change_129 rfl (lv_at hl 5 rfl) ?_
                      refine lv_iconst (v := nI 0) hx hb dL_change_130 (by decide) ?_
                      refine m_iald hx hb hE.k hP 5 rfl (by omega) (by omega) (show _ = nI ((keepL fm k j F c9 ps).length) from rfl) dL_change_131 ?_
                      refine m_imul hx hb dL_change_132 ?_
                      refine lv_iconst (v := nI 2) hx hb dL_change_133 (by decide) ?_
                      refine m_iadd hx hb dL_change_134 ?_
                      refine lv_aload_n hx hb dL_change_135 rfl (lv_at hl 2 rfl) ?_
                      refine lv_bipush (v := nI 27) hx hb dL_change_136 (by decide) ?_
                      refine lv_iload hx hb dL_change_138 (lv_at hl 6 rfl) ?_
                      refine m_imul hx hb dL_change_140 ?_
                      refine lv_bipush (v := nI 9) hx hb dL_change_141 (by decide) ?_
                      refine lv_iload hx hb dL_change_143 (lv_at hl 1 rfl) ?_
                      refine m_imul hx hb dL_change_145 ?_
                      refine m_iadd hx hb dL_change_146 ?_
                      refine lv_iload hx hb dL_change_147 (lv_at hl 8 rfl) ?_
                      refine m_iadd hx hb dL_change_149 ?_
                      refine m_iald hx hb hE.k hP 0 rfl (by omega) (by omega) ((hf k (c9 + 1) j hk9 (by omega) hj9).trans (fR_s hG)) dL_change_150 ?_
                      refine m_iast hx hb hE.k hP hD hS 3 rfl (by omega) (by omega) dL_change_151 (fun H locs hP hD hS => ?_)
                      have hP : va_P K.1 vwCl (lW K b (va_up (va_up (va_up (va_up (va_up (va_up g 3 w3) 5 w5) 5 (upd w5 0 (nI ((keepL fm k j F c9 ps).length)))) 3 (upd w3 (3 * ((keepL fm k j F c9 ps).length)) (nI (c9 + 1)))) 3 (upd (upd w3 (3 * ((keepL fm k j F c9 ps).length)) (nI (c9 + 1))) ((3 * ((keepL fm k j F c9 ps).length)) + 1) (nI (enR (drR F.1))))) 3 (upd (upd (upd w3 (3 * ((keepL fm k j F c9 ps).length)) (nI (c9 + 1))) ((3 * ((keepL fm k j F c9 ps).length)) + 1) (nI (enR (drR F.1)))) ((3 * ((keepL fm k j F c9 ps).length)) + 2) (nI (enR (drR G.1)))))) H := hP
                      have hD : va_D A (lW K b (va_up (va_up (va_up (va_up (va_up (va_up g 3 w3) 5 w5) 5 (upd w5 0 (nI ((keepL fm k j F c9 ps).length)))) 3 (upd w3 (3 * ((keepL fm k j F c9 ps).length)) (nI (c9 + 1)))) 3 (upd (upd w3 (3 * ((keepL fm k j F c9 ps).length)) (nI (c9 + 1))) ((3 * ((keepL fm k j F c9 ps).length)) + 1) (nI (enR (drR F.1))))) 3 (upd (upd (upd w3 (3 * ((keepL fm k j F c9 ps).length)) (nI (c9 + 1))) ((3 * ((keepL fm k j F c9 ps).length)) + 1) (nI (enR (drR F.1)))) ((3 * ((keepL fm k j F c9 ps).length)) + 2) (nI (enR (drR G.1)))))) := hD
                      refine lv_aload_n hx hb dL_change_152 rfl (lv_at hl 5 rfl) ?_
                      refine lv_iconst (v := nI 0) hx hb dL_change_153 (by decide) ?_
                      refine lv_dup2_11 hx hb dL_change_154 rfl rfl ?_
                      refine m_iald hx hb hE.k hP 5 rfl (by omega) (by omega) (show _ = nI ((keepL fm k j F c9 ps).length) from rfl) dL_change_155 ?_
                      refine lv_iconst (v := nI 1) hx hb dL_change_156 (by decide) ?_
                      refine m_iadd hx hb dL_change_157 ?_
                      refine m_iast hx hb hE.k hP hD hS 5 rfl (by omega) (by omega) dL_change_158 (fun H locs hP hD hS => ?_)
                      have hP : va_P K.1 vwCl (lW K b (va_up (va_up (va_up (va_up (va_up (va_up (va_up g 3 w3) 5 w5) 5 (upd w5 0 (nI ((keepL fm k j F c9 ps).length)))) 3 (upd w3 (3 * ((keepL fm k j F c9 ps).length)) (nI (c9 + 1)))) 3 (upd (upd w3 (3 * ((keepL fm k j F c9 ps).length)) (nI (c9 + 1))) ((3 * ((keepL fm k j F c9 ps).length)) + 1) (nI (enR (drR F.1))))) 3 (upd (upd (upd w3 (3 * ((keepL fm k j F c9 ps).length)) (nI (c9 + 1))) ((3 * ((keepL fm k j F c9 ps).length)) + 1) (nI (enR (drR F.1)))) ((3 * ((keepL fm k j F c9 ps).length)) + 2) (nI (enR (drR G.1))))) 5 (upd (upd w5 0 (nI ((keepL fm k j F c9 ps).length))) 0 (nI (((keepL fm k j F c9 ps).length) + 1))))) H := hP
                      have hD : va_D A (lW K b (va_up (va_up (va_up (va_up (va_up (va_up (va_up g 3 w3) 5 w5) 5 (upd w5 0 (nI ((keepL fm k j F c9 ps).length)))) 3 (upd w3 (3 * ((keepL fm k j F c9 ps).length)) (nI (c9 + 1)))) 3 (upd (upd w3 (3 * ((keepL fm k j F c9 ps).length)) (nI (c9 + 1))) ((3 * ((keepL fm k j F c9 ps).length)) + 1) (nI (enR (drR F.1))))) 3 (upd (upd (upd w3 (3 * ((keepL fm k j F c9 ps).length)) (nI (c9 + 1))) ((3 * ((keepL fm k j F c9 ps).length)) + 1) (nI (enR (drR F.1)))) ((3 * ((keepL fm k j F c9 ps).length)) + 2) (nI (enR (drR G.1))))) 5 (upd (upd w5 0 (nI ((keepL fm k j F c9 ps).length))) 0 (nI (((keepL fm k j F c9 ps).length) + 1))))) := hD
                      refine lv_iinc (v := nI ((c9 + 1) + 1)) (lv' := [(7, .int (nI ((c9 + 1) + 1))), (8, .int (nI 0)), (0, .ref (b 0)), (1, .ref (b 2)), (2, .ref (b 3)), (3, .ref (b 5)), (4, .int (nI k)), (5, .int (nI 0)), (6, .int (nI j))]) hx hb dL_change_159 hl (k := 1) rfl (m_inc _) (by decide) rfl (fun ls hl => ?_)
                      refine lv_goto (tgt := 8) hx hb dL_change_162 (by decide) ?_
                      exact iha (c9 + 1) (upd (upd (upd w3 (3 * ((keepL fm k j F c9 ps).length)) (nI (c9 + 1))) ((3 * ((keepL fm k j F c9 ps).length)) + 1) (nI (enR (drR F.1)))) ((3 * ((keepL fm k j F c9 ps).length)) + 2) (nI (enR (drR G.1)))) (upd (upd w5 0 (nI ((keepL fm k j F c9 ps).length))) 0 (nI (((keepL fm k j F c9 ps).length) + 1))) _ _ ls (by omega) (by omega) (by rw [keepL_s hG, pushP_s h20 hXl]; exact hq.add rfl (c9 + 1, F, G)) (⟨by rw [keepL_s hG, pushP_s h20 hXl, List.length_append]; exact up_s, hm.2.1, hm.2.2⟩) hP hD hS (lv_sub hl [0, 2, 3, 4, 5, 6, 7, 8] rfl)
                    · omega
                  · omega
