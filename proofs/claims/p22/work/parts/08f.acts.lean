/-! THE LAW: its state, and how a call changes it -/
def lRep (g : Nat → Nat → Int32) (fb : Nat → Nat) (on fw : Nat → Int32) (dr : List Int32) (fm : Nat → Option Frm) (vs ch : Nat → Int32) (ps : List Pr) : Prop := fRep (g 0) fm ∧ xRep (g 1) fm ∧ aRep (g 2) vs ch ∧ qRep (g 3) ps ∧ nRep (g 4) fb on fw ∧ mRep (g 5) ps dr ∧ fbOK fb ∧ fmOK fm ∧ psOK ps ∧ drOK dr
def LSt (K : m_K) (A Ac : Nat → Prop) (b : Nat → Nat) (o : Nat) (ad : Nat → Nat) (H : Heap) : Prop := ∃ (g : Nat → Nat → Int32) (fb : Nat → Nat) (on fw : Nat → Int32) (dr : List Int32) (fm : Nat → Option Frm) (vs ch : Nat → Int32) (ps : List Pr), va_P K.1 vwCl (lW K b g) H ∧ va_D A (lW K b g) ∧ cOK K Ac H o ad fb on fw dr fm vs ch ps ∧ lRep g fb on fw dr fm vs ch ps
theorem fRep_up {w : Nat → Int32} {fm : Nat → Option Frm} {k l j : Nat} (h : fRep w fm) (hk : k < 2) (hl : l < 3) (hj : j < 9) (fo : Option Frm) : fRep (upd w (27 * k + 9 * l + j) (nI (enR (foR fo)))) (va_up fm (54 * k + 9 * l + j) fo) := fun k2 l2 j2 hk2 hl2 hj2 => by
  by_cases e : k2 = k ∧ l2 = l ∧ j2 = j
  · obtain ⟨rfl, rfl, rfl⟩ := e
    rw [up_s, va_up_self]
  · rw [pk_un (by omega), va_up_ne _ _ (by omega)]
    exact h k2 l2 j2 hk2 hl2 hj2
theorem xRep_set {w : Nat → Int32} {fm : Nat → Option Frm} {k l j : Nat} {L : List Int32} {b : Bool} {v : Int32} (h : xRep w fm) (hk : k < 2) (hl : l < 3) (hj : j < 9) (hv : ∀ t, t < 9 → bitX v t = if t = j then b else bitX (w (3 * k + l)) t) : xRep (upd w (3 * k + l) v) (va_up fm (54 * k + 9 * l + j) (some (L, b))) := fun k2 l2 j2 F hk2 hl2 hj2 hF => by
  by_cases e : k2 = k ∧ l2 = l
  · obtain ⟨rfl, rfl⟩ := e
    rw [up_s, hv j2 hj2]
    by_cases e2 : j2 = j
    · subst e2
      rw [va_up_self] at hF
      cases hF
      rw [if_pos rfl]
    · rw [va_up_ne _ _ (by omega)] at hF
      rw [if_neg e2]
      exact h k2 l2 j2 F hk2 hl2 hj2 hF
  · rw [va_up_ne _ _ (by omega)] at hF
    rw [pk_un (by omega)]
    exact h k2 l2 j2 F hk2 hl2 hj2 hF
theorem xRep_rm {w : Nat → Int32} {fm : Nat → Option Frm} {n : Nat} (h : xRep w fm) : xRep w (va_up fm n none) := fun k2 l2 j2 F hk2 hl2 hj2 hF => by
  by_cases e : 54 * k2 + 9 * l2 + j2 = n
  · subst e
    rw [va_up_self] at hF
    cases hF
  · rw [va_up_ne _ _ e] at hF
    exact h k2 l2 j2 F hk2 hl2 hj2 hF
theorem mRep_push {w : Nat → Int32} {ps : List Pr} {dr : List Int32} {x : Nat} (h : mRep w ps dr) (hx : x < 128) : mRep (upd (upd w 1 (nI (dr.length + 1))) 2 (nI (128 * enR (drR dr) + x))) ps (dr ++ [nI x]) := by
  refine ⟨h.1, ?_, ?_⟩
  · rw [List.length_append]
    rfl
  · show nI (128 * enR (drR dr) + x) = _
    rw [drR_push, tN_nI (by omega), Nat.add_comm]
theorem mRep_0 {w : Nat → Int32} {ps : List Pr} {dr : List Int32} (h : mRep w ps dr) : mRep (upd (upd w 1 (nI 0)) 2 (nI 0)) ps [] := ⟨h.1, rfl, rfl⟩
theorem drOK_nil : drOK [] := ⟨fun x hx => (by cases hx), by decide⟩
theorem gdS_nI {n : Nat} (h1 : 1 ≤ n) (h2 : n < 128) : gdS (nI n) := by
  unfold gdS
  rw [tN_nI (by omega)]
  exact ⟨h1, h2, rfl⟩
theorem fmOK_set {fm : Nat → Option Frm} {k l j : Nat} {fo : Option Frm} (h : fmOK fm) (hk : k < 2) (hl : l < 3) (hj : j < 9) (hfo : gFo fo) : fmOK (va_up fm (54 * k + 9 * l + j) fo) := ⟨fun n => by
  by_cases e : n = 54 * k + 9 * l + j
  · subst e
    rw [va_up_self]
    exact hfo
  · rw [va_up_ne _ _ e]
    exact h.1 n, fun k2 l2 j2 hk2 hl2 hj2 hz => by
  rw [va_up_ne _ _ (by omega)]
  exact h.2 k2 l2 j2 hk2 hl2 hj2 hz⟩
theorem psOK_C {fm : Nat → Option Frm} {ps : List Pr} {k l j : Nat} (h : psOK ps) (hfm : fmOK fm) (hk : k < 2) (hj : j < 9) : psOK (psC fm ps k l j) := by
  unfold psC
  split
  · cases e : fm (54 * k + j) with
    | none => rw [keepP_n e]; exact h
    | some F => rw [keepP_s hfm (by omega) hj e]; exact psOK_keepL hfm (hfm.1 _ F e) (Nat.le_refl _) h
  · exact h
theorem nRep_num {w : Nat → Int32} {fb : Nat → Nat} {on fw : Nat → Int32} {l : Nat} {x y : Int32} (h : nRep w fb on fw) (hl : l < 3) : nRep (upd (upd w (3 + l) x) (6 + l) y) fb (va_up on l x) (va_up fw l y) := fun i hi => by
  obtain ⟨h1, h2, h3⟩ := h i hi
  by_cases e : i = l
  · subst e
    refine ⟨by rw [pk_un (by omega), pk_un (by omega)]; exact h1, by rw [pk_un (by omega), up_s, va_up_self], by rw [up_s, va_up_self]⟩
  · refine ⟨by rw [pk_un (by omega), pk_un (by omega)]; exact h1, by rw [pk_un (by omega), pk_un (by omega), va_up_ne _ _ e]; exact h2, by rw [pk_un (by omega), pk_un (by omega), va_up_ne _ _ e]; exact h3⟩
theorem nRep_fb {w : Nat → Int32} {fb : Nat → Nat} {on fw : Nat → Int32} {i x : Nat} (h : nRep w fb on fw) (hi : i < 3) : nRep (upd w i (nI x)) (va_up fb i x) on fw := fun l hl => by
  obtain ⟨h1, h2, h3⟩ := h l hl
  by_cases e : l = i
  · subst e
    exact ⟨by rw [up_s, va_up_self], by rw [pk_un (by omega)]; exact h2, by rw [pk_un (by omega)]; exact h3⟩
  · exact ⟨by rw [pk_un (by omega), va_up_ne _ _ e]; exact h1, by rw [pk_un (by omega)]; exact h2, by rw [pk_un (by omega)]; exact h3⟩
theorem nRep_id {w : Nat → Int32} {fb : Nat → Nat} {on fw : Nat → Int32} {i : Nat} (h : nRep w fb on fw) (hi : i < 3) : nRep (upd w i (nI (fb i))) fb on fw := fun l hl => by
  obtain ⟨h1, h2, h3⟩ := h l hl
  by_cases e : l = i
  · subst e
    exact ⟨up_s, by rw [pk_un (by omega)]; exact h2, by rw [pk_un (by omega)]; exact h3⟩
  · exact ⟨by rw [pk_un (by omega)]; exact h1, by rw [pk_un (by omega)]; exact h2, by rw [pk_un (by omega)]; exact h3⟩
theorem fbOK_set {fb : Nat → Nat} {x y : Nat} (h : fbOK fb) (hx : x = 1 ∨ x = 2) (hy : y < 3) (h1 : ¬ x = y) (h2 : ¬ fb y = x) : fbOK (va_up fb x y) := by
  obtain ⟨a0, a1, a2, a3, a4, a5⟩ := h
  unfold fbOK
  rcases hx with rfl | rfl
  · rw [va_up_self, va_up_ne _ _ (by decide), va_up_ne _ _ (by decide)]
    rcases (show y = 0 ∨ y = 2 by omega) with rfl | rfl <;> omega
  · rw [va_up_self, va_up_ne _ _ (by decide), va_up_ne _ _ (by decide)]
    rcases (show y = 0 ∨ y = 1 by omega) with rfl | rfl <;> omega
theorem chP_0 {fb : Nat → Nat} {x n t : Nat} (h : ¬ x = 0) : chP fb x (n + 1) 0 t = none := by
  rw [chP, if_neg (fun z => h z.symm), if_pos rfl]
theorem chP_st {fb : Nat → Nat} {x n l t : Nat} (h : ¬ l = x) (h0 : ¬ l = 0) : chP fb x (n + 1) l t = chP fb x n (fb l) (t + 1) := by
  rw [chP, if_neg h, if_neg h0]
theorem chP_hit {fb : Nat → Nat} {x n t : Nat} : chP fb x (n + 1) x t = some t := by rw [chP, if_pos rfl]
theorem chP_can {fb : Nat → Nat} {x y : Nat} (h : fbOK fb) (hx : x = 1 ∨ x = 2) (hy : y < 3) : chP fb x 6 y 0 = none ↔ ¬ x = y ∧ ¬ fb y = x := by
  obtain ⟨a0, a1, a2, a3, a4, a5⟩ := h
  by_cases e : x = y
  · subst e
    rw [chP_hit]
    exact ⟨fun z => (by cases z), fun z => absurd rfl z.1⟩
  · by_cases e0 : y = 0
    · subst e0
      rw [chP_0 e]
      exact ⟨fun _ => ⟨e, by omega⟩, fun _ => rfl⟩
    · rw [chP_st (fun z => e z.symm) e0]
      by_cases e2 : fb y = x
      · rw [e2, chP_hit]
        exact ⟨fun z => (by cases z), fun z => absurd rfl z.2⟩
      · have e3 : fb y = 0 := by
          rcases hx with rfl | rfl
          · have : y = 2 := by omega
            subst this
            omega
          · have : y = 1 := by omega
            subst this
            omega
        rw [e3, chP_0 (by omega)]
        exact ⟨fun _ => ⟨e, by omega⟩, fun _ => rfl⟩

set_option maxHeartbeats 4000000 in
set_option maxRecDepth 100000 in
theorem kL_acts (l : Launch) (K : m_K) (A : Nat → Prop) (H0 : Heap) (hl0 : l.stackTraces = false) (Ac : Nat → Prop) (hsub : ∀ q, Ac q → A q) (b : Nat → Nat) (hno : ∀ i, i < 6 → ¬ Ac (b i)) (g : Nat → Nat → Int32) (hP : va_P K.1 vwCl (lW K b g) H0) (hD : va_D A (lW K b g)) (o : Nat) (ad : Nat → Nat) (fb : Nat → Nat) (on fw : Nat → Int32) (dr : List Int32) (fm : Nat → Option Frm) (vs ch : Nat → Int32) (ps : List Pr) (hc9 : cOK K Ac H0 o ad fb on fw dr fm vs ch ps) (hA : ∀ q, H0.size ≤ q → Ac q) (hR : lRep g fb on fw dr fm vs ch ps) (y z : Nat) (hy : y < 17) (hz : z < 1000000) : Met l yL_acts wsL_acts ({ frames := 12, cells := 18, slots := 220, locals := 296 } : Room) (m_Pc K A H0 [.ref o, .ref (b 0), .ref (b 1), .ref (b 2), .ref (b 3), .ref (b 4), .ref (b 5), .int (nI y), .int (nI z)]) (va_Qi (fun r H1 => r = bI true ∧ LSt K A Ac b o ad H1) m_B A) 18 220 A := by
  refine m_ofW (by decide) rfl (Nat.le_of_ble_eq_true rfl) ?_
  intro p e s m args below meth c ls hx hb hr hml hown hts hlk hnm hE hsz hS hl
  have hl : lv_has ls 17 [(0, .ref o), (1, .ref (b 0)), (2, .ref (b 1)), (3, .ref (b 2)), (4, .ref (b 3)), (5, .ref (b 4)), (6, .ref (b 5)), (7, .int (nI y)), (8, .int (nI z))] := hl
  obtain ⟨hf, hx1, ha, hq, hn, hm, hfb, hfm, hps, hdr⟩ := hR
  have hdl := hdr.2
  have hdb := hdr.g.lt0
  have hm20 := hps.1
  refine lv_iload hx hb dL_acts_0 (lv_at hl 8 rfl) ?_
  refine lv_iconst (v := nI 2) hx hb dL_acts_2 (by decide) ?_
  refine m_irem hx hb (by omega) (by omega) (by omega) dL_acts_3 ?_
  refine lv_istore (lv' := [(9, .int (nI (z % 2))), (0, .ref o), (1, .ref (b 0)), (2, .ref (b 1)), (3, .ref (b 2)), (4, .ref (b 3)), (5, .ref (b 4)), (6, .ref (b 5)), (7, .int (nI y)), (8, .int (nI z))]) hx hb dL_acts_4 hl (by decide) rfl (fun ls hl => ?_)
  refine lv_iload hx hb dL_acts_6 (lv_at hl 9 rfl) ?_
  refine lv_iconst (v := nI 2) hx hb dL_acts_8 (by decide) ?_
  refine m_idiv hx hb (by omega) (by omega) (by omega) dL_acts_9 ?_
  refine lv_iconst (v := nI 3) hx hb dL_acts_10 (by decide) ?_
  refine m_irem hx hb (by omega) (by omega) (by omega) dL_acts_11 ?_
  refine lv_istore (lv' := [(10, .int (nI ((z / 2) % 3))), (9, .int (nI (z % 2))), (0, .ref o), (1, .ref (b 0)), (2, .ref (b 1)), (3, .ref (b 2)), (4, .ref (b 3)), (5, .ref (b 4)), (6, .ref (b 5)), (7, .int (nI y)), (8, .int (nI z))]) hx hb dL_acts_12 hl (by decide) rfl (fun ls hl => ?_)
  have kk : ∀ (k l9 j : Nat) (ls : Array Slot), k < 2 → l9 < 3 → j < 9 → lv_has ls 17 [(9, .int (nI k)), (10, .int (nI l9)), (0, .ref o), (1, .ref (b 0)), (2, .ref (b 1)), (3, .ref (b 2)), (4, .ref (b 3)), (5, .ref (b 4)), (6, .ref (b 5)), (7, .int (nI y)), (8, .int (nI z))] → W p l e ({ frames := 12, cells := 18, slots := 220, locals := 296 } : Room) s m args below meth c H0 [] 0 0 (MQ below (va_Qi (fun r H1 => r = bI true ∧ LSt K A Ac b o ad H1) m_B A) args s 18 220 A) (F0 m 37 ls [.int (nI j)]) := by
    intro k l9 j ls hk9 hl9 hj9 hl
    refine lv_istore (lv' := [(11, .int (nI j)), (9, .int (nI k)), (10, .int (nI l9)), (0, .ref o), (1, .ref (b 0)), (2, .ref (b 1)), (3, .ref (b 2)), (4, .ref (b 3)), (5, .ref (b 4)), (6, .ref (b 5)), (7, .int (nI y)), (8, .int (nI z))]) hx hb dL_acts_37 hl (by decide) rfl (fun ls hl => ?_)
    refine lv_bipush (v := nI 27) hx hb dL_acts_39 (by decide) ?_
    refine lv_iload hx hb dL_acts_41 (lv_at hl 1 rfl) ?_
    refine m_imul hx hb dL_acts_43 ?_
    refine lv_bipush (v := nI 9) hx hb dL_acts_44 (by decide) ?_
    refine lv_iload hx hb dL_acts_46 (lv_at hl 2 rfl) ?_
    refine m_imul hx hb dL_acts_48 ?_
    refine m_iadd hx hb dL_acts_49 ?_
    refine lv_iload hx hb dL_acts_50 (lv_at hl 0 rfl) ?_
    refine m_iadd hx hb dL_acts_52 ?_
    refine lv_istore (lv' := [(12, .int (nI (((27 * k) + (9 * l9)) + j))), (11, .int (nI j)), (9, .int (nI k)), (10, .int (nI l9)), (0, .ref o), (1, .ref (b 0)), (2, .ref (b 1)), (3, .ref (b 2)), (4, .ref (b 3)), (5, .ref (b 4)), (6, .ref (b 5)), (7, .int (nI y)), (8, .int (nI z))]) hx hb dL_acts_53 hl (by decide) rfl (fun ls hl => ?_)
    refine lv_iload hx hb dL_acts_55 (lv_at hl 11 rfl) ?_
    refine lv_bipush (v := nI 7) hx hb dL_acts_57 (by decide) ?_
    refine m_icmp_ge (tgt := 141) hx hb (by omega) (by omega) dL_acts_59 (by decide) (fun c_59 => ?_) (fun c_59 => ?_)
    · refine lv_iload hx hb dL_acts_141 (lv_at hl 11 rfl) ?_
      refine lv_bipush (v := nI 14) hx hb dL_acts_143 (by decide) ?_
      refine m_icmp_ge (tgt := 304) hx hb (by omega) (by omega) dL_acts_145 (by decide) (fun c_145 => ?_) (fun c_145 => ?_)
      · refine lv_iload hx hb dL_acts_304 (lv_at hl 11 rfl) ?_
        refine lv_bipush (v := nI 14) hx hb dL_acts_306 (by decide) ?_
        refine m_icmp_ne (tgt := 384) hx hb (by omega) (by omega) dL_acts_308 (by decide) (fun c_308 => ?_) (fun c_308 => ?_)
        · refine lv_iload hx hb dL_acts_384 (lv_at hl 11 rfl) ?_
          refine lv_bipush (v := nI 15) hx hb dL_acts_386 (by decide) ?_
          refine m_icmp_ne (tgt := 444) hx hb (by omega) (by omega) dL_acts_388 (by decide) (fun c_388 => ?_) (fun c_388 => ?_)
          · refine lv_iconst (v := nI 1) hx hb dL_acts_444 (by decide) ?_
            refine lv_iload hx hb dL_acts_445 (lv_at hl 12 rfl) ?_
            refine lv_iconst (v := nI 2) hx hb dL_acts_447 (by decide) ?_
            refine m_irem hx hb (by omega) (by omega) (by omega) dL_acts_448 ?_
            refine m_iadd hx hb dL_acts_449 ?_
            have hb1 := hfb.lt (l := z / 2 % 3) (by omega)
            have hb2 := hfb.lt (l := 1 + z % 2) (by omega)
            refine lv_istore (lv' := [(13, .int (nI (1 + (z % 2)))), (12, .int (nI (((27 * k) + (9 * l9)) + j))), (11, .int (nI j)), (9, .int (nI k)), (10, .int (nI l9)), (0, .ref o), (1, .ref (b 0)), (2, .ref (b 1)), (3, .ref (b 2)), (4, .ref (b 3)), (5, .ref (b 4)), (6, .ref (b 5)), (7, .int (nI y)), (8, .int (nI z))]) hx hb dL_acts_450 hl (by decide) rfl (fun ls hl => ?_)
            refine lv_iload hx hb dL_acts_452 (lv_at hl 13 rfl) ?_
            refine lv_iconst (v := nI 2) hx hb dL_acts_454 (by decide) ?_
            refine m_idiv hx hb (by omega) (by omega) (by omega) dL_acts_455 ?_
            refine lv_iconst (v := nI 3) hx hb dL_acts_456 (by decide) ?_
            refine m_irem hx hb (by omega) (by omega) (by omega) dL_acts_457 ?_
            refine lv_istore (lv' := [(14, .int (nI ((z / 2) % 3))), (13, .int (nI (1 + (z % 2)))), (12, .int (nI (((27 * k) + (9 * l9)) + j))), (11, .int (nI j)), (9, .int (nI k)), (10, .int (nI l9)), (0, .ref o), (1, .ref (b 0)), (2, .ref (b 1)), (3, .ref (b 2)), (4, .ref (b 3)), (5, .ref (b 4)), (6, .ref (b 5)), (7, .int (nI y)), (8, .int (nI z))]) hx hb dL_acts_458 hl (by decide) rfl (fun ls hl => ?_)
            refine lv_iload hx hb dL_acts_460 (lv_at hl 1 rfl) ?_
            refine lv_iload hx hb dL_acts_462 (lv_at hl 0 rfl) ?_
            refine m_icmp_eq (tgt := 481) hx hb (by omega) (by omega) dL_acts_464 (by decide) (fun c_464 => ?_) (fun c_464 => ?_)
            · refine lv_iconst (v := nI 0) hx hb dL_acts_481 (by decide) ?_
              refine lv_istore (lv' := [(15, .int (nI 0)), (14, .int (nI ((z / 2) % 3))), (13, .int (nI (1 + (z % 2)))), (12, .int (nI (((27 * k) + (9 * l9)) + j))), (11, .int (nI j)), (9, .int (nI k)), (10, .int (nI l9)), (0, .ref o), (1, .ref (b 0)), (2, .ref (b 1)), (3, .ref (b 2)), (4, .ref (b 3)), (5, .ref (b 4)), (6, .ref (b 5)), (7, .int (nI y)), (8, .int (nI z))]) hx hb dL_acts_482 hl (by decide) rfl (fun ls hl => ?_)
              refine lv_aload hx hb dL_acts_484 (lv_at hl 12 rfl) ?_
              refine lv_iload hx hb dL_acts_486 (lv_at hl 2 rfl) ?_
              refine m_iald hx hb hE.k hP 4 rfl (by omega) (by omega) ((hn _ (by omega)).1) dL_acts_488 ?_
              refine lv_istore (lv' := [(16, .int (nI (fb (1 + z % 2)))), (15, .int (nI 0)), (14, .int (nI ((z / 2) % 3))), (13, .int (nI (1 + (z % 2)))), (12, .int (nI (((27 * k) + (9 * l9)) + j))), (11, .int (nI j)), (9, .int (nI k)), (10, .int (nI l9)), (0, .ref o), (1, .ref (b 0)), (2, .ref (b 1)), (3, .ref (b 2)), (4, .ref (b 3)), (5, .ref (b 4)), (6, .ref (b 5)), (7, .int (nI y)), (8, .int (nI z))]) hx hb dL_acts_489 hl (by decide) rfl (fun ls hl => ?_)
              refine lv_aload hx hb dL_acts_491 (lv_at hl 13 rfl) ?_
              refine lv_iload hx hb dL_acts_493 (lv_at hl 3 rfl) ?_
              refine lv_iload hx hb dL_acts_495 (lv_at hl 1 rfl) ?_
              refine m_if_eq (tgt := 505) hx hb (by omega) dL_acts_497 (by decide) (fun c_497 => ?_) (fun c_497 => ?_)
              · refine lv_iload hx hb dL_acts_505 (lv_at hl 0 rfl) ?_
                refine m_ist6 (i := 4) (n := 9) (f := g 4) (g1 := (va_up g 4 (upd (g 4) (1 + (z % 2)) (nI (fb (1 + z % 2)))))) hx hb hE.k hP hD hc9 hno hsub hS (fun _ => rfl) (fun _ => rfl) (by omega) (by decide) dL_acts_507 (fun H locs hP hD hc9 hS => ?_)
                refine lv_aload_n hx hb dL_acts_508 rfl (lv_at hl 8 rfl) ?_
                refine lv_iload hx hb dL_acts_509 (lv_at hl 3 rfl) ?_
                refine lv_iload hx hb dL_acts_511 (lv_at hl 2 rfl) ?_
                refine m_cWi (rest := []) ⟨hx, hb, hml, hown, hts⟩ hE hS hsub (kL_fallen l K Ac _ hl0 o ad fb on fw dr fm vs ch ps hc9 (fun q h => hA q (by rw [← hsz]; exact Nat.le_trans hS.1 h)) (1 + z % 2) (z / 2 % 3) (by omega) (by omega) (by omega)) (vx_cwSW 3 hts gL_acts_L_fallen rfl rfl rfl (by decide +kernel) ⟨Nat.le_of_ble_eq_true rfl, Nat.le_of_ble_eq_true rfl⟩) rfl rfl hl.1 rfl (Nat.le_of_ble_eq_true rfl) dL_acts_513 ⟨Nat.le_of_ble_eq_true rfl, Nat.le_of_ble_eq_true rfl⟩ (fun r H1 locs hp hS hk => ?_)
                obtain ⟨rfl, hc9⟩ := hp.elim (fun h => absurd ((chP_can hfb (show 1 + z % 2 = 1 ∨ 1 + z % 2 = 2 by omega) (show z / 2 % 3 < 3 by omega)).mp h.1) (fun z9 => z9.1 c_464)) (fun h => h.2)
                have hP := lW_kept hP (fun i hi => hk (b i) (lW_lt hP hi) (hno i hi))
                refine lv_iload hx hb dL_acts_516 (lv_at hl 1 rfl) ?_
                refine m_if_eq (tgt := 526) hx hb (by omega) dL_acts_518 (by decide) (fun c_518 => ?_) (fun c_518 => ?_)
                · refine lv_bipush (v := (-5)) hx hb dL_acts_526 (by decide) ?_
                  refine lv_icmp_ne (tgt := 535) hx hb dL_acts_528 (by decide) (fun c_528 => ?_) (fun c_528 => ?_)
                  · exact absurd rfl c_528
                  · refine lv_iconst (v := nI 1) hx hb dL_acts_531 (by decide) ?_
                    refine lv_goto (tgt := 536) hx hb dL_acts_532 (by decide) ?_
                    refine W.eq (g2 := F0 m 536 ls [.int (bI true)]) (by rfl) ?_
                    exact m_zret hx hb hr hlk hS (Nat.le_of_ble_eq_true rfl) (Nat.le_of_ble_eq_true rfl) dL_acts_536 (⟨rfl, (va_up g 4 (upd (g 4) (1 + (z % 2)) (nI (fb (1 + z % 2))))), _, _, _, _, _, _, _, _, hP, hD, hc9, ⟨hf, hx1, ha, hq, (nRep_id hn (by omega)), hm, hfb, hfm, hps, hdr⟩⟩)
                · exact absurd c_518 (by first | decide | exact (show ¬ false = true by decide) | exact (show ¬ true = false by decide))
              · exact absurd c_497 (by first | decide | exact (show ¬ false = true by decide) | exact (show ¬ true = false by decide))
            · refine lv_aload hx hb dL_acts_467 (lv_at hl 11 rfl) ?_
              refine lv_iload hx hb dL_acts_469 (lv_at hl 0 rfl) ?_
              refine m_iald hx hb hE.k hP 4 rfl (by omega) (by omega) ((hn _ (by omega)).1) dL_acts_471 ?_
              refine lv_iload hx hb dL_acts_472 (lv_at hl 1 rfl) ?_
              refine m_icmp_eq (tgt := 481) hx hb (by omega) (by omega) dL_acts_474 (by decide) (fun c_474 => ?_) (fun c_474 => ?_)
              · refine lv_iconst (v := nI 0) hx hb dL_acts_481 (by decide) ?_
                refine lv_istore (lv' := [(15, .int (nI 0)), (14, .int (nI ((z / 2) % 3))), (13, .int (nI (1 + (z % 2)))), (12, .int (nI (((27 * k) + (9 * l9)) + j))), (11, .int (nI j)), (9, .int (nI k)), (10, .int (nI l9)), (0, .ref o), (1, .ref (b 0)), (2, .ref (b 1)), (3, .ref (b 2)), (4, .ref (b 3)), (5, .ref (b 4)), (6, .ref (b 5)), (7, .int (nI y)), (8, .int (nI z))]) hx hb dL_acts_482 hl (by decide) rfl (fun ls hl => ?_)
                refine lv_aload hx hb dL_acts_484 (lv_at hl 12 rfl) ?_
                refine lv_iload hx hb dL_acts_486 (lv_at hl 2 rfl) ?_
                refine m_iald hx hb hE.k hP 4 rfl (by omega) (by omega) ((hn _ (by omega)).1) dL_acts_488 ?_
                refine lv_istore (lv' := [(16, .int (nI (fb (1 + z % 2)))), (15, .int (nI 0)), (14, .int (nI ((z / 2) % 3))), (13, .int (nI (1 + (z % 2)))), (12, .int (nI (((27 * k) + (9 * l9)) + j))), (11, .int (nI j)), (9, .int (nI k)), (10, .int (nI l9)), (0, .ref o), (1, .ref (b 0)), (2, .ref (b 1)), (3, .ref (b 2)), (4, .ref (b 3)), (5, .ref (b 4)), (6, .ref (b 5)), (7, .int (nI y)), (8, .int (nI z))]) hx hb dL_acts_489 hl (by decide) rfl (fun ls hl => ?_)
                refine lv_aload hx hb dL_acts_491 (lv_at hl 13 rfl) ?_
                refine lv_iload hx hb dL_acts_493 (lv_at hl 3 rfl) ?_
                refine lv_iload hx hb dL_acts_495 (lv_at hl 1 rfl) ?_
                refine m_if_eq (tgt := 505) hx hb (by omega) dL_acts_497 (by decide) (fun c_497 => ?_) (fun c_497 => ?_)
                · refine lv_iload hx hb dL_acts_505 (lv_at hl 0 rfl) ?_
                  refine m_ist6 (i := 4) (n := 9) (f := g 4) (g1 := (va_up g 4 (upd (g 4) (1 + (z % 2)) (nI (fb (1 + z % 2)))))) hx hb hE.k hP hD hc9 hno hsub hS (fun _ => rfl) (fun _ => rfl) (by omega) (by decide) dL_acts_507 (fun H locs hP hD hc9 hS => ?_)
                  refine lv_aload_n hx hb dL_acts_508 rfl (lv_at hl 8 rfl) ?_
                  refine lv_iload hx hb dL_acts_509 (lv_at hl 3 rfl) ?_
                  refine lv_iload hx hb dL_acts_511 (lv_at hl 2 rfl) ?_
                  refine m_cWi (rest := []) ⟨hx, hb, hml, hown, hts⟩ hE hS hsub (kL_fallen l K Ac _ hl0 o ad fb on fw dr fm vs ch ps hc9 (fun q h => hA q (by rw [← hsz]; exact Nat.le_trans hS.1 h)) (1 + z % 2) (z / 2 % 3) (by omega) (by omega) (by omega)) (vx_cwSW 3 hts gL_acts_L_fallen rfl rfl rfl (by decide +kernel) ⟨Nat.le_of_ble_eq_true rfl, Nat.le_of_ble_eq_true rfl⟩) rfl rfl hl.1 rfl (Nat.le_of_ble_eq_true rfl) dL_acts_513 ⟨Nat.le_of_ble_eq_true rfl, Nat.le_of_ble_eq_true rfl⟩ (fun r H1 locs hp hS hk => ?_)
                  obtain ⟨rfl, hc9⟩ := hp.elim (fun h => absurd ((chP_can hfb (show 1 + z % 2 = 1 ∨ 1 + z % 2 = 2 by omega) (show z / 2 % 3 < 3 by omega)).mp h.1) (fun z9 => z9.2 c_474)) (fun h => h.2)
                  have hP := lW_kept hP (fun i hi => hk (b i) (lW_lt hP hi) (hno i hi))
                  refine lv_iload hx hb dL_acts_516 (lv_at hl 1 rfl) ?_
                  refine m_if_eq (tgt := 526) hx hb (by omega) dL_acts_518 (by decide) (fun c_518 => ?_) (fun c_518 => ?_)
                  · refine lv_bipush (v := (-5)) hx hb dL_acts_526 (by decide) ?_
                    refine lv_icmp_ne (tgt := 535) hx hb dL_acts_528 (by decide) (fun c_528 => ?_) (fun c_528 => ?_)
                    · exact absurd rfl c_528
                    · refine lv_iconst (v := nI 1) hx hb dL_acts_531 (by decide) ?_
                      refine lv_goto (tgt := 536) hx hb dL_acts_532 (by decide) ?_
                      refine W.eq (g2 := F0 m 536 ls [.int (bI true)]) (by rfl) ?_
                      exact m_zret hx hb hr hlk hS (Nat.le_of_ble_eq_true rfl) (Nat.le_of_ble_eq_true rfl) dL_acts_536 (⟨rfl, (va_up g 4 (upd (g 4) (1 + (z % 2)) (nI (fb (1 + z % 2))))), _, _, _, _, _, _, _, _, hP, hD, hc9, ⟨hf, hx1, ha, hq, (nRep_id hn (by omega)), hm, hfb, hfm, hps, hdr⟩⟩)
                  · exact absurd c_518 (by first | decide | exact (show ¬ false = true by decide) | exact (show ¬ true = false by decide))
                · exact absurd c_497 (by first | decide | exact (show ¬ false = true by decide) | exact (show ¬ true = false by decide))
              · refine lv_iconst (v := nI 1) hx hb dL_acts_477 (by decide) ?_
                refine lv_goto (tgt := 482) hx hb dL_acts_478 (by decide) ?_
                refine lv_istore (lv' := [(15, .int (nI 1)), (14, .int (nI ((z / 2) % 3))), (13, .int (nI (1 + (z % 2)))), (12, .int (nI (((27 * k) + (9 * l9)) + j))), (11, .int (nI j)), (9, .int (nI k)), (10, .int (nI l9)), (0, .ref o), (1, .ref (b 0)), (2, .ref (b 1)), (3, .ref (b 2)), (4, .ref (b 3)), (5, .ref (b 4)), (6, .ref (b 5)), (7, .int (nI y)), (8, .int (nI z))]) hx hb dL_acts_482 hl (by decide) rfl (fun ls hl => ?_)
                refine lv_aload hx hb dL_acts_484 (lv_at hl 12 rfl) ?_
                refine lv_iload hx hb dL_acts_486 (lv_at hl 2 rfl) ?_
                refine m_iald hx hb hE.k hP 4 rfl (by omega) (by omega) ((hn _ (by omega)).1) dL_acts_488 ?_
                refine lv_istore (lv' := [(16, .int (nI (fb (1 + z % 2)))), (15, .int (nI 1)), (14, .int (nI ((z / 2) % 3))), (13, .int (nI (1 + (z % 2)))), (12, .int (nI (((27 * k) + (9 * l9)) + j))), (11, .int (nI j)), (9, .int (nI k)), (10, .int (nI l9)), (0, .ref o), (1, .ref (b 0)), (2, .ref (b 1)), (3, .ref (b 2)), (4, .ref (b 3)), (5, .ref (b 4)), (6, .ref (b 5)), (7, .int (nI y)), (8, .int (nI z))]) hx hb dL_acts_489 hl (by decide) rfl (fun ls hl => ?_)
                refine lv_aload hx hb dL_acts_491 (lv_at hl 13 rfl) ?_
                refine lv_iload hx hb dL_acts_493 (lv_at hl 3 rfl) ?_
                refine lv_iload hx hb dL_acts_495 (lv_at hl 1 rfl) ?_
                refine m_if_eq (tgt := 505) hx hb (by omega) dL_acts_497 (by decide) (fun c_497 => ?_) (fun c_497 => ?_)
                · exact absurd c_497 (by first | decide | exact (show ¬ false = true by decide) | exact (show ¬ true = false by decide))
                · refine lv_iload hx hb dL_acts_500 (lv_at hl 2 rfl) ?_
                  refine lv_goto (tgt := 507) hx hb dL_acts_502 (by decide) ?_
                  refine m_ist6 (i := 4) (n := 9) (f := g 4) (g1 := (va_up g 4 (upd (g 4) (1 + (z % 2)) (nI ((z / 2) % 3))))) hx hb hE.k hP hD hc9 hno hsub hS (fun _ => rfl) (fun _ => rfl) (by omega) (by decide) dL_acts_507 (fun H locs hP hD hc9 hS => ?_)
                  refine lv_aload_n hx hb dL_acts_508 rfl (lv_at hl 8 rfl) ?_
                  refine lv_iload hx hb dL_acts_509 (lv_at hl 3 rfl) ?_
                  refine lv_iload hx hb dL_acts_511 (lv_at hl 2 rfl) ?_
                  refine m_cWi (rest := []) ⟨hx, hb, hml, hown, hts⟩ hE hS hsub (kL_fallen l K Ac _ hl0 o ad fb on fw dr fm vs ch ps hc9 (fun q h => hA q (by rw [← hsz]; exact Nat.le_trans hS.1 h)) (1 + z % 2) (z / 2 % 3) (by omega) (by omega) (by omega)) (vx_cwSW 3 hts gL_acts_L_fallen rfl rfl rfl (by decide +kernel) ⟨Nat.le_of_ble_eq_true rfl, Nat.le_of_ble_eq_true rfl⟩) rfl rfl hl.1 rfl (Nat.le_of_ble_eq_true rfl) dL_acts_513 ⟨Nat.le_of_ble_eq_true rfl, Nat.le_of_ble_eq_true rfl⟩ (fun r H1 locs hp hS hk => ?_)
                  obtain ⟨rfl, hc9⟩ := hp.elim (fun h => h.2) (fun h => absurd ((chP_can hfb (show 1 + z % 2 = 1 ∨ 1 + z % 2 = 2 by omega) (show z / 2 % 3 < 3 by omega)).mpr ⟨c_464, c_474⟩) h.1)
                  have hP := lW_kept hP (fun i hi => hk (b i) (lW_lt hP hi) (hno i hi))
                  refine lv_iload hx hb dL_acts_516 (lv_at hl 1 rfl) ?_
                  refine m_if_eq (tgt := 526) hx hb (by omega) dL_acts_518 (by decide) (fun c_518 => ?_) (fun c_518 => ?_)
                  · exact absurd c_518 (by first | decide | exact (show ¬ false = true by decide) | exact (show ¬ true = false by decide))
                  · refine lv_iload hx hb dL_acts_521 (lv_at hl 0 rfl) ?_
                    refine lv_goto (tgt := 528) hx hb dL_acts_523 (by decide) ?_
                    refine m_icmp_ne (tgt := 535) hx hb (by omega) (by omega) dL_acts_528 (by decide) (fun c_528 => ?_) (fun c_528 => ?_)
                    · exact absurd rfl c_528
                    · refine lv_iconst (v := nI 1) hx hb dL_acts_531 (by decide) ?_
                      refine lv_goto (tgt := 536) hx hb dL_acts_532 (by decide) ?_
                      refine W.eq (g2 := F0 m 536 ls [.int (bI true)]) (by rfl) ?_
                      exact m_zret hx hb hr hlk hS (Nat.le_of_ble_eq_true rfl) (Nat.le_of_ble_eq_true rfl) dL_acts_536 (⟨rfl, (va_up g 4 (upd (g 4) (1 + (z % 2)) (nI ((z / 2) % 3)))), _, _, _, _, _, _, _, _, hP, hD, hc9, ⟨hf, hx1, ha, hq, (nRep_fb hn (by omega)), hm, (fbOK_set hfb (show 1 + z % 2 = 1 ∨ 1 + z % 2 = 2 by omega) (show z / 2 % 3 < 3 by omega) c_464 c_474), hfm, hps, hdr⟩⟩)
          · refine lv_aload hx hb dL_acts_391 (lv_at hl 9 rfl) ?_
            refine lv_iconst (v := nI 3) hx hb dL_acts_393 (by decide) ?_
            refine lv_iload hx hb dL_acts_394 (lv_at hl 3 rfl) ?_
            refine m_iadd hx hb dL_acts_396 ?_
            refine lv_iload hx hb dL_acts_397 (lv_at hl 12 rfl) ?_
            refine lv_bipush (v := nI 6) hx hb dL_acts_399 (by decide) ?_
            refine m_idiv hx hb (by omega) (by omega) (by omega) dL_acts_401 ?_
            refine lv_iconst (v := nI 4) hx hb dL_acts_402 (by decide) ?_
            refine m_irem hx hb (by omega) (by omega) (by omega) dL_acts_403 ?_
            refine m_ist6 (i := 4) (n := 9) (f := g 4) (g1 := (va_up g 4 (upd (g 4) (3 + l9) (nI ((z / 6) % 4))))) hx hb hE.k hP hD hc9 hno hsub hS (fun _ => rfl) (fun _ => rfl) (by omega) (by decide) dL_acts_404 (fun H locs hP hD hc9 hS => ?_)
            refine lv_aload hx hb dL_acts_405 (lv_at hl 9 rfl) ?_
            refine lv_bipush (v := nI 6) hx hb dL_acts_407 (by decide) ?_
            refine lv_iload hx hb dL_acts_409 (lv_at hl 3 rfl) ?_
            refine m_iadd hx hb dL_acts_411 ?_
            refine lv_iload hx hb dL_acts_412 (lv_at hl 12 rfl) ?_
            refine lv_bipush (v := nI 24) hx hb dL_acts_414 (by decide) ?_
            refine m_idiv hx hb (by omega) (by omega) (by omega) dL_acts_416 ?_
            refine lv_bipush (v := nI 6) hx hb dL_acts_417 (by decide) ?_
            refine m_irem hx hb (by omega) (by omega) (by omega) dL_acts_419 ?_
            refine m_ist6 (i := 4) (n := 9) (f := (upd (g 4) (3 + l9) (nI ((z / 6) % 4)))) (g1 := (va_up (va_up g 4 (upd (g 4) (3 + l9) (nI ((z / 6) % 4)))) 4 (upd (upd (g 4) (3 + l9) (nI ((z / 6) % 4))) (6 + l9) (nI ((z / 24) % 6))))) hx hb hE.k hP hD hc9 hno hsub hS (fun _ => rfl) (fun _ => rfl) (by omega) (by decide) dL_acts_420 (fun H locs hP hD hc9 hS => ?_)
            refine lv_aload_n hx hb dL_acts_421 rfl (lv_at hl 4 rfl) ?_
            refine lv_iload hx hb dL_acts_422 (lv_at hl 3 rfl) ?_
            refine lv_aload hx hb dL_acts_424 (lv_at hl 9 rfl) ?_
            refine lv_iconst (v := nI 3) hx hb dL_acts_426 (by decide) ?_
            refine lv_iload hx hb dL_acts_427 (lv_at hl 3 rfl) ?_
            refine m_iadd hx hb dL_acts_429 ?_
            refine m_iald hx hb hE.k hP 4 rfl (by omega) (by omega) (by show upd (upd (g 4) (3 + l9) (nI (z / 6 % 4))) (6 + l9) (nI (z / 24 % 6)) (3 + l9) = nI (z / 6 % 4); rw [pk_un (by omega)]; exact up_s) dL_acts_430 ?_
            refine lv_aload hx hb dL_acts_431 (lv_at hl 9 rfl) ?_
            refine lv_bipush (v := nI 6) hx hb dL_acts_433 (by decide) ?_
            refine lv_iload hx hb dL_acts_435 (lv_at hl 3 rfl) ?_
            refine m_iadd hx hb dL_acts_437 ?_
            refine m_iald hx hb hE.k hP 4 rfl (by omega) (by omega) (show upd _ (6 + l9) (nI (z / 24 % 6)) (6 + l9) = nI (z / 24 % 6) from up_s) dL_acts_438 ?_
            obtain ⟨f7, d7, ft7, li7, T7, hPc, hDc, hRc⟩ := id hc9
            refine m_xVv (rest := []) ⟨hx, hb, hml, hown, hts⟩ hE hS hsub (kX2_setNumbers l hl0 K Ac _ o ad fb on fw dr fm vs ch ps hc9 (fun q h => hA q (by rw [← hsz]; exact Nat.le_trans hS.1 h)) (nI l9) (nI (z / 6 % 4)) (nI (z / 24 % 6))) (cwV 3 hts gL_acts_X2_setNumbers rfl rfl rfl (by decide +kernel) ⟨Nat.le_of_ble_eq_true rfl, Nat.le_of_ble_eq_true rfl⟩) (va_recv hE.k hPc (ci := 3) (q0 := 0) rfl rfl) rfl rfl hl.1 rfl (Nat.le_of_ble_eq_true rfl) dL_acts_439 ⟨Nat.le_of_ble_eq_true rfl, Nat.le_of_ble_eq_true rfl⟩ (fun E ce q9 H9 locs9 hx9 hs9 hS9 y1 y2 y3 => (hx9.elim (fun h => h.2 (okN_nI (by omega) (by decide))) (fun h => h.2.2 ⟨okN_nI (by omega) (by decide), okN_nI (by omega) (by decide)⟩)).elim) (fun H1 locs hp hS hk => ?_)
            rw [tN_nI (show l9 < 2147483648 by omega)] at hp
            obtain ⟨-, -, -, hc9⟩ := hp
            have hP := lW_kept hP (fun i hi => hk (b i) (lW_lt hP hi) (hno i hi))
            refine lv_iconst (v := nI 1) hx hb dL_acts_442 (by decide) ?_
            refine W.eq (g2 := F0 m 443 ls [.int (bI true)]) (by rfl) ?_
            exact m_zret hx hb hr hlk hS (Nat.le_of_ble_eq_true rfl) (Nat.le_of_ble_eq_true rfl) dL_acts_443 (⟨rfl, (va_up (va_up g 4 (upd (g 4) (3 + l9) (nI ((z / 6) % 4)))) 4 (upd (upd (g 4) (3 + l9) (nI ((z / 6) % 4))) (6 + l9) (nI ((z / 24) % 6)))), _, _, _, _, _, _, _, _, hP, hD, hc9, ⟨hf, hx1, ha, hq, (nRep_num hn hl9), hm, hfb, hfm, hps, hdr⟩⟩)
        · refine lv_aload_n hx hb dL_acts_311 rfl (lv_at hl 5 rfl) ?_
          cases hFO : fm (54 * k + 9 * l9 + j) with
          | none =>
            refine lv_iload hx hb dL_acts_312 (lv_at hl 0 rfl) ?_
            refine m_iald hx hb hE.k hP 0 rfl (by omega) (by omega) ((hf k l9 j hk9 hl9 hj9).trans (fR_n hFO)) dL_acts_314 ?_
            refine m_if_ne (tgt := 323) hx hb (by omega) dL_acts_315 (by decide) (fun c_315 => ?_) (fun c_315 => ?_)
            · exact absurd c_315 (by first | decide | exact (show ¬ false = true by decide) | exact (show ¬ true = false by decide))
            · refine lv_bipush (v := (-5)) hx hb dL_acts_318 (by decide) ?_
              refine lv_goto (tgt := 330) hx hb dL_acts_320 (by decide) ?_
              refine lv_istore (lv' := [(13, .int (-5)), (12, .int (nI (((27 * k) + (9 * l9)) + j))), (11, .int (nI j)), (9, .int (nI k)), (10, .int (nI l9)), (0, .ref o), (1, .ref (b 0)), (2, .ref (b 1)), (3, .ref (b 2)), (4, .ref (b 3)), (5, .ref (b 4)), (6, .ref (b 5)), (7, .int (nI y)), (8, .int (nI z))]) hx hb dL_acts_330 hl (by decide) rfl (fun ls hl => ?_)
              refine lv_iload hx hb dL_acts_332 (lv_at hl 0 rfl) ?_
              refine lv_if_le (tgt := 357) hx hb dL_acts_334 (by decide) (fun c_334 => ?_) (fun c_334 => ?_)
              · refine lv_aload_n hx hb dL_acts_357 rfl (lv_at hl 5 rfl) ?_
                refine lv_iload hx hb dL_acts_358 (lv_at hl 3 rfl) ?_
                refine lv_iload hx hb dL_acts_360 (lv_at hl 4 rfl) ?_
                refine lv_iload hx hb dL_acts_362 (lv_at hl 2 rfl) ?_
                refine lv_iconst (v := nI 3) hx hb dL_acts_364 (by decide) ?_
                refine m_idiv hx hb (by omega) (by omega) (by omega) dL_acts_365 ?_
                refine lv_iload hx hb dL_acts_366 (lv_at hl 2 rfl) ?_
                refine lv_iconst (v := nI 3) hx hb dL_acts_368 (by decide) ?_
                refine m_irem hx hb (by omega) (by omega) (by omega) dL_acts_369 ?_
                refine m_cWi (rest := []) ⟨hx, hb, hml, hown, hts⟩ hE hS hsub (kL_removed l K Ac _ hl0 o ad fb on fw dr fm vs ch ps hc9 (fun q h => hA q (by rw [← hsz]; exact Nat.le_trans hS.1 h)) k l9 j (by omega) (by omega) hj9) (vx_cwSW 5 hts gL_acts_L_removed rfl rfl rfl (by decide +kernel) ⟨Nat.le_of_ble_eq_true rfl, Nat.le_of_ble_eq_true rfl⟩) rfl rfl hl.1 rfl (Nat.le_of_ble_eq_true rfl) dL_acts_370 ⟨Nat.le_of_ble_eq_true rfl, Nat.le_of_ble_eq_true rfl⟩ (fun r H1 locs hp hS hk => ?_)
                obtain ⟨rfl, hc9⟩ := hp.elim (fun h => absurd hFO h.1) (fun h => h.2)
                have hP := lW_kept hP (fun i hi => hk (b i) (lW_lt hP hi) (hno i hi))
                refine lv_iload hx hb dL_acts_373 (lv_at hl 0 rfl) ?_
                refine lv_icmp_ne (tgt := 382) hx hb dL_acts_375 (by decide) (fun c_375 => ?_) (fun c_375 => ?_)
                · exact absurd rfl c_375
                · refine lv_iconst (v := nI 1) hx hb dL_acts_378 (by decide) ?_
                  refine lv_goto (tgt := 383) hx hb dL_acts_379 (by decide) ?_
                  refine W.eq (g2 := F0 m 383 ls [.int (bI true)]) (by rfl) ?_
                  exact m_zret hx hb hr hlk hS (Nat.le_of_ble_eq_true rfl) (Nat.le_of_ble_eq_true rfl) dL_acts_383 (⟨rfl, g, _, _, _, _, _, _, _, _, hP, hD, hc9, ⟨hf, hx1, ha, hq, hn, hm, hfb, hfm, hps, hdr⟩⟩)
              · exact absurd (by decide) c_334
          | some F =>
            have hgF := hfm.1 _ F hFO
            have hFb := hgF.1.g.lt0
            have hF1 := hgF.2
            have hF4 := hgF.1.2
            have hFp : 0 < enR (drR F.1) := (gFo.pos (fo := some F) (fun G e => by cases e; exact hgF)).mpr rfl
            refine lv_iload hx hb dL_acts_312 (lv_at hl 0 rfl) ?_
            refine m_iald hx hb hE.k hP 0 rfl (by omega) (by omega) ((hf k l9 j hk9 hl9 hj9).trans (fR_s hFO)) dL_acts_314 ?_
            refine m_if_ne (tgt := 323) hx hb (by omega) dL_acts_315 (by decide) (fun c_315 => ?_) (fun c_315 => ?_)
            · refine lv_aload_n hx hb dL_acts_323 rfl (lv_at hl 5 rfl) ?_
              refine lv_iload hx hb dL_acts_324 (lv_at hl 0 rfl) ?_
              refine m_iald hx hb hE.k hP 0 rfl (by omega) (by omega) ((hf k l9 j hk9 hl9 hj9).trans (fR_s hFO)) dL_acts_326 ?_
              refine m_cSi (rest := []) ⟨hx, hb, hml, hown, hts⟩ hE hS (fun _ h => h) (kL_size l K A _ (drR F.1) hgF.1.g) (va_cwS 1 hts gL_acts_L_size rfl rfl rfl (by decide +kernel) ⟨Nat.le_of_ble_eq_true rfl, Nat.le_of_ble_eq_true rfl⟩) rfl rfl hl.1 rfl (Nat.le_of_ble_eq_true rfl) dL_acts_327 ⟨Nat.le_of_ble_eq_true rfl, Nat.le_of_ble_eq_true rfl⟩ (fun r H1 locs hp hS hk => ?_)
              obtain ⟨rfl, rfl⟩ := hp
              rw [drR_len]
              refine lv_istore (lv' := [(13, .int (nI F.1.length)), (12, .int (nI (((27 * k) + (9 * l9)) + j))), (11, .int (nI j)), (9, .int (nI k)), (10, .int (nI l9)), (0, .ref o), (1, .ref (b 0)), (2, .ref (b 1)), (3, .ref (b 2)), (4, .ref (b 3)), (5, .ref (b 4)), (6, .ref (b 5)), (7, .int (nI y)), (8, .int (nI z))]) hx hb dL_acts_330 hl (by decide) rfl (fun ls hl => ?_)
              refine lv_iload hx hb dL_acts_332 (lv_at hl 0 rfl) ?_
              refine m_if_le (tgt := 357) hx hb (by omega) dL_acts_334 (by decide) (fun c_334 => ?_) (fun c_334 => ?_)
              · omega
              · refine lv_aload_n hx hb dL_acts_337 rfl (lv_at hl 6 rfl) ?_
                refine lv_aload_n hx hb dL_acts_338 rfl (lv_at hl 8 rfl) ?_
                refine lv_aload hx hb dL_acts_339 (lv_at hl 9 rfl) ?_
                refine lv_aload hx hb dL_acts_341 (lv_at hl 11 rfl) ?_
                refine lv_iload hx hb dL_acts_343 (lv_at hl 3 rfl) ?_
                refine lv_iload hx hb dL_acts_345 (lv_at hl 4 rfl) ?_
                refine lv_iload hx hb dL_acts_347 (lv_at hl 2 rfl) ?_
                refine m_cSv (rest := []) ⟨hx, hb, hml, hown, hts⟩ hE hS (fun q h => h.1) (kL_change l K (fun q => A q ∧ ¬ Ac q) _ b g hP (hD.weaken (fun i p hi h => ⟨h, by rw [(lW_at hi).2]; exact hno _ (lW_at hi).1⟩)) fm hfm hf vs ch ha ps hps hq dr hm k l9 j hk9 hl9 hj9) (va_cwS 7 hts gL_acts_L_change rfl rfl rfl (by decide +kernel) ⟨Nat.le_of_ble_eq_true rfl, Nat.le_of_ble_eq_true rfl⟩) rfl rfl hl.1 rfl (Nat.le_of_ble_eq_true rfl) dL_acts_349 ⟨Nat.le_of_ble_eq_true rfl, Nat.le_of_ble_eq_true rfl⟩ (fun H1 locs hp hS hk => ?_)
                obtain ⟨g9, hP, hD9, e0, e1, e4, ha, hq, hm⟩ := hp
                have hD := lW_D (g1 := g9) hD
                have hc9 := hc9.kept (fun q hq h => hk q hq (fun z => z.2 h))
                have hf : fRep (g9 0) fm := by rw [e0]; exact hf
                have hx1 : xRep (g9 1) fm := by rw [e1]; exact hx1
                have hn : nRep (g9 4) fb on fw := by rw [e4]; exact hn
                refine lv_aload_n hx hb dL_acts_352 rfl (lv_at hl 6 rfl) ?_
                refine lv_iload hx hb dL_acts_353 (lv_at hl 1 rfl) ?_
                refine lv_iconst (v := nI 0) hx hb dL_acts_355 (by decide) ?_
                refine m_ist6 (i := 0) (n := 54) (f := g9 0) (g1 := (va_up g9 0 (upd (g9 0) (((27 * k) + (9 * l9)) + j) (nI 0)))) hx hb hE.k hP hD hc9 hno hsub hS (fun _ => rfl) (fun _ => rfl) (by omega) (by decide) dL_acts_356 (fun H locs hP hD hc9 hS => ?_)
                refine lv_aload_n hx hb dL_acts_357 rfl (lv_at hl 5 rfl) ?_
                refine lv_iload hx hb dL_acts_358 (lv_at hl 3 rfl) ?_
                refine lv_iload hx hb dL_acts_360 (lv_at hl 4 rfl) ?_
                refine lv_iload hx hb dL_acts_362 (lv_at hl 2 rfl) ?_
                refine lv_iconst (v := nI 3) hx hb dL_acts_364 (by decide) ?_
                refine m_idiv hx hb (by omega) (by omega) (by omega) dL_acts_365 ?_
                refine lv_iload hx hb dL_acts_366 (lv_at hl 2 rfl) ?_
                refine lv_iconst (v := nI 3) hx hb dL_acts_368 (by decide) ?_
                refine m_irem hx hb (by omega) (by omega) (by omega) dL_acts_369 ?_
                refine m_cWi (rest := []) ⟨hx, hb, hml, hown, hts⟩ hE hS hsub (kL_removed l K Ac _ hl0 o ad fb on fw dr fm vs ch ps hc9 (fun q h => hA q (by rw [← hsz]; exact Nat.le_trans hS.1 h)) k l9 j (by omega) (by omega) hj9) (vx_cwSW 5 hts gL_acts_L_removed rfl rfl rfl (by decide +kernel) ⟨Nat.le_of_ble_eq_true rfl, Nat.le_of_ble_eq_true rfl⟩) rfl rfl hl.1 rfl (Nat.le_of_ble_eq_true rfl) dL_acts_370 ⟨Nat.le_of_ble_eq_true rfl, Nat.le_of_ble_eq_true rfl⟩ (fun r H1 locs hp hS hk => ?_)
                obtain ⟨hr9, hc9⟩ := hp.elim (fun h => h.2) (fun h => by rw [hFO] at h; cases h.1)
                have hr9 : r = nI F.1.length := by rw [hr9, hFO]; rfl
                subst hr9
                have hP := lW_kept hP (fun i hi => hk (b i) (lW_lt hP hi) (hno i hi))
                refine lv_iload hx hb dL_acts_373 (lv_at hl 0 rfl) ?_
                refine m_icmp_ne (tgt := 382) hx hb (by omega) (by omega) dL_acts_375 (by decide) (fun c_375 => ?_) (fun c_375 => ?_)
                · exact absurd rfl c_375
                · refine lv_iconst (v := nI 1) hx hb dL_acts_378 (by decide) ?_
                  refine lv_goto (tgt := 383) hx hb dL_acts_379 (by decide) ?_
                  refine W.eq (g2 := F0 m 383 ls [.int (bI true)]) (by rfl) ?_
                  exact m_zret hx hb hr hlk hS (Nat.le_of_ble_eq_true rfl) (Nat.le_of_ble_eq_true rfl) dL_acts_383 (⟨rfl, (va_up g9 0 (upd (g9 0) (((27 * k) + (9 * l9)) + j) (nI 0))), _, _, _, _, _, _, _, _, hP, hD, hc9, ⟨(fRep_up hf hk9 hl9 hj9 none), (xRep_rm hx1), ha, hq, hn, hm, hfb, (fmOK_set hfm hk9 hl9 hj9 (fun F e => by cases e)), (psOK_C hps hfm hk9 hj9), hdr⟩⟩)
            · omega
      · refine lv_aload hx hb dL_acts_148 (lv_at hl 10 rfl) ?_
        refine lv_iconst (v := nI 1) hx hb dL_acts_150 (by decide) ?_
        refine m_iald hx hb hE.k hP 5 rfl (by omega) (by omega) hm.2.1 dL_acts_151 ?_
        refine m_if_ne (tgt := 183) hx hb (by omega) dL_acts_152 (by decide) (fun c_152 => ?_) (fun c_152 => ?_)
        · refine lv_iload hx hb dL_acts_183 (lv_at hl 12 rfl) ?_
          refine lv_sipush (v := nI 162) hx hb dL_acts_185 (by decide) ?_
          refine m_idiv hx hb (by omega) (by omega) (by omega) dL_acts_188 ?_
          refine lv_iconst (v := nI 3) hx hb dL_acts_189 (by decide) ?_
          refine m_irem hx hb (by omega) (by omega) (by omega) dL_acts_190 ?_
          refine m_if_ne (tgt := 198) hx hb (by omega) dL_acts_191 (by decide) (fun c_191 => ?_) (fun c_191 => ?_)
          · refine lv_iconst (v := nI 0) hx hb dL_acts_198 (by decide) ?_
            refine W.eq (g2 := F0 m 199 ls [.int (bI false)]) (by rfl) ?_
            refine lv_istore (lv' := [(13, .int (bI false)), (12, .int (nI (((27 * k) + (9 * l9)) + j))), (11, .int (nI j)), (9, .int (nI k)), (10, .int (nI l9)), (0, .ref o), (1, .ref (b 0)), (2, .ref (b 1)), (3, .ref (b 2)), (4, .ref (b 3)), (5, .ref (b 4)), (6, .ref (b 5)), (7, .int (nI y)), (8, .int (nI z))]) hx hb dL_acts_199 hl (by decide) rfl (fun ls hl => ?_)
            refine lv_aload_n hx hb dL_acts_201 rfl (lv_at hl 6 rfl) ?_
            refine lv_aload_n hx hb dL_acts_202 rfl (lv_at hl 8 rfl) ?_
            refine lv_aload hx hb dL_acts_203 (lv_at hl 9 rfl) ?_
            refine lv_aload hx hb dL_acts_205 (lv_at hl 11 rfl) ?_
            refine lv_iload hx hb dL_acts_207 (lv_at hl 3 rfl) ?_
            refine lv_iload hx hb dL_acts_209 (lv_at hl 4 rfl) ?_
            refine lv_iload hx hb dL_acts_211 (lv_at hl 2 rfl) ?_
            refine m_cSv (rest := []) ⟨hx, hb, hml, hown, hts⟩ hE hS (fun q h => h.1) (kL_change l K (fun q => A q ∧ ¬ Ac q) _ b g hP (hD.weaken (fun i p hi h => ⟨h, by rw [(lW_at hi).2]; exact hno _ (lW_at hi).1⟩)) fm hfm hf vs ch ha ps hps hq dr hm k l9 j hk9 hl9 hj9) (va_cwS 7 hts gL_acts_L_change rfl rfl rfl (by decide +kernel) ⟨Nat.le_of_ble_eq_true rfl, Nat.le_of_ble_eq_true rfl⟩) rfl rfl hl.1 rfl (Nat.le_of_ble_eq_true rfl) dL_acts_213 ⟨Nat.le_of_ble_eq_true rfl, Nat.le_of_ble_eq_true rfl⟩ (fun H1 locs hp hS hk => ?_)
            obtain ⟨g9, hP, hD9, e0, e1, e4, ha, hq, hm⟩ := hp
            have hD := lW_D (g1 := g9) hD
            have hc9 := hc9.kept (fun q hq h => hk q hq (fun z => z.2 h))
            have hf : fRep (g9 0) fm := by rw [e0]; exact hf
            have hx1 : xRep (g9 1) fm := by rw [e1]; exact hx1
            have hn : nRep (g9 4) fb on fw := by rw [e4]; exact hn
            refine lv_aload_n hx hb dL_acts_216 rfl (lv_at hl 6 rfl) ?_
            refine lv_iload hx hb dL_acts_217 (lv_at hl 1 rfl) ?_
            refine lv_aload hx hb dL_acts_219 (lv_at hl 11 rfl) ?_
            refine lv_iconst (v := nI 2) hx hb dL_acts_221 (by decide) ?_
            refine m_iald hx hb hE.k hP 5 rfl (by omega) (by omega) hm.2.2 dL_acts_222 ?_
            refine m_ist6 (i := 0) (n := 54) (f := g9 0) (g1 := (va_up g9 0 (upd (g9 0) (((27 * k) + (9 * l9)) + j) (nI (enR (drR dr)))))) hx hb hE.k hP hD hc9 hno hsub hS (fun _ => rfl) (fun _ => rfl) (by omega) (by decide) dL_acts_223 (fun H locs hP hD hc9 hS => ?_)
            refine lv_aload_n hx hb dL_acts_224 rfl (lv_at hl 7 rfl) ?_
            refine lv_iconst (v := nI 3) hx hb dL_acts_225 (by decide) ?_
            refine lv_iload hx hb dL_acts_226 (lv_at hl 3 rfl) ?_
            refine m_imul hx hb dL_acts_228 ?_
            refine lv_iload hx hb dL_acts_229 (lv_at hl 4 rfl) ?_
            refine m_iadd hx hb dL_acts_231 ?_
            refine lv_aload_n hx hb dL_acts_232 rfl (lv_at hl 7 rfl) ?_
            refine lv_iconst (v := nI 3) hx hb dL_acts_233 (by decide) ?_
            refine lv_iload hx hb dL_acts_234 (lv_at hl 3 rfl) ?_
            refine m_imul hx hb dL_acts_236 ?_
            refine lv_iload hx hb dL_acts_237 (lv_at hl 4 rfl) ?_
            refine m_iadd hx hb dL_acts_239 ?_
            refine m_iald hx hb hE.k hP 1 rfl (by omega) (by omega) rfl dL_acts_240 ?_
            refine lv_iconst (v := nI 1) hx hb dL_acts_241 (by decide) ?_
            refine lv_iload hx hb dL_acts_242 (lv_at hl 2 rfl) ?_
            refine lv_ishl hx hb dL_acts_244 ?_
            refine lv_iconst (v := (-1)) hx hb dL_acts_245 (by decide) ?_
            refine lv_ixor hx hb dL_acts_246 ?_
            refine lv_iand hx hb dL_acts_247 ?_
            refine lv_iload hx hb dL_acts_248 (lv_at hl 0 rfl) ?_
            refine m_if_eq_b (tgt := 260) hx hb dL_acts_250 (by decide) (fun c_250 => ?_) (fun c_250 => ?_)
            · refine lv_iconst (v := nI 0) hx hb dL_acts_260 (by decide) ?_
              refine lv_ior hx hb dL_acts_261 ?_
              refine m_ist6 (i := 1) (n := 6) (f := g9 1) (g1 := (va_up (va_up g9 0 (upd (g9 0) (((27 * k) + (9 * l9)) + j) (nI (enR (drR dr))))) 1 (upd (g9 1) ((3 * k) + l9) (((g9 1 ((3 * k) + l9)) &&& (((nI 1) <<< (nI j &&& 31)) ^^^ (-1))) ||| (nI 0))))) hx hb hE.k hP hD hc9 hno hsub hS (fun _ => rfl) (fun _ => rfl) (by omega) (by decide) dL_acts_262 (fun H locs hP hD hc9 hS => ?_)
              refine lv_aload hx hb dL_acts_263 (lv_at hl 11 rfl) ?_
              refine lv_iconst (v := nI 1) hx hb dL_acts_265 (by decide) ?_
              refine lv_iconst (v := nI 0) hx hb dL_acts_266 (by decide) ?_
              refine m_ist6 (i := 5) (n := 3) (f := g9 5) (g1 := (va_up (va_up (va_up g9 0 (upd (g9 0) (((27 * k) + (9 * l9)) + j) (nI (enR (drR dr))))) 1 (upd (g9 1) ((3 * k) + l9) (((g9 1 ((3 * k) + l9)) &&& (((nI 1) <<< (nI j &&& 31)) ^^^ (-1))) ||| (nI 0)))) 5 (upd (g9 5) 1 (nI 0)))) hx hb hE.k hP hD hc9 hno hsub hS (fun _ => rfl) (fun _ => rfl) (by omega) (by decide) dL_acts_267 (fun H locs hP hD hc9 hS => ?_)
              refine lv_aload hx hb dL_acts_268 (lv_at hl 11 rfl) ?_
              refine lv_iconst (v := nI 2) hx hb dL_acts_270 (by decide) ?_
              refine lv_iconst (v := nI 0) hx hb dL_acts_271 (by decide) ?_
              refine m_ist6 (i := 5) (n := 3) (f := (upd (g9 5) 1 (nI 0))) (g1 := (va_up (va_up (va_up (va_up g9 0 (upd (g9 0) (((27 * k) + (9 * l9)) + j) (nI (enR (drR dr))))) 1 (upd (g9 1) ((3 * k) + l9) (((g9 1 ((3 * k) + l9)) &&& (((nI 1) <<< (nI j &&& 31)) ^^^ (-1))) ||| (nI 0)))) 5 (upd (g9 5) 1 (nI 0))) 5 (upd (upd (g9 5) 1 (nI 0)) 2 (nI 0)))) hx hb hE.k hP hD hc9 hno hsub hS (fun _ => rfl) (fun _ => rfl) (by omega) (by decide) dL_acts_272 (fun H locs hP hD hc9 hS => ?_)
              refine lv_aload_n hx hb dL_acts_273 rfl (lv_at hl 5 rfl) ?_
              refine lv_iload hx hb dL_acts_274 (lv_at hl 3 rfl) ?_
              refine lv_iload hx hb dL_acts_276 (lv_at hl 4 rfl) ?_
              refine lv_iload hx hb dL_acts_278 (lv_at hl 2 rfl) ?_
              refine lv_iconst (v := nI 3) hx hb dL_acts_280 (by decide) ?_
              refine m_idiv hx hb (by omega) (by omega) (by omega) dL_acts_281 ?_
              refine lv_iload hx hb dL_acts_282 (lv_at hl 2 rfl) ?_
              refine lv_iconst (v := nI 3) hx hb dL_acts_284 (by decide) ?_
              refine m_irem hx hb (by omega) (by omega) (by omega) dL_acts_285 ?_
              refine lv_iload hx hb dL_acts_286 (lv_at hl 0 rfl) ?_
              refine m_cWi (rest := []) ⟨hx, hb, hml, hown, hts⟩ hE hS hsub (kL_set l K Ac _ hl0 o ad fb on fw dr fm vs ch ps hc9 (fun q h => hA q (by rw [← hsz]; exact Nat.le_trans hS.1 h)) k l9 j (by omega) (by omega) hj9 false) (vx_cwSW 6 hts gL_acts_L_set rfl rfl rfl (by decide +kernel) ⟨Nat.le_of_ble_eq_true rfl, Nat.le_of_ble_eq_true rfl⟩) rfl rfl hl.1 rfl (Nat.le_of_ble_eq_true rfl) dL_acts_288 ⟨Nat.le_of_ble_eq_true rfl, Nat.le_of_ble_eq_true rfl⟩ (fun r H1 locs hp hS hk => ?_)
              obtain ⟨rfl, hc9⟩ := hp.elim (fun h => h.2) (fun h => absurd (show 0 < dr.length by omega) h.1)
              have hP := lW_kept hP (fun i hi => hk (b i) (lW_lt hP hi) (hno i hi))
              refine lv_aload_n hx hb dL_acts_291 rfl (lv_at hl 8 rfl) ?_
              refine lv_iload hx hb dL_acts_292 (lv_at hl 3 rfl) ?_
              refine m_iald hx hb hE.k hP 2 rfl (by omega) (by omega) ((ha k hk9).1) dL_acts_294 ?_
              refine lv_icmp_ne (tgt := 302) hx hb dL_acts_295 (by decide) (fun c_295 => ?_) (fun c_295 => ?_)
              · exact absurd rfl c_295
              · refine lv_iconst (v := nI 1) hx hb dL_acts_298 (by decide) ?_
                refine lv_goto (tgt := 303) hx hb dL_acts_299 (by decide) ?_
                refine W.eq (g2 := F0 m 303 ls [.int (bI true)]) (by rfl) ?_
                exact m_zret hx hb hr hlk hS (Nat.le_of_ble_eq_true rfl) (Nat.le_of_ble_eq_true rfl) dL_acts_303 (⟨rfl, (va_up (va_up (va_up (va_up g9 0 (upd (g9 0) (((27 * k) + (9 * l9)) + j) (nI (enR (drR dr))))) 1 (upd (g9 1) ((3 * k) + l9) (((g9 1 ((3 * k) + l9)) &&& (((nI 1) <<< (nI j &&& 31)) ^^^ (-1))) ||| (nI 0)))) 5 (upd (g9 5) 1 (nI 0))) 5 (upd (upd (g9 5) 1 (nI 0)) 2 (nI 0))), _, _, _, _, _, _, _, _, hP, hD, hc9, ⟨(fRep_up hf hk9 hl9 hj9 (some (dr, false))), (xRep_set hx1 hk9 hl9 hj9 (fun t ht => bit_set0 hj9 ht)), ha, hq, hn, (mRep_0 hm), hfb, (fmOK_set hfm hk9 hl9 hj9 (fun F e => by cases e; exact ⟨hdr, by show 1 ≤ dr.length; omega⟩)), (psOK_C hps hfm hk9 hj9), drOK_nil⟩⟩)
            · exact absurd c_250 (by first | decide | exact (show ¬ false = true by decide) | exact (show ¬ true = false by decide))
          · refine lv_iconst (v := nI 1) hx hb dL_acts_194 (by decide) ?_
            refine lv_goto (tgt := 199) hx hb dL_acts_195 (by decide) ?_
            refine W.eq (g2 := F0 m 199 ls [.int (bI true)]) (by rfl) ?_
            refine lv_istore (lv' := [(13, .int (bI true)), (12, .int (nI (((27 * k) + (9 * l9)) + j))), (11, .int (nI j)), (9, .int (nI k)), (10, .int (nI l9)), (0, .ref o), (1, .ref (b 0)), (2, .ref (b 1)), (3, .ref (b 2)), (4, .ref (b 3)), (5, .ref (b 4)), (6, .ref (b 5)), (7, .int (nI y)), (8, .int (nI z))]) hx hb dL_acts_199 hl (by decide) rfl (fun ls hl => ?_)
            refine lv_aload_n hx hb dL_acts_201 rfl (lv_at hl 6 rfl) ?_
            refine lv_aload_n hx hb dL_acts_202 rfl (lv_at hl 8 rfl) ?_
            refine lv_aload hx hb dL_acts_203 (lv_at hl 9 rfl) ?_
            refine lv_aload hx hb dL_acts_205 (lv_at hl 11 rfl) ?_
            refine lv_iload hx hb dL_acts_207 (lv_at hl 3 rfl) ?_
            refine lv_iload hx hb dL_acts_209 (lv_at hl 4 rfl) ?_
            refine lv_iload hx hb dL_acts_211 (lv_at hl 2 rfl) ?_
            refine m_cSv (rest := []) ⟨hx, hb, hml, hown, hts⟩ hE hS (fun q h => h.1) (kL_change l K (fun q => A q ∧ ¬ Ac q) _ b g hP (hD.weaken (fun i p hi h => ⟨h, by rw [(lW_at hi).2]; exact hno _ (lW_at hi).1⟩)) fm hfm hf vs ch ha ps hps hq dr hm k l9 j hk9 hl9 hj9) (va_cwS 7 hts gL_acts_L_change rfl rfl rfl (by decide +kernel) ⟨Nat.le_of_ble_eq_true rfl, Nat.le_of_ble_eq_true rfl⟩) rfl rfl hl.1 rfl (Nat.le_of_ble_eq_true rfl) dL_acts_213 ⟨Nat.le_of_ble_eq_true rfl, Nat.le_of_ble_eq_true rfl⟩ (fun H1 locs hp hS hk => ?_)
            obtain ⟨g9, hP, hD9, e0, e1, e4, ha, hq, hm⟩ := hp
            have hD := lW_D (g1 := g9) hD
            have hc9 := hc9.kept (fun q hq h => hk q hq (fun z => z.2 h))
            have hf : fRep (g9 0) fm := by rw [e0]; exact hf
            have hx1 : xRep (g9 1) fm := by rw [e1]; exact hx1
            have hn : nRep (g9 4) fb on fw := by rw [e4]; exact hn
            refine lv_aload_n hx hb dL_acts_216 rfl (lv_at hl 6 rfl) ?_
            refine lv_iload hx hb dL_acts_217 (lv_at hl 1 rfl) ?_
            refine lv_aload hx hb dL_acts_219 (lv_at hl 11 rfl) ?_
            refine lv_iconst (v := nI 2) hx hb dL_acts_221 (by decide) ?_
            refine m_iald hx hb hE.k hP 5 rfl (by omega) (by omega) hm.2.2 dL_acts_222 ?_
            refine m_ist6 (i := 0) (n := 54) (f := g9 0) (g1 := (va_up g9 0 (upd (g9 0) (((27 * k) + (9 * l9)) + j) (nI (enR (drR dr)))))) hx hb hE.k hP hD hc9 hno hsub hS (fun _ => rfl) (fun _ => rfl) (by omega) (by decide) dL_acts_223 (fun H locs hP hD hc9 hS => ?_)
            refine lv_aload_n hx hb dL_acts_224 rfl (lv_at hl 7 rfl) ?_
            refine lv_iconst (v := nI 3) hx hb dL_acts_225 (by decide) ?_
            refine lv_iload hx hb dL_acts_226 (lv_at hl 3 rfl) ?_
            refine m_imul hx hb dL_acts_228 ?_
            refine lv_iload hx hb dL_acts_229 (lv_at hl 4 rfl) ?_
            refine m_iadd hx hb dL_acts_231 ?_
            refine lv_aload_n hx hb dL_acts_232 rfl (lv_at hl 7 rfl) ?_
            refine lv_iconst (v := nI 3) hx hb dL_acts_233 (by decide) ?_
            refine lv_iload hx hb dL_acts_234 (lv_at hl 3 rfl) ?_
            refine m_imul hx hb dL_acts_236 ?_
            refine lv_iload hx hb dL_acts_237 (lv_at hl 4 rfl) ?_
            refine m_iadd hx hb dL_acts_239 ?_
            refine m_iald hx hb hE.k hP 1 rfl (by omega) (by omega) rfl dL_acts_240 ?_
            refine lv_iconst (v := nI 1) hx hb dL_acts_241 (by decide) ?_
            refine lv_iload hx hb dL_acts_242 (lv_at hl 2 rfl) ?_
            refine lv_ishl hx hb dL_acts_244 ?_
            refine lv_iconst (v := (-1)) hx hb dL_acts_245 (by decide) ?_
            refine lv_ixor hx hb dL_acts_246 ?_
            refine lv_iand hx hb dL_acts_247 ?_
            refine lv_iload hx hb dL_acts_248 (lv_at hl 0 rfl) ?_
            refine m_if_eq_b (tgt := 260) hx hb dL_acts_250 (by decide) (fun c_250 => ?_) (fun c_250 => ?_)
            · exact absurd c_250 (by first | decide | exact (show ¬ false = true by decide) | exact (show ¬ true = false by decide))
            · refine lv_iconst (v := nI 1) hx hb dL_acts_253 (by decide) ?_
              refine lv_iload hx hb dL_acts_254 (lv_at hl 2 rfl) ?_
              refine lv_ishl hx hb dL_acts_256 ?_
              refine lv_goto (tgt := 261) hx hb dL_acts_257 (by decide) ?_
              refine lv_ior hx hb dL_acts_261 ?_
              refine m_ist6 (i := 1) (n := 6) (f := g9 1) (g1 := (va_up (va_up g9 0 (upd (g9 0) (((27 * k) + (9 * l9)) + j) (nI (enR (drR dr))))) 1 (upd (g9 1) ((3 * k) + l9) (((g9 1 ((3 * k) + l9)) &&& (((nI 1) <<< (nI j &&& 31)) ^^^ (-1))) ||| ((nI 1) <<< (nI j &&& 31)))))) hx hb hE.k hP hD hc9 hno hsub hS (fun _ => rfl) (fun _ => rfl) (by omega) (by decide) dL_acts_262 (fun H locs hP hD hc9 hS => ?_)
              refine lv_aload hx hb dL_acts_263 (lv_at hl 11 rfl) ?_
              refine lv_iconst (v := nI 1) hx hb dL_acts_265 (by decide) ?_
              refine lv_iconst (v := nI 0) hx hb dL_acts_266 (by decide) ?_
              refine m_ist6 (i := 5) (n := 3) (f := g9 5) (g1 := (va_up (va_up (va_up g9 0 (upd (g9 0) (((27 * k) + (9 * l9)) + j) (nI (enR (drR dr))))) 1 (upd (g9 1) ((3 * k) + l9) (((g9 1 ((3 * k) + l9)) &&& (((nI 1) <<< (nI j &&& 31)) ^^^ (-1))) ||| ((nI 1) <<< (nI j &&& 31))))) 5 (upd (g9 5) 1 (nI 0)))) hx hb hE.k hP hD hc9 hno hsub hS (fun _ => rfl) (fun _ => rfl) (by omega) (by decide) dL_acts_267 (fun H locs hP hD hc9 hS => ?_)
              refine lv_aload hx hb dL_acts_268 (lv_at hl 11 rfl) ?_
              refine lv_iconst (v := nI 2) hx hb dL_acts_270 (by decide) ?_
              refine lv_iconst (v := nI 0) hx hb dL_acts_271 (by decide) ?_
              refine m_ist6 (i := 5) (n := 3) (f := (upd (g9 5) 1 (nI 0))) (g1 := (va_up (va_up (va_up (va_up g9 0 (upd (g9 0) (((27 * k) + (9 * l9)) + j) (nI (enR (drR dr))))) 1 (upd (g9 1) ((3 * k) + l9) (((g9 1 ((3 * k) + l9)) &&& (((nI 1) <<< (nI j &&& 31)) ^^^ (-1))) ||| ((nI 1) <<< (nI j &&& 31))))) 5 (upd (g9 5) 1 (nI 0))) 5 (upd (upd (g9 5) 1 (nI 0)) 2 (nI 0)))) hx hb hE.k hP hD hc9 hno hsub hS (fun _ => rfl) (fun _ => rfl) (by omega) (by decide) dL_acts_272 (fun H locs hP hD hc9 hS => ?_)
              refine lv_aload_n hx hb dL_acts_273 rfl (lv_at hl 5 rfl) ?_
              refine lv_iload hx hb dL_acts_274 (lv_at hl 3 rfl) ?_
              refine lv_iload hx hb dL_acts_276 (lv_at hl 4 rfl) ?_
              refine lv_iload hx hb dL_acts_278 (lv_at hl 2 rfl) ?_
              refine lv_iconst (v := nI 3) hx hb dL_acts_280 (by decide) ?_
              refine m_idiv hx hb (by omega) (by omega) (by omega) dL_acts_281 ?_
              refine lv_iload hx hb dL_acts_282 (lv_at hl 2 rfl) ?_
              refine lv_iconst (v := nI 3) hx hb dL_acts_284 (by decide) ?_
              refine m_irem hx hb (by omega) (by omega) (by omega) dL_acts_285 ?_
              refine lv_iload hx hb dL_acts_286 (lv_at hl 0 rfl) ?_
              refine m_cWi (rest := []) ⟨hx, hb, hml, hown, hts⟩ hE hS hsub (kL_set l K Ac _ hl0 o ad fb on fw dr fm vs ch ps hc9 (fun q h => hA q (by rw [← hsz]; exact Nat.le_trans hS.1 h)) k l9 j (by omega) (by omega) hj9 true) (vx_cwSW 6 hts gL_acts_L_set rfl rfl rfl (by decide +kernel) ⟨Nat.le_of_ble_eq_true rfl, Nat.le_of_ble_eq_true rfl⟩) rfl rfl hl.1 rfl (Nat.le_of_ble_eq_true rfl) dL_acts_288 ⟨Nat.le_of_ble_eq_true rfl, Nat.le_of_ble_eq_true rfl⟩ (fun r H1 locs hp hS hk => ?_)
              obtain ⟨rfl, hc9⟩ := hp.elim (fun h => h.2) (fun h => absurd (show 0 < dr.length by omega) h.1)
              have hP := lW_kept hP (fun i hi => hk (b i) (lW_lt hP hi) (hno i hi))
              refine lv_aload_n hx hb dL_acts_291 rfl (lv_at hl 8 rfl) ?_
              refine lv_iload hx hb dL_acts_292 (lv_at hl 3 rfl) ?_
              refine m_iald hx hb hE.k hP 2 rfl (by omega) (by omega) ((ha k hk9).1) dL_acts_294 ?_
              refine lv_icmp_ne (tgt := 302) hx hb dL_acts_295 (by decide) (fun c_295 => ?_) (fun c_295 => ?_)
              · exact absurd rfl c_295
              · refine lv_iconst (v := nI 1) hx hb dL_acts_298 (by decide) ?_
                refine lv_goto (tgt := 303) hx hb dL_acts_299 (by decide) ?_
                refine W.eq (g2 := F0 m 303 ls [.int (bI true)]) (by rfl) ?_
                exact m_zret hx hb hr hlk hS (Nat.le_of_ble_eq_true rfl) (Nat.le_of_ble_eq_true rfl) dL_acts_303 (⟨rfl, (va_up (va_up (va_up (va_up g9 0 (upd (g9 0) (((27 * k) + (9 * l9)) + j) (nI (enR (drR dr))))) 1 (upd (g9 1) ((3 * k) + l9) (((g9 1 ((3 * k) + l9)) &&& (((nI 1) <<< (nI j &&& 31)) ^^^ (-1))) ||| ((nI 1) <<< (nI j &&& 31))))) 5 (upd (g9 5) 1 (nI 0))) 5 (upd (upd (g9 5) 1 (nI 0)) 2 (nI 0))), _, _, _, _, _, _, _, _, hP, hD, hc9, ⟨(fRep_up hf hk9 hl9 hj9 (some (dr, true))), (xRep_set hx1 hk9 hl9 hj9 (fun t ht => bit_set1 hj9 ht)), ha, hq, hn, (mRep_0 hm), hfb, (fmOK_set hfm hk9 hl9 hj9 (fun F e => by cases e; exact ⟨hdr, by show 1 ≤ dr.length; omega⟩)), (psOK_C hps hfm hk9 hj9), drOK_nil⟩⟩)
        · refine lv_aload_n hx hb dL_acts_155 rfl (lv_at hl 4 rfl) ?_
          refine lv_iload hx hb dL_acts_156 (lv_at hl 2 rfl) ?_
          refine lv_iload hx hb dL_acts_158 (lv_at hl 3 rfl) ?_
          refine lv_iload hx hb dL_acts_160 (lv_at hl 1 rfl) ?_
          refine lv_iconst (v := nI 3) hx hb dL_acts_162 (by decide) ?_
          refine m_idiv hx hb (by omega) (by omega) (by omega) dL_acts_163 ?_
          refine lv_iload hx hb dL_acts_164 (lv_at hl 1 rfl) ?_
          refine lv_iconst (v := nI 3) hx hb dL_acts_166 (by decide) ?_
          refine m_irem hx hb (by omega) (by omega) (by omega) dL_acts_167 ?_
          refine lv_iconst (v := nI 0) hx hb dL_acts_168 (by decide) ?_
          refine W.eq (g2 := F0 m 169 ls [.int (bI false), .int (nI (j % 3)), .int (nI (j / 3)), .int (nI l9), .int (nI k), .ref o]) (by rfl) ?_
          refine m_cWi (rest := []) ⟨hx, hb, hml, hown, hts⟩ hE hS hsub (kL_set l K Ac _ hl0 o ad fb on fw dr fm vs ch ps hc9 (fun q h => hA q (by rw [← hsz]; exact Nat.le_trans hS.1 h)) k l9 j (by omega) (by omega) hj9 false) (vx_cwSW 6 hts gL_acts_L_set rfl rfl rfl (by decide +kernel) ⟨Nat.le_of_ble_eq_true rfl, Nat.le_of_ble_eq_true rfl⟩) rfl rfl hl.1 rfl (Nat.le_of_ble_eq_true rfl) dL_acts_169 ⟨Nat.le_of_ble_eq_true rfl, Nat.le_of_ble_eq_true rfl⟩ (fun r H1 locs hp hS hk => ?_)
          obtain ⟨rfl, hc9⟩ := hp.elim (fun h => absurd h.1 (by omega)) (fun h => h.2)
          have hP := lW_kept hP (fun i hi => hk (b i) (lW_lt hP hi) (hno i hi))
          refine lv_bipush (v := (-5)) hx hb dL_acts_172 (by decide) ?_
          refine lv_icmp_ne (tgt := 181) hx hb dL_acts_174 (by decide) (fun c_174 => ?_) (fun c_174 => ?_)
          · exact absurd rfl c_174
          · refine lv_iconst (v := nI 1) hx hb dL_acts_177 (by decide) ?_
            refine lv_goto (tgt := 182) hx hb dL_acts_178 (by decide) ?_
            refine W.eq (g2 := F0 m 182 ls [.int (bI true)]) (by rfl) ?_
            exact m_zret hx hb hr hlk hS (Nat.le_of_ble_eq_true rfl) (Nat.le_of_ble_eq_true rfl) dL_acts_182 (⟨rfl, g, _, _, _, _, _, _, _, _, hP, hD, hc9, ⟨hf, hx1, ha, hq, hn, hm, hfb, hfm, hps, hdr⟩⟩)
    · refine lv_aload hx hb dL_acts_62 (lv_at hl 10 rfl) ?_
      refine lv_iconst (v := nI 1) hx hb dL_acts_64 (by decide) ?_
      refine m_iald hx hb hE.k hP 5 rfl (by omega) (by omega) hm.2.1 dL_acts_65 ?_
      refine lv_iconst (v := nI 4) hx hb dL_acts_66 (by decide) ?_
      refine m_icmp_ge (tgt := 141) hx hb (by omega) (by omega) dL_acts_67 (by decide) (fun c_67 => ?_) (fun c_67 => ?_)
      · refine lv_iload hx hb dL_acts_141 (lv_at hl 11 rfl) ?_
        refine lv_bipush (v := nI 14) hx hb dL_acts_143 (by decide) ?_
        refine m_icmp_ge (tgt := 304) hx hb (by omega) (by omega) dL_acts_145 (by decide) (fun c_145 => ?_) (fun c_145 => ?_)
        · omega
        · refine lv_aload hx hb dL_acts_148 (lv_at hl 10 rfl) ?_
          refine lv_iconst (v := nI 1) hx hb dL_acts_150 (by decide) ?_
          refine m_iald hx hb hE.k hP 5 rfl (by omega) (by omega) hm.2.1 dL_acts_151 ?_
          refine m_if_ne (tgt := 183) hx hb (by omega) dL_acts_152 (by decide) (fun c_152 => ?_) (fun c_152 => ?_)
          · refine lv_iload hx hb dL_acts_183 (lv_at hl 12 rfl) ?_
            refine lv_sipush (v := nI 162) hx hb dL_acts_185 (by decide) ?_
            refine m_idiv hx hb (by omega) (by omega) (by omega) dL_acts_188 ?_
            refine lv_iconst (v := nI 3) hx hb dL_acts_189 (by decide) ?_
            refine m_irem hx hb (by omega) (by omega) (by omega) dL_acts_190 ?_
            refine m_if_ne (tgt := 198) hx hb (by omega) dL_acts_191 (by decide) (fun c_191 => ?_) (fun c_191 => ?_)
            · refine lv_iconst (v := nI 0) hx hb dL_acts_198 (by decide) ?_
              refine W.eq (g2 := F0 m 199 ls [.int (bI false)]) (by rfl) ?_
              refine lv_istore (lv' := [(13, .int (bI false)), (12, .int (nI (((27 * k) + (9 * l9)) + j))), (11, .int (nI j)), (9, .int (nI k)), (10, .int (nI l9)), (0, .ref o), (1, .ref (b 0)), (2, .ref (b 1)), (3, .ref (b 2)), (4, .ref (b 3)), (5, .ref (b 4)), (6, .ref (b 5)), (7, .int (nI y)), (8, .int (nI z))]) hx hb dL_acts_199 hl (by decide) rfl (fun ls hl => ?_)
              refine lv_aload_n hx hb dL_acts_201 rfl (lv_at hl 6 rfl) ?_
              refine lv_aload_n hx hb dL_acts_202 rfl (lv_at hl 8 rfl) ?_
              refine lv_aload hx hb dL_acts_203 (lv_at hl 9 rfl) ?_
              refine lv_aload hx hb dL_acts_205 (lv_at hl 11 rfl) ?_
              refine lv_iload hx hb dL_acts_207 (lv_at hl 3 rfl) ?_
              refine lv_iload hx hb dL_acts_209 (lv_at hl 4 rfl) ?_
              refine lv_iload hx hb dL_acts_211 (lv_at hl 2 rfl) ?_
              refine m_cSv (rest := []) ⟨hx, hb, hml, hown, hts⟩ hE hS (fun q h => h.1) (kL_change l K (fun q => A q ∧ ¬ Ac q) _ b g hP (hD.weaken (fun i p hi h => ⟨h, by rw [(lW_at hi).2]; exact hno _ (lW_at hi).1⟩)) fm hfm hf vs ch ha ps hps hq dr hm k l9 j hk9 hl9 hj9) (va_cwS 7 hts gL_acts_L_change rfl rfl rfl (by decide +kernel) ⟨Nat.le_of_ble_eq_true rfl, Nat.le_of_ble_eq_true rfl⟩) rfl rfl hl.1 rfl (Nat.le_of_ble_eq_true rfl) dL_acts_213 ⟨Nat.le_of_ble_eq_true rfl, Nat.le_of_ble_eq_true rfl⟩ (fun H1 locs hp hS hk => ?_)
              obtain ⟨g9, hP, hD9, e0, e1, e4, ha, hq, hm⟩ := hp
              have hD := lW_D (g1 := g9) hD
              have hc9 := hc9.kept (fun q hq h => hk q hq (fun z => z.2 h))
              have hf : fRep (g9 0) fm := by rw [e0]; exact hf
              have hx1 : xRep (g9 1) fm := by rw [e1]; exact hx1
              have hn : nRep (g9 4) fb on fw := by rw [e4]; exact hn
              refine lv_aload_n hx hb dL_acts_216 rfl (lv_at hl 6 rfl) ?_
              refine lv_iload hx hb dL_acts_217 (lv_at hl 1 rfl) ?_
              refine lv_aload hx hb dL_acts_219 (lv_at hl 11 rfl) ?_
              refine lv_iconst (v := nI 2) hx hb dL_acts_221 (by decide) ?_
              refine m_iald hx hb hE.k hP 5 rfl (by omega) (by omega) hm.2.2 dL_acts_222 ?_
              refine m_ist6 (i := 0) (n := 54) (f := g9 0) (g1 := (va_up g9 0 (upd (g9 0) (((27 * k) + (9 * l9)) + j) (nI (enR (drR dr)))))) hx hb hE.k hP hD hc9 hno hsub hS (fun _ => rfl) (fun _ => rfl) (by omega) (by decide) dL_acts_223 (fun H locs hP hD hc9 hS => ?_)
              refine lv_aload_n hx hb dL_acts_224 rfl (lv_at hl 7 rfl) ?_
              refine lv_iconst (v := nI 3) hx hb dL_acts_225 (by decide) ?_
              refine lv_iload hx hb dL_acts_226 (lv_at hl 3 rfl) ?_
              refine m_imul hx hb dL_acts_228 ?_
              refine lv_iload hx hb dL_acts_229 (lv_at hl 4 rfl) ?_
              refine m_iadd hx hb dL_acts_231 ?_
              refine lv_aload_n hx hb dL_acts_232 rfl (lv_at hl 7 rfl) ?_
              refine lv_iconst (v := nI 3) hx hb dL_acts_233 (by decide) ?_
              refine lv_iload hx hb dL_acts_234 (lv_at hl 3 rfl) ?_
              refine m_imul hx hb dL_acts_236 ?_
              refine lv_iload hx hb dL_acts_237 (lv_at hl 4 rfl) ?_
              refine m_iadd hx hb dL_acts_239 ?_
              refine m_iald hx hb hE.k hP 1 rfl (by omega) (by omega) rfl dL_acts_240 ?_
              refine lv_iconst (v := nI 1) hx hb dL_acts_241 (by decide) ?_
              refine lv_iload hx hb dL_acts_242 (lv_at hl 2 rfl) ?_
              refine lv_ishl hx hb dL_acts_244 ?_
              refine lv_iconst (v := (-1)) hx hb dL_acts_245 (by decide) ?_
              refine lv_ixor hx hb dL_acts_246 ?_
              refine lv_iand hx hb dL_acts_247 ?_
              refine lv_iload hx hb dL_acts_248 (lv_at hl 0 rfl) ?_
              refine m_if_eq_b (tgt := 260) hx hb dL_acts_250 (by decide) (fun c_250 => ?_) (fun c_250 => ?_)
              · refine lv_iconst (v := nI 0) hx hb dL_acts_260 (by decide) ?_
                refine lv_ior hx hb dL_acts_261 ?_
                refine m_ist6 (i := 1) (n := 6) (f := g9 1) (g1 := (va_up (va_up g9 0 (upd (g9 0) (((27 * k) + (9 * l9)) + j) (nI (enR (drR dr))))) 1 (upd (g9 1) ((3 * k) + l9) (((g9 1 ((3 * k) + l9)) &&& (((nI 1) <<< (nI j &&& 31)) ^^^ (-1))) ||| (nI 0))))) hx hb hE.k hP hD hc9 hno hsub hS (fun _ => rfl) (fun _ => rfl) (by omega) (by decide) dL_acts_262 (fun H locs hP hD hc9 hS => ?_)
                refine lv_aload hx hb dL_acts_263 (lv_at hl 11 rfl) ?_
                refine lv_iconst (v := nI 1) hx hb dL_acts_265 (by decide) ?_
                refine lv_iconst (v := nI 0) hx hb dL_acts_266 (by decide) ?_
                refine m_ist6 (i := 5) (n := 3) (f := g9 5) (g1 := (va_up (va_up (va_up g9 0 (upd (g9 0) (((27 * k) + (9 * l9)) + j) (nI (enR (drR dr))))) 1 (upd (g9 1) ((3 * k) + l9) (((g9 1 ((3 * k) + l9)) &&& (((nI 1) <<< (nI j &&& 31)) ^^^ (-1))) ||| (nI 0)))) 5 (upd (g9 5) 1 (nI 0)))) hx hb hE.k hP hD hc9 hno hsub hS (fun _ => rfl) (fun _ => rfl) (by omega) (by decide) dL_acts_267 (fun H locs hP hD hc9 hS => ?_)
                refine lv_aload hx hb dL_acts_268 (lv_at hl 11 rfl) ?_
                refine lv_iconst (v := nI 2) hx hb dL_acts_270 (by decide) ?_
                refine lv_iconst (v := nI 0) hx hb dL_acts_271 (by decide) ?_
                refine m_ist6 (i := 5) (n := 3) (f := (upd (g9 5) 1 (nI 0))) (g1 := (va_up (va_up (va_up (va_up g9 0 (upd (g9 0) (((27 * k) + (9 * l9)) + j) (nI (enR (drR dr))))) 1 (upd (g9 1) ((3 * k) + l9) (((g9 1 ((3 * k) + l9)) &&& (((nI 1) <<< (nI j &&& 31)) ^^^ (-1))) ||| (nI 0)))) 5 (upd (g9 5) 1 (nI 0))) 5 (upd (upd (g9 5) 1 (nI 0)) 2 (nI 0)))) hx hb hE.k hP hD hc9 hno hsub hS (fun _ => rfl) (fun _ => rfl) (by omega) (by decide) dL_acts_272 (fun H locs hP hD hc9 hS => ?_)
                refine lv_aload_n hx hb dL_acts_273 rfl (lv_at hl 5 rfl) ?_
                refine lv_iload hx hb dL_acts_274 (lv_at hl 3 rfl) ?_
                refine lv_iload hx hb dL_acts_276 (lv_at hl 4 rfl) ?_
                refine lv_iload hx hb dL_acts_278 (lv_at hl 2 rfl) ?_
                refine lv_iconst (v := nI 3) hx hb dL_acts_280 (by decide) ?_
                refine m_idiv hx hb (by omega) (by omega) (by omega) dL_acts_281 ?_
                refine lv_iload hx hb dL_acts_282 (lv_at hl 2 rfl) ?_
                refine lv_iconst (v := nI 3) hx hb dL_acts_284 (by decide) ?_
                refine m_irem hx hb (by omega) (by omega) (by omega) dL_acts_285 ?_
                refine lv_iload hx hb dL_acts_286 (lv_at hl 0 rfl) ?_
                refine m_cWi (rest := []) ⟨hx, hb, hml, hown, hts⟩ hE hS hsub (kL_set l K Ac _ hl0 o ad fb on fw dr fm vs ch ps hc9 (fun q h => hA q (by rw [← hsz]; exact Nat.le_trans hS.1 h)) k l9 j (by omega) (by omega) hj9 false) (vx_cwSW 6 hts gL_acts_L_set rfl rfl rfl (by decide +kernel) ⟨Nat.le_of_ble_eq_true rfl, Nat.le_of_ble_eq_true rfl⟩) rfl rfl hl.1 rfl (Nat.le_of_ble_eq_true rfl) dL_acts_288 ⟨Nat.le_of_ble_eq_true rfl, Nat.le_of_ble_eq_true rfl⟩ (fun r H1 locs hp hS hk => ?_)
                obtain ⟨rfl, hc9⟩ := hp.elim (fun h => h.2) (fun h => absurd (show 0 < dr.length by omega) h.1)
                have hP := lW_kept hP (fun i hi => hk (b i) (lW_lt hP hi) (hno i hi))
                refine lv_aload_n hx hb dL_acts_291 rfl (lv_at hl 8 rfl) ?_
                refine lv_iload hx hb dL_acts_292 (lv_at hl 3 rfl) ?_
                refine m_iald hx hb hE.k hP 2 rfl (by omega) (by omega) ((ha k hk9).1) dL_acts_294 ?_
                refine lv_icmp_ne (tgt := 302) hx hb dL_acts_295 (by decide) (fun c_295 => ?_) (fun c_295 => ?_)
                · exact absurd rfl c_295
                · refine lv_iconst (v := nI 1) hx hb dL_acts_298 (by decide) ?_
                  refine lv_goto (tgt := 303) hx hb dL_acts_299 (by decide) ?_
                  refine W.eq (g2 := F0 m 303 ls [.int (bI true)]) (by rfl) ?_
                  exact m_zret hx hb hr hlk hS (Nat.le_of_ble_eq_true rfl) (Nat.le_of_ble_eq_true rfl) dL_acts_303 (⟨rfl, (va_up (va_up (va_up (va_up g9 0 (upd (g9 0) (((27 * k) + (9 * l9)) + j) (nI (enR (drR dr))))) 1 (upd (g9 1) ((3 * k) + l9) (((g9 1 ((3 * k) + l9)) &&& (((nI 1) <<< (nI j &&& 31)) ^^^ (-1))) ||| (nI 0)))) 5 (upd (g9 5) 1 (nI 0))) 5 (upd (upd (g9 5) 1 (nI 0)) 2 (nI 0))), _, _, _, _, _, _, _, _, hP, hD, hc9, ⟨(fRep_up hf hk9 hl9 hj9 (some (dr, false))), (xRep_set hx1 hk9 hl9 hj9 (fun t ht => bit_set0 hj9 ht)), ha, hq, hn, (mRep_0 hm), hfb, (fmOK_set hfm hk9 hl9 hj9 (fun F e => by cases e; exact ⟨hdr, by show 1 ≤ dr.length; omega⟩)), (psOK_C hps hfm hk9 hj9), drOK_nil⟩⟩)
              · exact absurd c_250 (by first | decide | exact (show ¬ false = true by decide) | exact (show ¬ true = false by decide))
            · refine lv_iconst (v := nI 1) hx hb dL_acts_194 (by decide) ?_
              refine lv_goto (tgt := 199) hx hb dL_acts_195 (by decide) ?_
              refine W.eq (g2 := F0 m 199 ls [.int (bI true)]) (by rfl) ?_
              refine lv_istore (lv' := [(13, .int (bI true)), (12, .int (nI (((27 * k) + (9 * l9)) + j))), (11, .int (nI j)), (9, .int (nI k)), (10, .int (nI l9)), (0, .ref o), (1, .ref (b 0)), (2, .ref (b 1)), (3, .ref (b 2)), (4, .ref (b 3)), (5, .ref (b 4)), (6, .ref (b 5)), (7, .int (nI y)), (8, .int (nI z))]) hx hb dL_acts_199 hl (by decide) rfl (fun ls hl => ?_)
              refine lv_aload_n hx hb dL_acts_201 rfl (lv_at hl 6 rfl) ?_
              refine lv_aload_n hx hb dL_acts_202 rfl (lv_at hl 8 rfl) ?_
              refine lv_aload hx hb dL_acts_203 (lv_at hl 9 rfl) ?_
              refine lv_aload hx hb dL_acts_205 (lv_at hl 11 rfl) ?_
              refine lv_iload hx hb dL_acts_207 (lv_at hl 3 rfl) ?_
              refine lv_iload hx hb dL_acts_209 (lv_at hl 4 rfl) ?_
              refine lv_iload hx hb dL_acts_211 (lv_at hl 2 rfl) ?_
              refine m_cSv (rest := []) ⟨hx, hb, hml, hown, hts⟩ hE hS (fun q h => h.1) (kL_change l K (fun q => A q ∧ ¬ Ac q) _ b g hP (hD.weaken (fun i p hi h => ⟨h, by rw [(lW_at hi).2]; exact hno _ (lW_at hi).1⟩)) fm hfm hf vs ch ha ps hps hq dr hm k l9 j hk9 hl9 hj9) (va_cwS 7 hts gL_acts_L_change rfl rfl rfl (by decide +kernel) ⟨Nat.le_of_ble_eq_true rfl, Nat.le_of_ble_eq_true rfl⟩) rfl rfl hl.1 rfl (Nat.le_of_ble_eq_true rfl) dL_acts_213 ⟨Nat.le_of_ble_eq_true rfl, Nat.le_of_ble_eq_true rfl⟩ (fun H1 locs hp hS hk => ?_)
              obtain ⟨g9, hP, hD9, e0, e1, e4, ha, hq, hm⟩ := hp
              have hD := lW_D (g1 := g9) hD
              have hc9 := hc9.kept (fun q hq h => hk q hq (fun z => z.2 h))
              have hf : fRep (g9 0) fm := by rw [e0]; exact hf
              have hx1 : xRep (g9 1) fm := by rw [e1]; exact hx1
              have hn : nRep (g9 4) fb on fw := by rw [e4]; exact hn
              refine lv_aload_n hx hb dL_acts_216 rfl (lv_at hl 6 rfl) ?_
              refine lv_iload hx hb dL_acts_217 (lv_at hl 1 rfl) ?_
              refine lv_aload hx hb dL_acts_219 (lv_at hl 11 rfl) ?_
              refine lv_iconst (v := nI 2) hx hb dL_acts_221 (by decide) ?_
              refine m_iald hx hb hE.k hP 5 rfl (by omega) (by omega) hm.2.2 dL_acts_222 ?_
              refine m_ist6 (i := 0) (n := 54) (f := g9 0) (g1 := (va_up g9 0 (upd (g9 0) (((27 * k) + (9 * l9)) + j) (nI (enR (drR dr)))))) hx hb hE.k hP hD hc9 hno hsub hS (fun _ => rfl) (fun _ => rfl) (by omega) (by decide) dL_acts_223 (fun H locs hP hD hc9 hS => ?_)
              refine lv_aload_n hx hb dL_acts_224 rfl (lv_at hl 7 rfl) ?_
              refine lv_iconst (v := nI 3) hx hb dL_acts_225 (by decide) ?_
              refine lv_iload hx hb dL_acts_226 (lv_at hl 3 rfl) ?_
              refine m_imul hx hb dL_acts_228 ?_
              refine lv_iload hx hb dL_acts_229 (lv_at hl 4 rfl) ?_
              refine m_iadd hx hb dL_acts_231 ?_
              refine lv_aload_n hx hb dL_acts_232 rfl (lv_at hl 7 rfl) ?_
              refine lv_iconst (v := nI 3) hx hb dL_acts_233 (by decide) ?_
              refine lv_iload hx hb dL_acts_234 (lv_at hl 3 rfl) ?_
              refine m_imul hx hb dL_acts_236 ?_
              refine lv_iload hx hb dL_acts_237 (lv_at hl 4 rfl) ?_
              refine m_iadd hx hb dL_acts_239 ?_
              refine m_iald hx hb hE.k hP 1 rfl (by omega) (by omega) rfl dL_acts_240 ?_
              refine lv_iconst (v := nI 1) hx hb dL_acts_241 (by decide) ?_
              refine lv_iload hx hb dL_acts_242 (lv_at hl 2 rfl) ?_
              refine lv_ishl hx hb dL_acts_244 ?_
              refine lv_iconst (v := (-1)) hx hb dL_acts_245 (by decide) ?_
              refine lv_ixor hx hb dL_acts_246 ?_
              refine lv_iand hx hb dL_acts_247 ?_
              refine lv_iload hx hb dL_acts_248 (lv_at hl 0 rfl) ?_
              refine m_if_eq_b (tgt := 260) hx hb dL_acts_250 (by decide) (fun c_250 => ?_) (fun c_250 => ?_)
              · exact absurd c_250 (by first | decide | exact (show ¬ false = true by decide) | exact (show ¬ true = false by decide))
              · refine lv_iconst (v := nI 1) hx hb dL_acts_253 (by decide) ?_
                refine lv_iload hx hb dL_acts_254 (lv_at hl 2 rfl) ?_
                refine lv_ishl hx hb dL_acts_256 ?_
                refine lv_goto (tgt := 261) hx hb dL_acts_257 (by decide) ?_
                refine lv_ior hx hb dL_acts_261 ?_
                refine m_ist6 (i := 1) (n := 6) (f := g9 1) (g1 := (va_up (va_up g9 0 (upd (g9 0) (((27 * k) + (9 * l9)) + j) (nI (enR (drR dr))))) 1 (upd (g9 1) ((3 * k) + l9) (((g9 1 ((3 * k) + l9)) &&& (((nI 1) <<< (nI j &&& 31)) ^^^ (-1))) ||| ((nI 1) <<< (nI j &&& 31)))))) hx hb hE.k hP hD hc9 hno hsub hS (fun _ => rfl) (fun _ => rfl) (by omega) (by decide) dL_acts_262 (fun H locs hP hD hc9 hS => ?_)
                refine lv_aload hx hb dL_acts_263 (lv_at hl 11 rfl) ?_
                refine lv_iconst (v := nI 1) hx hb dL_acts_265 (by decide) ?_
                refine lv_iconst (v := nI 0) hx hb dL_acts_266 (by decide) ?_
                refine m_ist6 (i := 5) (n := 3) (f := g9 5) (g1 := (va_up (va_up (va_up g9 0 (upd (g9 0) (((27 * k) + (9 * l9)) + j) (nI (enR (drR dr))))) 1 (upd (g9 1) ((3 * k) + l9) (((g9 1 ((3 * k) + l9)) &&& (((nI 1) <<< (nI j &&& 31)) ^^^ (-1))) ||| ((nI 1) <<< (nI j &&& 31))))) 5 (upd (g9 5) 1 (nI 0)))) hx hb hE.k hP hD hc9 hno hsub hS (fun _ => rfl) (fun _ => rfl) (by omega) (by decide) dL_acts_267 (fun H locs hP hD hc9 hS => ?_)
                refine lv_aload hx hb dL_acts_268 (lv_at hl 11 rfl) ?_
                refine lv_iconst (v := nI 2) hx hb dL_acts_270 (by decide) ?_
                refine lv_iconst (v := nI 0) hx hb dL_acts_271 (by decide) ?_
                refine m_ist6 (i := 5) (n := 3) (f := (upd (g9 5) 1 (nI 0))) (g1 := (va_up (va_up (va_up (va_up g9 0 (upd (g9 0) (((27 * k) + (9 * l9)) + j) (nI (enR (drR dr))))) 1 (upd (g9 1) ((3 * k) + l9) (((g9 1 ((3 * k) + l9)) &&& (((nI 1) <<< (nI j &&& 31)) ^^^ (-1))) ||| ((nI 1) <<< (nI j &&& 31))))) 5 (upd (g9 5) 1 (nI 0))) 5 (upd (upd (g9 5) 1 (nI 0)) 2 (nI 0)))) hx hb hE.k hP hD hc9 hno hsub hS (fun _ => rfl) (fun _ => rfl) (by omega) (by decide) dL_acts_272 (fun H locs hP hD hc9 hS => ?_)
                refine lv_aload_n hx hb dL_acts_273 rfl (lv_at hl 5 rfl) ?_
                refine lv_iload hx hb dL_acts_274 (lv_at hl 3 rfl) ?_
                refine lv_iload hx hb dL_acts_276 (lv_at hl 4 rfl) ?_
                refine lv_iload hx hb dL_acts_278 (lv_at hl 2 rfl) ?_
                refine lv_iconst (v := nI 3) hx hb dL_acts_280 (by decide) ?_
                refine m_idiv hx hb (by omega) (by omega) (by omega) dL_acts_281 ?_
                refine lv_iload hx hb dL_acts_282 (lv_at hl 2 rfl) ?_
                refine lv_iconst (v := nI 3) hx hb dL_acts_284 (by decide) ?_
                refine m_irem hx hb (by omega) (by omega) (by omega) dL_acts_285 ?_
                refine lv_iload hx hb dL_acts_286 (lv_at hl 0 rfl) ?_
                refine m_cWi (rest := []) ⟨hx, hb, hml, hown, hts⟩ hE hS hsub (kL_set l K Ac _ hl0 o ad fb on fw dr fm vs ch ps hc9 (fun q h => hA q (by rw [← hsz]; exact Nat.le_trans hS.1 h)) k l9 j (by omega) (by omega) hj9 true) (vx_cwSW 6 hts gL_acts_L_set rfl rfl rfl (by decide +kernel) ⟨Nat.le_of_ble_eq_true rfl, Nat.le_of_ble_eq_true rfl⟩) rfl rfl hl.1 rfl (Nat.le_of_ble_eq_true rfl) dL_acts_288 ⟨Nat.le_of_ble_eq_true rfl, Nat.le_of_ble_eq_true rfl⟩ (fun r H1 locs hp hS hk => ?_)
                obtain ⟨rfl, hc9⟩ := hp.elim (fun h => h.2) (fun h => absurd (show 0 < dr.length by omega) h.1)
                have hP := lW_kept hP (fun i hi => hk (b i) (lW_lt hP hi) (hno i hi))
                refine lv_aload_n hx hb dL_acts_291 rfl (lv_at hl 8 rfl) ?_
                refine lv_iload hx hb dL_acts_292 (lv_at hl 3 rfl) ?_
                refine m_iald hx hb hE.k hP 2 rfl (by omega) (by omega) ((ha k hk9).1) dL_acts_294 ?_
                refine lv_icmp_ne (tgt := 302) hx hb dL_acts_295 (by decide) (fun c_295 => ?_) (fun c_295 => ?_)
                · exact absurd rfl c_295
                · refine lv_iconst (v := nI 1) hx hb dL_acts_298 (by decide) ?_
                  refine lv_goto (tgt := 303) hx hb dL_acts_299 (by decide) ?_
                  refine W.eq (g2 := F0 m 303 ls [.int (bI true)]) (by rfl) ?_
                  exact m_zret hx hb hr hlk hS (Nat.le_of_ble_eq_true rfl) (Nat.le_of_ble_eq_true rfl) dL_acts_303 (⟨rfl, (va_up (va_up (va_up (va_up g9 0 (upd (g9 0) (((27 * k) + (9 * l9)) + j) (nI (enR (drR dr))))) 1 (upd (g9 1) ((3 * k) + l9) (((g9 1 ((3 * k) + l9)) &&& (((nI 1) <<< (nI j &&& 31)) ^^^ (-1))) ||| ((nI 1) <<< (nI j &&& 31))))) 5 (upd (g9 5) 1 (nI 0))) 5 (upd (upd (g9 5) 1 (nI 0)) 2 (nI 0))), _, _, _, _, _, _, _, _, hP, hD, hc9, ⟨(fRep_up hf hk9 hl9 hj9 (some (dr, true))), (xRep_set hx1 hk9 hl9 hj9 (fun t ht => bit_set1 hj9 ht)), ha, hq, hn, (mRep_0 hm), hfb, (fmOK_set hfm hk9 hl9 hj9 (fun F e => by cases e; exact ⟨hdr, by show 1 ≤ dr.length; omega⟩)), (psOK_C hps hfm hk9 hj9), drOK_nil⟩⟩)
          · omega
      · refine lv_iload hx hb dL_acts_70 (lv_at hl 12 rfl) ?_
        refine lv_iconst (v := nI 5) hx hb dL_acts_72 (by decide) ?_
        refine m_irem hx hb (by omega) (by omega) (by omega) dL_acts_73 ?_
        refine m_if_ne (tgt := 89) hx hb (by omega) dL_acts_74 (by decide) (fun c_74 => ?_) (fun c_74 => ?_)
        · refine lv_iconst (v := nI 1) hx hb dL_acts_89 (by decide) ?_
          refine lv_iload hx hb dL_acts_90 (lv_at hl 12 rfl) ?_
          refine lv_iconst (v := nI 5) hx hb dL_acts_92 (by decide) ?_
          refine m_idiv hx hb (by omega) (by omega) (by omega) dL_acts_93 ?_
          refine lv_iconst (v := nI 3) hx hb dL_acts_94 (by decide) ?_
          refine m_irem hx hb (by omega) (by omega) (by omega) dL_acts_95 ?_
          refine m_iadd hx hb dL_acts_96 ?_
          refine lv_istore (lv' := [(13, .int (nI (1 + ((z / 5) % 3)))), (12, .int (nI (((27 * k) + (9 * l9)) + j))), (11, .int (nI j)), (9, .int (nI k)), (10, .int (nI l9)), (0, .ref o), (1, .ref (b 0)), (2, .ref (b 1)), (3, .ref (b 2)), (4, .ref (b 3)), (5, .ref (b 4)), (6, .ref (b 5)), (7, .int (nI y)), (8, .int (nI z))]) hx hb dL_acts_97 hl (by decide) rfl (fun ls hl => ?_)
          refine lv_aload hx hb dL_acts_99 (lv_at hl 11 rfl) ?_
          refine lv_iconst (v := nI 1) hx hb dL_acts_101 (by decide) ?_
          refine lv_dup2_11 hx hb dL_acts_102 rfl rfl ?_
          refine m_iald hx hb hE.k hP 5 rfl (by omega) (by omega) hm.2.1 dL_acts_103 ?_
          refine lv_iconst (v := nI 1) hx hb dL_acts_104 (by decide) ?_
          refine m_iadd hx hb dL_acts_105 ?_
          refine m_ist6 (i := 5) (n := 3) (f := g 5) (g1 := (va_up g 5 (upd (g 5) 1 (nI (dr.length + 1))))) hx hb hE.k hP hD hc9 hno hsub hS (fun _ => rfl) (fun _ => rfl) (by omega) (by decide) dL_acts_106 (fun H locs hP hD hc9 hS => ?_)
          refine lv_aload hx hb dL_acts_107 (lv_at hl 11 rfl) ?_
          refine lv_iconst (v := nI 2) hx hb dL_acts_109 (by decide) ?_
          refine lv_sipush (v := nI 128) hx hb dL_acts_110 (by decide) ?_
          refine lv_aload hx hb dL_acts_113 (lv_at hl 11 rfl) ?_
          refine lv_iconst (v := nI 2) hx hb dL_acts_115 (by decide) ?_
          refine m_iald hx hb hE.k hP 5 rfl (by omega) (by omega) (show _ = nI (enR (drR dr)) from hm.2.2) dL_acts_116 ?_
          refine m_imul hx hb dL_acts_117 ?_
          refine lv_iload hx hb dL_acts_118 (lv_at hl 0 rfl) ?_
          refine m_iadd hx hb dL_acts_120 ?_
          refine m_ist6 (i := 5) (n := 3) (f := (upd (g 5) 1 (nI (dr.length + 1)))) (g1 := (va_up (va_up g 5 (upd (g 5) 1 (nI (dr.length + 1)))) 5 (upd (upd (g 5) 1 (nI (dr.length + 1))) 2 (nI ((128 * (enR (drR dr))) + (1 + ((z / 5) % 3))))))) hx hb hE.k hP hD hc9 hno hsub hS (fun _ => rfl) (fun _ => rfl) (by omega) (by decide) dL_acts_121 (fun H locs hP hD hc9 hS => ?_)
          refine lv_aload_n hx hb dL_acts_122 rfl (lv_at hl 5 rfl) ?_
          refine lv_iload hx hb dL_acts_123 (lv_at hl 0 rfl) ?_
          refine m_cWi (rest := []) ⟨hx, hb, hml, hown, hts⟩ hE hS hsub (kL_signed l K Ac _ hl0 o ad fb on fw dr fm vs ch ps hc9 (fun q h => hA q (by rw [← hsz]; exact Nat.le_trans hS.1 h)) (nI (1 + ((z / 5) % 3))) (Or.inl (isWd_nI (by omega) (by omega)))) (vx_cwSW 2 hts gL_acts_L_signed rfl rfl rfl (by decide +kernel) ⟨Nat.le_of_ble_eq_true rfl, Nat.le_of_ble_eq_true rfl⟩) rfl rfl hl.1 rfl (Nat.le_of_ble_eq_true rfl) dL_acts_125 ⟨Nat.le_of_ble_eq_true rfl, Nat.le_of_ble_eq_true rfl⟩ (fun r H1 locs hp hS hk => ?_)
          obtain ⟨rfl, hc9⟩ := hp.elim (fun h => h.2) (fun h => absurd (show dr.length < 8 by omega) h.1)
          have hP := lW_kept hP (fun i hi => hk (b i) (lW_lt hP hi) (hno i hi))
          refine lv_aload hx hb dL_acts_128 (lv_at hl 11 rfl) ?_
          refine lv_iconst (v := nI 1) hx hb dL_acts_130 (by decide) ?_
          refine m_iald hx hb hE.k hP 5 rfl (by omega) (by omega) (show _ = nI (dr.length + 1) from rfl) dL_acts_131 ?_
          refine m_icmp_ne (tgt := 139) hx hb (by omega) (by omega) dL_acts_132 (by decide) (fun c_132 => ?_) (fun c_132 => ?_)
          · exact absurd rfl c_132
          · refine lv_iconst (v := nI 1) hx hb dL_acts_135 (by decide) ?_
            refine lv_goto (tgt := 140) hx hb dL_acts_136 (by decide) ?_
            refine W.eq (g2 := F0 m 140 ls [.int (bI true)]) (by rfl) ?_
            exact m_zret hx hb hr hlk hS (Nat.le_of_ble_eq_true rfl) (Nat.le_of_ble_eq_true rfl) dL_acts_140 (⟨rfl, (va_up (va_up g 5 (upd (g 5) 1 (nI (dr.length + 1)))) 5 (upd (upd (g 5) 1 (nI (dr.length + 1))) 2 (nI ((128 * (enR (drR dr))) + (1 + ((z / 5) % 3)))))), _, _, _, _, _, _, _, _, hP, hD, hc9, ⟨hf, hx1, ha, hq, hn, (mRep_push hm (by omega)), hfb, hfm, hps, (hdr.push (gdS_nI (by omega) (by omega)) (by omega))⟩⟩)
        · refine lv_bipush (v := nI 101) hx hb dL_acts_77 (by decide) ?_
          refine lv_iload hx hb dL_acts_79 (lv_at hl 12 rfl) ?_
          refine lv_iconst (v := nI 5) hx hb dL_acts_81 (by decide) ?_
          refine m_idiv hx hb (by omega) (by omega) (by omega) dL_acts_82 ?_
          refine lv_iconst (v := nI 2) hx hb dL_acts_83 (by decide) ?_
          refine m_irem hx hb (by omega) (by omega) (by omega) dL_acts_84 ?_
          refine m_iadd hx hb dL_acts_85 ?_
          refine lv_goto (tgt := 97) hx hb dL_acts_86 (by decide) ?_
          refine lv_istore (lv' := [(13, .int (nI (101 + ((z / 5) % 2)))), (12, .int (nI (((27 * k) + (9 * l9)) + j))), (11, .int (nI j)), (9, .int (nI k)), (10, .int (nI l9)), (0, .ref o), (1, .ref (b 0)), (2, .ref (b 1)), (3, .ref (b 2)), (4, .ref (b 3)), (5, .ref (b 4)), (6, .ref (b 5)), (7, .int (nI y)), (8, .int (nI z))]) hx hb dL_acts_97 hl (by decide) rfl (fun ls hl => ?_)
          refine lv_aload hx hb dL_acts_99 (lv_at hl 11 rfl) ?_
          refine lv_iconst (v := nI 1) hx hb dL_acts_101 (by decide) ?_
          refine lv_dup2_11 hx hb dL_acts_102 rfl rfl ?_
          refine m_iald hx hb hE.k hP 5 rfl (by omega) (by omega) hm.2.1 dL_acts_103 ?_
          refine lv_iconst (v := nI 1) hx hb dL_acts_104 (by decide) ?_
          refine m_iadd hx hb dL_acts_105 ?_
          refine m_ist6 (i := 5) (n := 3) (f := g 5) (g1 := (va_up g 5 (upd (g 5) 1 (nI (dr.length + 1))))) hx hb hE.k hP hD hc9 hno hsub hS (fun _ => rfl) (fun _ => rfl) (by omega) (by decide) dL_acts_106 (fun H locs hP hD hc9 hS => ?_)
          refine lv_aload hx hb dL_acts_107 (lv_at hl 11 rfl) ?_
          refine lv_iconst (v := nI 2) hx hb dL_acts_109 (by decide) ?_
          refine lv_sipush (v := nI 128) hx hb dL_acts_110 (by decide) ?_
          refine lv_aload hx hb dL_acts_113 (lv_at hl 11 rfl) ?_
          refine lv_iconst (v := nI 2) hx hb dL_acts_115 (by decide) ?_
          refine m_iald hx hb hE.k hP 5 rfl (by omega) (by omega) (show _ = nI (enR (drR dr)) from hm.2.2) dL_acts_116 ?_
          refine m_imul hx hb dL_acts_117 ?_
          refine lv_iload hx hb dL_acts_118 (lv_at hl 0 rfl) ?_
          refine m_iadd hx hb dL_acts_120 ?_
          refine m_ist6 (i := 5) (n := 3) (f := (upd (g 5) 1 (nI (dr.length + 1)))) (g1 := (va_up (va_up g 5 (upd (g 5) 1 (nI (dr.length + 1)))) 5 (upd (upd (g 5) 1 (nI (dr.length + 1))) 2 (nI ((128 * (enR (drR dr))) + (101 + ((z / 5) % 2))))))) hx hb hE.k hP hD hc9 hno hsub hS (fun _ => rfl) (fun _ => rfl) (by omega) (by decide) dL_acts_121 (fun H locs hP hD hc9 hS => ?_)
          refine lv_aload_n hx hb dL_acts_122 rfl (lv_at hl 5 rfl) ?_
          refine lv_iload hx hb dL_acts_123 (lv_at hl 0 rfl) ?_
          refine m_cWi (rest := []) ⟨hx, hb, hml, hown, hts⟩ hE hS hsub (kL_signed l K Ac _ hl0 o ad fb on fw dr fm vs ch ps hc9 (fun q h => hA q (by rw [← hsz]; exact Nat.le_trans hS.1 h)) (nI (101 + ((z / 5) % 2))) (Or.inr (isPh_nI (by omega) (by omega)))) (vx_cwSW 2 hts gL_acts_L_signed rfl rfl rfl (by decide +kernel) ⟨Nat.le_of_ble_eq_true rfl, Nat.le_of_ble_eq_true rfl⟩) rfl rfl hl.1 rfl (Nat.le_of_ble_eq_true rfl) dL_acts_125 ⟨Nat.le_of_ble_eq_true rfl, Nat.le_of_ble_eq_true rfl⟩ (fun r H1 locs hp hS hk => ?_)
          obtain ⟨rfl, hc9⟩ := hp.elim (fun h => h.2) (fun h => absurd (show dr.length < 8 by omega) h.1)
          have hP := lW_kept hP (fun i hi => hk (b i) (lW_lt hP hi) (hno i hi))
          refine lv_aload hx hb dL_acts_128 (lv_at hl 11 rfl) ?_
          refine lv_iconst (v := nI 1) hx hb dL_acts_130 (by decide) ?_
          refine m_iald hx hb hE.k hP 5 rfl (by omega) (by omega) (show _ = nI (dr.length + 1) from rfl) dL_acts_131 ?_
          refine m_icmp_ne (tgt := 139) hx hb (by omega) (by omega) dL_acts_132 (by decide) (fun c_132 => ?_) (fun c_132 => ?_)
          · exact absurd rfl c_132
          · refine lv_iconst (v := nI 1) hx hb dL_acts_135 (by decide) ?_
            refine lv_goto (tgt := 140) hx hb dL_acts_136 (by decide) ?_
            refine W.eq (g2 := F0 m 140 ls [.int (bI true)]) (by rfl) ?_
            exact m_zret hx hb hr hlk hS (Nat.le_of_ble_eq_true rfl) (Nat.le_of_ble_eq_true rfl) dL_acts_140 (⟨rfl, (va_up (va_up g 5 (upd (g 5) 1 (nI (dr.length + 1)))) 5 (upd (upd (g 5) 1 (nI (dr.length + 1))) 2 (nI ((128 * (enR (drR dr))) + (101 + ((z / 5) % 2)))))), _, _, _, _, _, _, _, _, hP, hD, hc9, ⟨hf, hx1, ha, hq, hn, (mRep_push hm (by omega)), hfb, hfm, hps, (hdr.push (gdS_nI (by omega) (by omega)) (by omega))⟩⟩)
  refine lv_iload hx hb dL_acts_14 (lv_at hl 10 rfl) ?_
  refine lv_bipush (v := nI 6) hx hb dL_acts_16 (by decide) ?_
  refine m_idiv hx hb (by omega) (by omega) (by omega) dL_acts_18 ?_
  refine lv_iconst (v := nI 3) hx hb dL_acts_19 (by decide) ?_
  refine m_irem hx hb (by omega) (by omega) (by omega) dL_acts_20 ?_
  refine m_if_ne (tgt := 29) hx hb (by omega) dL_acts_21 (by decide) (fun c_21 => ?_) (fun c_21 => ?_)
  · refine lv_iload hx hb dL_acts_29 (lv_at hl 10 rfl) ?_
    refine lv_bipush (v := nI 18) hx hb dL_acts_31 (by decide) ?_
    refine m_idiv hx hb (by omega) (by omega) (by omega) dL_acts_33 ?_
    refine lv_bipush (v := nI 9) hx hb dL_acts_34 (by decide) ?_
    refine m_irem hx hb (by omega) (by omega) (by omega) dL_acts_36 ?_
    exact kk _ _ _ ls (by omega) (by omega) (by omega) (lv_sub hl [1, 0, 2, 3, 4, 5, 6, 7, 8, 9, 10] rfl)
  · refine lv_bipush (v := nI 6) hx hb dL_acts_24 (by decide) ?_
    refine lv_goto (tgt := 37) hx hb dL_acts_26 (by decide) ?_
    exact kk _ _ _ ls (by omega) (by omega) (by omega) (lv_sub hl [1, 0, 2, 3, 4, 5, 6, 7, 8, 9, 10] rfl)
