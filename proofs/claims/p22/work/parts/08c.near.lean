/-! THE LAW: near, its six arrays -/
theorem sub1_lt {m : Nat} (hm : m < 2147483648) : nI m - nI 1 < 0 ↔ m = 0 := by
  constructor
  · intro h
    refine Decidable.byContradiction fun q => ?_
    rw [pk_sub (by omega)] at h
    exact absurd h (nI_pos (by omega))
  · rintro rfl
    decide
theorem dec_sub (a : Nat) : nI a + Int32.ofInt (-1) = nI a - nI 1 := by
  rw [Int32.sub_eq_add_neg]
  congr 1
theorem dst_le8 {L M : List Int32} (h : drOK L) (k : drOK M) : dst L M ≤ 8 := by
  have h1 := lvD_le (fun i => L.getD i 0) (fun j => M.getD j 0) L.length M.length
  have h2 := h.2
  have h3 := k.2
  unfold dst
  omega
theorem lnI_lt {ps : List Pr} {g c9 : Nat} {L : List Int32} {nr : Option Nat} (h : lnI ps g L c9 nr) : ∀ i, nr = some i → i < ps.length := fun i e => by
  subst e
  obtain ⟨-, Q, hQ, -⟩ := lnI_pr h
  exact (List.getElem?_eq_some_iff.mp hQ).1

set_option maxHeartbeats 4000000 in
set_option maxRecDepth 100000 in
theorem kL_near (l : Launch) (K : m_K) (A : Nat → Prop) (H0 : Heap) (hAe : ∀ q, A q ↔ H0.size ≤ q) (a0 a3 a5 : Nat) (w0 w3 w5 : Nat → Int32) (hP : va_P K.1 vwCl [(a0, .inl (K.2.1 0, 54, .inl w0)), (a3, .inl (K.2.1 0, 60, .inl w3)), (a5, .inl (K.2.1 0, 3, .inl w5))] H0) (fm : Nat → Option Frm) (hfm : fmOK fm) (hf : fRep w0 fm) (ps : List Pr) (hps : psOK ps) (hq : qRep w3 ps) (dr : List Int32) (hm : mRep w5 ps dr) (k g j : Nat) (hk9 : k < 2) (hg9 : g < 3) (hj9 : j < 9) : Met l yL_near wsL_near ({ frames := 3, cells := 40, slots := 1000, locals := 71 } : Room) (m_Pc K A H0 [.ref a0, .ref a3, .ref a5, .int (nI k), .int (nI g), .int (nI j)]) (va_Qi (fun r H1 => (∃ nr, r = oI nr ∧ nearF (fm (54 * k + j)) ps g = nr.bind (fun i => ps[i]?) ∧ ∀ i, nr = some i → i < ps.length) ∧ m_same H0 H1) m_B A) 40 1000 A := by
  refine m_ofW (by decide) rfl (Nat.le_of_ble_eq_true rfl) ?_
  intro p e s m args below meth c ls hx hb hr hml hown hts hlk hnm hE hsz hS hl
  have hl : lv_has ls 10 [(0, .ref a0), (1, .ref a3), (2, .ref a5), (3, .int (nI k)), (4, .int (nI g)), (5, .int (nI j))] := hl
  have hP0 := hP
  have hl20 := hps.1
  have hbF := (hfm.1 (54 * k + j)).g.lt0
  refine lv_aload_n hx hb dL_near_0 rfl (lv_at hl 0 rfl) ?_
  refine lv_bipush (v := nI 27) hx hb dL_near_1 (by decide) ?_
  refine lv_iload_n hx hb dL_near_3 rfl (lv_at hl 3 rfl) ?_
  refine m_imul hx hb dL_near_4 ?_
  refine lv_iload hx hb dL_near_5 (lv_at hl 5 rfl) ?_
  refine m_iadd hx hb dL_near_7 ?_
  refine m_iald hx hb hE.k hP 0 rfl (by omega) (by omega) (hf.r0 hk9 hj9) dL_near_8 ?_
  cases hFO : fm (54 * k + j) with
  | none =>
    refine W.eq (g2 := F0 m 9 ls [.int (nI 0)]) (by rfl) ?_
    have hsm : m_same H0 H0 := m_same.rf
    refine lv_istore (lv' := [(6, .int (nI 0)), (0, .ref a0), (1, .ref a3), (2, .ref a5), (3, .int (nI k)), (4, .int (nI g)), (5, .int (nI j))]) hx hb dL_near_9 hl (by decide) rfl (fun ls hl => ?_)
    refine lv_iconst (v := (-1)) hx hb dL_near_11 (by decide) ?_
    refine lv_istore (lv' := [(7, .int (-1)), (6, .int (nI 0)), (0, .ref a0), (1, .ref a3), (2, .ref a5), (3, .int (nI k)), (4, .int (nI g)), (5, .int (nI j))]) hx hb dL_near_12 hl (by decide) rfl (fun ls hl => ?_)
    refine lv_aload_n hx hb dL_near_14 rfl (lv_at hl 4 rfl) ?_
    refine lv_iconst (v := nI 0) hx hb dL_near_15 (by decide) ?_
    refine m_iald hx hb hE.k hP 2 rfl (by omega) (by omega) hm.1 dL_near_16 ?_
    refine lv_iconst (v := nI 1) hx hb dL_near_17 (by decide) ?_
    refine lv_isub hx hb dL_near_18 ?_
    refine lv_istore (lv' := [(8, .int (nI ps.length - nI 1)), (7, .int (-1)), (6, .int (nI 0)), (0, .ref a0), (1, .ref a3), (2, .ref a5), (3, .int (nI k)), (4, .int (nI g)), (5, .int (nI j))]) hx hb dL_near_19 hl (by decide) rfl (fun ls hl => ?_)
    refine lv_iload hx hb dL_near_21 (lv_at hl 0 rfl) ?_
    refine lv_if_lt (tgt := 112) hx hb dL_near_23 (by decide) (fun c_23 => ?_) (fun c_23 => ?_)
    · refine lv_iload hx hb dL_near_112 (lv_at hl 1 rfl) ?_
      exact m_iret hx hb hr hlk hS (Nat.le_of_ble_eq_true rfl) (Nat.le_of_ble_eq_true rfl) dL_near_114 (⟨⟨none, rfl, rfl, fun i h => by cases h⟩, hsm⟩)
    · refine lv_iload hx hb dL_near_26 (lv_at hl 2 rfl) ?_
      refine m_if_le (tgt := 112) hx hb (by omega) dL_near_28 (by decide) (fun c_28 => ?_) (fun c_28 => ?_)
      · refine lv_iload hx hb dL_near_112 (lv_at hl 1 rfl) ?_
        exact m_iret hx hb hr hlk hS (Nat.le_of_ble_eq_true rfl) (Nat.le_of_ble_eq_true rfl) dL_near_114 (⟨⟨none, rfl, rfl, fun i h => by cases h⟩, hsm⟩)
      · exact absurd c_28 (by first | decide | exact (show ¬ false = true by decide) | exact (show ¬ true = false by decide))
  | some F =>
    have hgF := hfm.1 _ F hFO
    have hdF := hgF.1
    have hF4 := hdF.2
    have hF1 := hgF.2
    have hFb := hdF.g.lt0
    have hFp : 0 < enR (drR F.1) := (gFo.pos (fo := some F) (fun G e => by cases e; exact hgF)).mpr rfl
    refine lv_istore (lv' := [(6, .int (nI (enR (drR F.1)))), (0, .ref a0), (1, .ref a3), (2, .ref a5), (3, .int (nI k)), (4, .int (nI g)), (5, .int (nI j))]) hx hb dL_near_9 hl (by decide) rfl (fun ls hl => ?_)
    refine lv_iconst (v := (-1)) hx hb dL_near_11 (by decide) ?_
    refine lv_istore (lv' := [(7, .int (-1)), (6, .int (nI (enR (drR F.1)))), (0, .ref a0), (1, .ref a3), (2, .ref a5), (3, .int (nI k)), (4, .int (nI g)), (5, .int (nI j))]) hx hb dL_near_12 hl (by decide) rfl (fun ls hl => ?_)
    refine lv_aload_n hx hb dL_near_14 rfl (lv_at hl 4 rfl) ?_
    refine lv_iconst (v := nI 0) hx hb dL_near_15 (by decide) ?_
    refine m_iald hx hb hE.k hP 2 rfl (by omega) (by omega) hm.1 dL_near_16 ?_
    refine lv_iconst (v := nI 1) hx hb dL_near_17 (by decide) ?_
    refine lv_isub hx hb dL_near_18 ?_
    refine lv_istore (lv' := [(8, .int (nI ps.length - nI 1)), (7, .int (-1)), (6, .int (nI (enR (drR F.1)))), (0, .ref a0), (1, .ref a3), (2, .ref a5), (3, .int (nI k)), (4, .int (nI g)), (5, .int (nI j))]) hx hb dL_near_19 hl (by decide) rfl (fun ls hl => ?_)
    refine (?_ : ∀ (n9 : Nat) (c9 : Nat) (nr : Option Nat) (H : Heap) (locs : List Loc) (ls : Array Slot), c9 ≤ ps.length → ps.length < c9 + n9 → lnI ps g F.1 (ps.length - c9) nr → m_same H0 H → va_S A s.heap H locs → lv_has ls 10 [(8, .int (nI (ps.length - c9) - nI 1)), (7, .int (oI nr)), (6, .int (nI (enR (drR F.1)))), (0, .ref a0), (1, .ref a3), (2, .ref a5), (3, .int (nI k)), (4, .int (nI g)), (5, .int (nI j))] → W p l e _ s m args below meth c H locs (2 * c9) (50 * c9) _ (F0 m 21 ls [])) (ps.length + 1) 0 none _ _ ls (by omega) (by omega) lnI_0 m_same.rf hS (lv_sub hl [0, 1, 2, 3, 4, 5, 6, 7, 8] rfl)
    clear hS hl hP
    intro n9
    induction n9 with
    | zero => intro c9 nr H locs ls hi9 hn9; exact absurd hn9 (by omega)
    | succ n9 ih =>
      intro c9 nr H locs ls hi9 hn9 hln hsm hS hl
      have hP := hsm.P hP0
      refine lv_iload hx hb dL_near_21 (lv_at hl 0 rfl) ?_
      refine lv_if_lt (tgt := 112) hx hb dL_near_23 (by decide) (fun c_23 => ?_) (fun c_23 => ?_)
      · refine lv_iload hx hb dL_near_112 (lv_at hl 1 rfl) ?_
        refine W.widen (k := 40) (n := 1000) (by omega) (by omega) ?_
        exact m_iret hx hb hr hlk hS (Nat.le_of_ble_eq_true rfl) (Nat.le_of_ble_eq_true rfl) dL_near_114 (⟨⟨nr, rfl, by exact lnI_near (by rw [show 0 = ps.length - c9 from ((sub1_lt (by omega)).mp c_23).symm]; exact hln), lnI_lt hln⟩, hsm⟩)
      · have hc9 : 1 ≤ ps.length - c9 := Nat.one_le_iff_ne_zero.mpr (fun z => c_23 ((sub1_lt (by omega)).mpr z))
        have e8 : nI (ps.length - c9) - nI 1 = nI (ps.length - c9 - 1) := pk_sub hc9
        rw [e8] at hl
        have hPi := List.getElem?_eq_getElem (show ps.length - c9 - 1 < ps.length by omega)
        generalize ps[ps.length - c9 - 1] = P at hPi
        have hPk := hps.at hPi
        have hdP := hPk.2.1.1
        have hPb := hdP.g.lt0
        have hP3 := hPk.1
        have hd8 := dst_le8 hdP hdF
        rw [show ps.length - c9 = (ps.length - c9 - 1) + 1 by omega] at hln
        refine lv_iload hx hb dL_near_26 (lv_at hl 2 rfl) ?_
        refine m_if_le (tgt := 112) hx hb (by omega) dL_near_28 (by decide) (fun c_28 => ?_) (fun c_28 => ?_)
        · omega
        · refine lv_aload_n hx hb dL_near_31 rfl (lv_at hl 4 rfl) ?_
          refine lv_iconst (v := nI 3) hx hb dL_near_32 (by decide) ?_
          refine lv_iload hx hb dL_near_33 (lv_at hl 0 rfl) ?_
          refine m_imul hx hb dL_near_35 ?_
          refine m_iald hx hb hE.k hP 1 rfl (by omega) (by omega) ((hq _ P hPi).1) dL_near_36 ?_
          refine lv_iload hx hb dL_near_37 (lv_at hl 7 rfl) ?_
          refine m_icmp_ne (tgt := 58) hx hb (by omega) (by omega) dL_near_39 (by decide) (fun c_39 => ?_) (fun c_39 => ?_)
          · refine lv_bipush (v := nI 99) hx hb dL_near_58 (by decide) ?_
            refine lv_istore (lv' := [(9, .int (nI 99)), (8, .int (nI (ps.length - c9 - 1))), (7, .int (oI nr)), (6, .int (nI (enR (drR F.1)))), (0, .ref a0), (1, .ref a3), (2, .ref a5), (3, .int (nI k)), (4, .int (nI g)), (5, .int (nI j))]) hx hb dL_near_60 hl (by decide) rfl (fun ls hl => ?_)
            refine lv_iload hx hb dL_near_62 (lv_at hl 0 rfl) ?_
            refine lv_iload hx hb dL_near_64 (lv_at hl 3 rfl) ?_
            refine m_cSi (rest := [.int (nI 99)]) ⟨hx, hb, hml, hown, hts⟩ hE hS (fun _ h => h) (kL_size l K A _ (drR F.1) hdF.g) (va_cwS 1 hts gL_near_L_size rfl rfl rfl (by decide +kernel) ⟨Nat.le_of_ble_eq_true rfl, Nat.le_of_ble_eq_true rfl⟩) rfl rfl hl.1 rfl (Nat.le_of_ble_eq_true rfl) dL_near_66 ⟨by show _ ≤ 40; omega, by show _ ≤ 1000; omega⟩ (fun r H1 locs hp hS hk => ?_)
            obtain ⟨rfl, rfl⟩ := hp
            rw [drR_len]
            refine lv_iconst (v := nI 2) hx hb dL_near_69 (by decide) ?_
            refine m_idiv hx hb (by omega) (by omega) (by omega) dL_near_70 ?_
            refine m_icmp_gt (tgt := 102) hx hb (by omega) (by omega) dL_near_71 (by decide) (fun c_71 => ?_) (fun c_71 => ?_)
            · refine lv_iload hx hb dL_near_102 (lv_at hl 2 rfl) ?_
              refine lv_istore (lv' := [(7, .int (oI nr)), (9, .int (nI 99)), (8, .int (nI (ps.length - c9 - 1))), (6, .int (nI (enR (drR F.1)))), (0, .ref a0), (1, .ref a3), (2, .ref a5), (3, .int (nI k)), (4, .int (nI g)), (5, .int (nI j))]) hx hb dL_near_104 hl (by decide) rfl (fun ls hl => ?_)
              refine lv_iinc (v := nI (ps.length - (c9 + 1)) - nI 1) (lv' := [(8, .int (nI (ps.length - (c9 + 1)) - nI 1)), (7, .int (oI nr)), (9, .int (nI 99)), (6, .int (nI (enR (drR F.1)))), (0, .ref a0), (1, .ref a3), (2, .ref a5), (3, .int (nI k)), (4, .int (nI g)), (5, .int (nI j))]) hx hb dL_near_106 hl (k := 2) rfl ((dec_sub _).trans (by rw [show ps.length - c9 - 1 = ps.length - (c9 + 1) by omega])) (by decide) rfl (fun ls hl => ?_)
              refine lv_goto (tgt := 21) hx hb dL_near_109 (by decide) ?_
              refine W.widen (k := 2 * (c9 + 1)) (n := 50 * (c9 + 1)) (by omega) (by omega) ?_
              exact ih (c9 + 1) nr _ _ ls (by omega) (by omega) (by rw [show ps.length - (c9 + 1) = ps.length - c9 - 1 by omega]; exact lnI_no hln hPi (fun z => c_39 z.1)) hsm hS (lv_sub hl [0, 1, 3, 4, 5, 6, 7, 8, 9] rfl)
            · omega
          · refine lv_aload_n hx hb dL_near_42 rfl (lv_at hl 4 rfl) ?_
            refine lv_iconst (v := nI 3) hx hb dL_near_43 (by decide) ?_
            refine lv_iload hx hb dL_near_44 (lv_at hl 0 rfl) ?_
            refine m_imul hx hb dL_near_46 ?_
            refine lv_iconst (v := nI 1) hx hb dL_near_47 (by decide) ?_
            refine m_iadd hx hb dL_near_48 ?_
            refine m_iald hx hb hE.k hP 1 rfl (by omega) (by omega) ((hq _ P hPi).2.1) dL_near_49 ?_
            refine lv_iload hx hb dL_near_50 (lv_at hl 2 rfl) ?_
            refine m_cSi (rest := []) ⟨hx, hb, hml, hown, hts⟩ hE hS (fun q h => (hAe q).mpr (Nat.le_trans hsm.1 h)) (kL_distance l K (fun q => H.size ≤ q) H (fun q => Iff.rfl) (drR P.2.1.1) (drR F.1) hdP.g hdF.g) (va_cwS 2 hts gL_near_L_distance rfl rfl rfl (by decide +kernel) ⟨Nat.le_of_ble_eq_true rfl, Nat.le_of_ble_eq_true rfl⟩) rfl rfl hl.1 rfl (Nat.le_of_ble_eq_true rfl) dL_near_52 ⟨by show _ ≤ 40; omega, by show _ ≤ 1000; omega⟩ (fun r Ha locs hp hS hk => ?_)
            obtain ⟨rfl, hsm1⟩ := hp
            have hsm := hsm.trans hsm1
            have hP := hsm.P hP0
            rw [dsR_eq hdP hdF]
            refine lv_goto (tgt := 60) hx hb dL_near_55 (by decide) ?_
            refine lv_istore (lv' := [(9, .int (nI (dst P.2.1.1 F.1))), (8, .int (nI (ps.length - c9 - 1))), (7, .int (oI nr)), (6, .int (nI (enR (drR F.1)))), (0, .ref a0), (1, .ref a3), (2, .ref a5), (3, .int (nI k)), (4, .int (nI g)), (5, .int (nI j))]) hx hb dL_near_60 hl (by decide) rfl (fun ls hl => ?_)
            refine lv_iload hx hb dL_near_62 (lv_at hl 0 rfl) ?_
            refine lv_iload hx hb dL_near_64 (lv_at hl 3 rfl) ?_
            refine m_cSi (rest := [.int (nI (dst P.2.1.1 F.1))]) ⟨hx, hb, hml, hown, hts⟩ hE hS (fun _ h => h) (kL_size l K A _ (drR F.1) hdF.g) (va_cwS 1 hts gL_near_L_size rfl rfl rfl (by decide +kernel) ⟨Nat.le_of_ble_eq_true rfl, Nat.le_of_ble_eq_true rfl⟩) rfl rfl hl.1 rfl (Nat.le_of_ble_eq_true rfl) dL_near_66 ⟨by show _ ≤ 40; omega, by show _ ≤ 1000; omega⟩ (fun r H1 locs hp hS hk => ?_)
            obtain ⟨rfl, rfl⟩ := hp
            rw [drR_len]
            refine lv_iconst (v := nI 2) hx hb dL_near_69 (by decide) ?_
            refine m_idiv hx hb (by omega) (by omega) (by omega) dL_near_70 ?_
            refine m_icmp_gt (tgt := 102) hx hb (by omega) (by omega) dL_near_71 (by decide) (fun c_71 => ?_) (fun c_71 => ?_)
            · refine lv_iload hx hb dL_near_102 (lv_at hl 2 rfl) ?_
              refine lv_istore (lv' := [(7, .int (oI nr)), (9, .int (nI (dst P.2.1.1 F.1))), (8, .int (nI (ps.length - c9 - 1))), (6, .int (nI (enR (drR F.1)))), (0, .ref a0), (1, .ref a3), (2, .ref a5), (3, .int (nI k)), (4, .int (nI g)), (5, .int (nI j))]) hx hb dL_near_104 hl (by decide) rfl (fun ls hl => ?_)
              refine lv_iinc (v := nI (ps.length - (c9 + 1)) - nI 1) (lv' := [(8, .int (nI (ps.length - (c9 + 1)) - nI 1)), (7, .int (oI nr)), (9, .int (nI (dst P.2.1.1 F.1))), (6, .int (nI (enR (drR F.1)))), (0, .ref a0), (1, .ref a3), (2, .ref a5), (3, .int (nI k)), (4, .int (nI g)), (5, .int (nI j))]) hx hb dL_near_106 hl (k := 2) rfl ((dec_sub _).trans (by rw [show ps.length - c9 - 1 = ps.length - (c9 + 1) by omega])) (by decide) rfl (fun ls hl => ?_)
              refine lv_goto (tgt := 21) hx hb dL_near_109 (by decide) ?_
              refine W.widen (k := 2 * (c9 + 1)) (n := 50 * (c9 + 1)) (by omega) (by omega) ?_
              exact ih (c9 + 1) nr _ _ ls (by omega) (by omega) (by rw [show ps.length - (c9 + 1) = ps.length - c9 - 1 by omega]; exact lnI_no hln hPi (fun z => absurd z.2 (by omega))) hsm hS (lv_sub hl [0, 1, 3, 4, 5, 6, 7, 8, 9] rfl)
            · have hv9 : vlP g F.1 P := ⟨c_39, by omega⟩
              cases nr with
              | none =>
                have hl : lv_has ls 10 [(9, .int (nI (dst P.2.1.1 F.1))), (8, .int (nI (ps.length - c9 - 1))), (7, .int (-1)), (6, .int (nI (enR (drR F.1)))), (0, .ref a0), (1, .ref a3), (2, .ref a5), (3, .int (nI k)), (4, .int (nI g)), (5, .int (nI j))] := hl
                refine lv_iload hx hb dL_near_74 (lv_at hl 2 rfl) ?_
                refine lv_if_lt (tgt := 97) hx hb dL_near_76 (by decide) (fun c_76 => ?_) (fun c_76 => ?_)
                · refine lv_iload hx hb dL_near_97 (lv_at hl 1 rfl) ?_
                  refine lv_goto (tgt := 104) hx hb dL_near_99 (by decide) ?_
                  refine lv_istore (lv' := [(7, .int (nI (ps.length - c9 - 1))), (9, .int (nI (dst P.2.1.1 F.1))), (8, .int (nI (ps.length - c9 - 1))), (6, .int (nI (enR (drR F.1)))), (0, .ref a0), (1, .ref a3), (2, .ref a5), (3, .int (nI k)), (4, .int (nI g)), (5, .int (nI j))]) hx hb dL_near_104 hl (by decide) rfl (fun ls hl => ?_)
                  refine lv_iinc (v := nI (ps.length - (c9 + 1)) - nI 1) (lv' := [(8, .int (nI (ps.length - (c9 + 1)) - nI 1)), (7, .int (nI (ps.length - c9 - 1))), (9, .int (nI (dst P.2.1.1 F.1))), (6, .int (nI (enR (drR F.1)))), (0, .ref a0), (1, .ref a3), (2, .ref a5), (3, .int (nI k)), (4, .int (nI g)), (5, .int (nI j))]) hx hb dL_near_106 hl (k := 2) rfl ((dec_sub _).trans (by rw [show ps.length - c9 - 1 = ps.length - (c9 + 1) by omega])) (by decide) rfl (fun ls hl => ?_)
                  refine lv_goto (tgt := 21) hx hb dL_near_109 (by decide) ?_
                  refine W.widen (k := 2 * (c9 + 1)) (n := 50 * (c9 + 1)) (by omega) (by omega) ?_
                  exact ih (c9 + 1) (some (ps.length - c9 - 1)) _ _ ls (by omega) (by omega) (by rw [show ps.length - (c9 + 1) = ps.length - c9 - 1 by omega]; exact lnI_new hln hPi hv9) hsm hS (lv_sub hl [0, 1, 3, 4, 5, 6, 7, 8, 9] rfl)
                · exact absurd (by decide) c_76
              | some k2 =>
                have hl : lv_has ls 10 [(9, .int (nI (dst P.2.1.1 F.1))), (8, .int (nI (ps.length - c9 - 1))), (7, .int (nI k2)), (6, .int (nI (enR (drR F.1)))), (0, .ref a0), (1, .ref a3), (2, .ref a5), (3, .int (nI k)), (4, .int (nI g)), (5, .int (nI j))] := hl
                obtain ⟨hck, Q, hQk, hvQ⟩ := lnI_pr hln
                have hQ9 := hps.at hQk
                have hdQ := hQ9.2.1.1
                have hQb := hdQ.g.lt0
                have hQ20 : k2 < ps.length := lnI_lt hln k2 rfl
                have hd9 := dst_le8 hdQ hdF
                refine lv_iload hx hb dL_near_74 (lv_at hl 2 rfl) ?_
                refine m_if_lt (tgt := 97) hx hb (by omega) dL_near_76 (by decide) ?_
                refine lv_iload hx hb dL_near_79 (lv_at hl 0 rfl) ?_
                refine lv_aload_n hx hb dL_near_81 rfl (lv_at hl 5 rfl) ?_
                refine lv_iconst (v := nI 3) hx hb dL_near_82 (by decide) ?_
                refine lv_iload hx hb dL_near_83 (lv_at hl 2 rfl) ?_
                refine m_imul hx hb dL_near_85 ?_
                refine lv_iconst (v := nI 1) hx hb dL_near_86 (by decide) ?_
                refine m_iadd hx hb dL_near_87 ?_
                refine m_iald hx hb hE.k hP 1 rfl (by omega) (by omega) ((hq _ Q hQk).2.1) dL_near_88 ?_
                refine lv_iload hx hb dL_near_89 (lv_at hl 3 rfl) ?_
                refine m_cSi (rest := [.int (nI (dst P.2.1.1 F.1))]) ⟨hx, hb, hml, hown, hts⟩ hE hS (fun q h => (hAe q).mpr (Nat.le_trans hsm.1 h)) (kL_distance l K (fun q => Ha.size ≤ q) Ha (fun q => Iff.rfl) (drR Q.2.1.1) (drR F.1) hdQ.g hdF.g) (va_cwS 2 hts gL_near_L_distance rfl rfl rfl (by decide +kernel) ⟨Nat.le_of_ble_eq_true rfl, Nat.le_of_ble_eq_true rfl⟩) rfl rfl hl.1 rfl (Nat.le_of_ble_eq_true rfl) dL_near_91 ⟨by show _ ≤ 40; omega, by show _ ≤ 1000; omega⟩ (fun r Hb locs hp hS hk => ?_)
                obtain ⟨rfl, hsm1⟩ := hp
                have hsm := hsm.trans hsm1
                have hP := hsm.P hP0
                rw [dsR_eq hdQ hdF]
                refine m_icmp_ge (tgt := 102) hx hb (by omega) (by omega) dL_near_94 (by decide) (fun c_94 => ?_) (fun c_94 => ?_)
                · refine lv_iload hx hb dL_near_102 (lv_at hl 2 rfl) ?_
                  refine lv_istore (lv' := [(7, .int (nI k2)), (9, .int (nI (dst P.2.1.1 F.1))), (8, .int (nI (ps.length - c9 - 1))), (6, .int (nI (enR (drR F.1)))), (0, .ref a0), (1, .ref a3), (2, .ref a5), (3, .int (nI k)), (4, .int (nI g)), (5, .int (nI j))]) hx hb dL_near_104 hl (by decide) rfl (fun ls hl => ?_)
                  refine lv_iinc (v := nI (ps.length - (c9 + 1)) - nI 1) (lv' := [(8, .int (nI (ps.length - (c9 + 1)) - nI 1)), (7, .int (nI k2)), (9, .int (nI (dst P.2.1.1 F.1))), (6, .int (nI (enR (drR F.1)))), (0, .ref a0), (1, .ref a3), (2, .ref a5), (3, .int (nI k)), (4, .int (nI g)), (5, .int (nI j))]) hx hb dL_near_106 hl (k := 2) rfl ((dec_sub _).trans (by rw [show ps.length - c9 - 1 = ps.length - (c9 + 1) by omega])) (by decide) rfl (fun ls hl => ?_)
                  refine lv_goto (tgt := 21) hx hb dL_near_109 (by decide) ?_
                  refine W.widen (k := 2 * (c9 + 1)) (n := 50 * (c9 + 1)) (by omega) (by omega) ?_
                  exact ih (c9 + 1) (some k2) _ _ ls (by omega) (by omega) (by rw [show ps.length - (c9 + 1) = ps.length - c9 - 1 by omega]; exact lnI_more hln hPi hQk (by omega)) hsm hS (lv_sub hl [0, 1, 3, 4, 5, 6, 7, 8, 9] rfl)
                · refine lv_iload hx hb dL_near_97 (lv_at hl 1 rfl) ?_
                  refine lv_goto (tgt := 104) hx hb dL_near_99 (by decide) ?_
                  refine lv_istore (lv' := [(7, .int (nI (ps.length - c9 - 1))), (9, .int (nI (dst P.2.1.1 F.1))), (8, .int (nI (ps.length - c9 - 1))), (6, .int (nI (enR (drR F.1)))), (0, .ref a0), (1, .ref a3), (2, .ref a5), (3, .int (nI k)), (4, .int (nI g)), (5, .int (nI j))]) hx hb dL_near_104 hl (by decide) rfl (fun ls hl => ?_)
                  refine lv_iinc (v := nI (ps.length - (c9 + 1)) - nI 1) (lv' := [(8, .int (nI (ps.length - (c9 + 1)) - nI 1)), (7, .int (nI (ps.length - c9 - 1))), (9, .int (nI (dst P.2.1.1 F.1))), (6, .int (nI (enR (drR F.1)))), (0, .ref a0), (1, .ref a3), (2, .ref a5), (3, .int (nI k)), (4, .int (nI g)), (5, .int (nI j))]) hx hb dL_near_106 hl (k := 2) rfl ((dec_sub _).trans (by rw [show ps.length - c9 - 1 = ps.length - (c9 + 1) by omega])) (by decide) rfl (fun ls hl => ?_)
                  refine lv_goto (tgt := 21) hx hb dL_near_109 (by decide) ?_
                  refine W.widen (k := 2 * (c9 + 1)) (n := 50 * (c9 + 1)) (by omega) (by omega) ?_
                  exact ih (c9 + 1) (some (ps.length - c9 - 1)) _ _ ls (by omega) (by omega) (by rw [show ps.length - (c9 + 1) = ps.length - c9 - 1 by omega]; exact lnI_less hln hPi hv9 hQk (by omega)) hsm hS (lv_sub hl [0, 1, 3, 4, 5, 6, 7, 8, 9] rfl)

/-- the law's six arrays -/
def lW (K : m_K) (b : Nat → Nat) (g : Nat → Nat → Int32) : va_W := [(b 0, .inl (K.2.1 0, 54, .inl (g 0))), (b 1, .inl (K.2.1 0, 6, .inl (g 1))), (b 2, .inl (K.2.1 0, 8, .inl (g 2))), (b 3, .inl (K.2.1 0, 60, .inl (g 3))), (b 4, .inl (K.2.1 0, 9, .inl (g 4))), (b 5, .inl (K.2.1 0, 3, .inl (g 5)))]
theorem keepL_n {fm : Nat → Option Frm} {k j c9 : Nat} {F : Frm} {ps : List Pr} (h : fm (54 * k + 9 * (c9 + 1) + j) = none) : keepL fm k j F (c9 + 1) ps = keepL fm k j F c9 ps := by
  rw [keepL, h]
theorem keepL_s {fm : Nat → Option Frm} {k j c9 : Nat} {F G : Frm} {ps : List Pr} (h : fm (54 * k + 9 * (c9 + 1) + j) = some G) : keepL fm k j F (c9 + 1) ps = pushP (keepL fm k j F c9 ps) (c9 + 1, F, G) := by
  rw [keepL, h]
theorem keepP_n {fm : Nat → Option Frm} {k j : Nat} {ps : List Pr} (h : fm (54 * k + j) = none) : keepP fm k j ps = ps := by
  rw [keepP, h]
theorem keepP_s {fm : Nat → Option Frm} {k j : Nat} {F : Frm} {ps : List Pr} (hfm : fmOK fm) (hk : k < 10) (hj : j < 9) (h : fm (54 * k + j) = some F) : keepP fm k j ps = keepL fm k j F 2 ps := by
  rw [keepP, h]
  exact keepL_2 hfm hk hj
theorem keepP_c {fm : Nat → Option Frm} {k j n : Nat} {F : Frm} {ps : List Pr} (hfm : fmOK fm) (hk : k < 10) (hj : j < 9) (h : fm (54 * k + j) = some F) (hn : n = 2) : keepP fm k j ps = keepL fm k j F n ps := by
  subst hn
  exact keepP_s hfm hk hj h
theorem fR_n {fo : Option Frm} (h : fo = none) : nI (enR (foR fo)) = nI 0 := by subst h; rfl
theorem fR_s {fo : Option Frm} {F : Frm} (h : fo = some F) : nI (enR (foR fo)) = nI (enR (drR F.1)) := by subst h; rfl
theorem up_s {w : Nat → Int32} {k : Nat} {x : Int32} : upd w k x k = x := by unfold upd; rw [if_pos rfl]
theorem aRep_0 {w : Nat → Int32} {vs ch : Nat → Int32} {k l : Nat} (h : aRep w vs ch) (hk : k < 2) (hl : l < 3) (h0 : ¬ l = 0) : aRep (upd w (2 + 3 * k + l) (vs k)) (vsC vs k l) (chC ch vs k l) := fun k2 hk2 => by
  obtain ⟨h1, h2⟩ := h k2 hk2
  have e : vsC vs k l = vs := if_neg h0
  refine ⟨by rw [pk_un (by omega), e]; exact h1, fun g hg => ?_⟩
  unfold chC
  rw [e]
  by_cases hc : k2 = k ∧ g = l
  · obtain ⟨rfl, rfl⟩ := hc
    rw [up_s, if_neg h0, va_up_self]
  · rw [pk_un (by omega), va_up_ne _ _ (by omega)]
    exact h2 g hg
theorem aRep_1 {w : Nat → Int32} {vs ch : Nat → Int32} {k : Nat} (h : aRep w vs ch) (hk : k < 2) : aRep (upd (upd w k (vs k + nI 1)) (2 + 3 * k + 0) (vs k + nI 1)) (vsC vs k 0) (chC ch vs k 0) := fun k2 hk2 => by
  obtain ⟨h1, h2⟩ := h k2 hk2
  have e : vsC vs k 0 = va_up vs k (vs k + nI 1) := if_pos rfl
  unfold chC
  rw [e]
  by_cases hc : k2 = k
  · subst hc
    refine ⟨by rw [pk_un (by omega), up_s, va_up_self], fun g hg => ?_⟩
    by_cases hg0 : g = 0
    · subst hg0
      rw [up_s, if_pos rfl, va_up_self]
    · rw [pk_un (by omega), pk_un (by omega), if_neg hg0, va_up_ne _ _ (by omega), h2 g hg, if_neg hg0]
  · refine ⟨by rw [pk_un (by omega), pk_un (by omega), va_up_ne _ _ (by omega)]; exact h1, fun g hg => ?_⟩
    rw [pk_un (by omega), pk_un (by omega), h2 g hg, va_up_ne _ _ (by omega), va_up_ne _ _ (by omega)]
theorem sh_1 {w w1 : Nat → Int32} {t : Nat} (h1 : ∀ s, s < t → w1 s = w (s + 3)) (h2 : ∀ s, t ≤ s → w1 s = w s) : (∀ s, s < t + 1 → upd w1 t (w1 (t + 3)) s = w (s + 3)) ∧ ∀ s, t + 1 ≤ s → upd w1 t (w1 (t + 3)) s = w s := by
  refine ⟨fun s hs => ?_, fun s hs => ?_⟩
  · unfold upd
    split
    · rename_i e
      rw [e]
      exact h2 _ (by omega)
    · exact h1 s (by omega)
  · rw [pk_un (by omega)]
    exact h2 s (by omega)
