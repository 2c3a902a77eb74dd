/-! THE LAW: told, distance -/
theorem ou_s {fb : Nat → Nat} {ft : Nat → Nat → Bool} {kd : Nat → Nat} {u n pl l : Nat} {s : Nat × Option Nat} : ouF fb ft kd u (n + 1) pl l s = if l = 0 then fdF (ft l) (kd l) u pl l s 9 else ouF fb ft kd u n (pl + 1) (fb l) (fdF (ft l) (kd l) u pl l s 9) := rfl
theorem fd_sk1 {ft : Nat → Bool} {kd u pl its j r : Nat} {b : Option Nat} {s : Nat × Option Nat} (h : fdF ft kd u pl its s j = (r, b)) (k : byF kd u j = 1000) : fdF ft kd u pl its s (j + 1) = (r, b) := by
  rw [fdF, h, if_neg (fun z => by have := z.1; omega)]
theorem fd_sk2 {ft : Nat → Bool} {kd u pl its j r y : Nat} {b : Option Nat} {s : Nat × Option Nat} (h : fdF ft kd u pl its s j = (r, b)) (k : byF kd u j = y) (hr : r ≤ 4 * pl + y) : fdF ft kd u pl its s (j + 1) = (r, b) := by
  rw [fdF, h, if_neg (fun z => by have := z.2.1; dsimp only at this; omega)]
theorem fd_sk3 {ft : Nat → Bool} {kd u pl its j r : Nat} {b : Option Nat} {s : Nat × Option Nat} (h : fdF ft kd u pl its s j = (r, b)) (k : ft j = false) : fdF ft kd u pl its s (j + 1) = (r, b) := by
  rw [fdF, h, if_neg (fun z => by rw [k] at z; cases z.2.2)]
theorem fd_set {ft : Nat → Bool} {kd u pl its j r y : Nat} {b : Option Nat} {s : Nat × Option Nat} (h : fdF ft kd u pl its s j = (r, b)) (k : byF kd u j = y) (hy : y < 1000) (hr : ¬ r ≤ 4 * pl + y) (hf : ft j = true) : fdF ft kd u pl its s (j + 1) = (4 * pl + y, some (9 * its + j)) := by
  rw [fdF, h, if_pos ⟨by omega, by dsimp only; omega, hf⟩, k]

set_option maxHeartbeats 4000000 in
set_option maxRecDepth 100000 in
theorem kL_told (l : Launch) (K : m_K) (A : Nat → Prop) (H0 : Heap) (a0 a1 a4 : Nat) (w0 w1 w4 : Nat → Int32) (hP : va_P K.1 vwCl [(a0, .inl (K.2.1 0, 54, .inl w0)), (a1, .inl (K.2.1 0, 6, .inl w1)), (a4, .inl (K.2.1 0, 9, .inl w4))] H0) (fm : Nat → Option Frm) (hfm : fmOK fm) (hf : fRep w0 fm) (hx1 : xRep w1 fm) (fb : Nat → Nat) (on fw : Nat → Int32) (hn : nRep w4 fb on fw) (hfb : fbOK fb) (k g : Nat) (x : Int32) (u : Nat) (hk9 : k < 2) (hg9 : g < 3) (hu9 : u < 3) : Met l yL_told wsL_told ({ frames := 2, cells := 0, slots := 0, locals := 53 } : Room) (m_Pc K A H0 [.ref a0, .ref a1, .ref a4, .int (nI k), .int (nI g), .int x, .int (nI u)]) (va_Qi (fun r H1 => r = oI (toldS fb on fw fm k g x u) ∧ H0 = H1) m_B A) 0 0 A := by
  refine m_ofW (by decide) rfl (Nat.le_of_ble_eq_true rfl) ?_
  intro p e s m args below meth c ls hx hb hr hml hown hts hlk hnm hE hsz hS hl
  have hl : lv_has ls 15 [(0, .ref a0), (1, .ref a1), (2, .ref a4), (3, .int (nI k)), (4, .int (nI g)), (5, .int x), (6, .int (nI u))] := hl
  refine lv_iconst (v := (-1)) hx hb dL_told_0 (by decide) ?_
  refine lv_istore (lv' := [(7, .int (-1)), (0, .ref a0), (1, .ref a1), (2, .ref a4), (3, .int (nI k)), (4, .int (nI g)), (5, .int x), (6, .int (nI u))]) hx hb dL_told_1 hl (by decide) rfl (fun ls hl => ?_)
  refine lv_sipush (v := nI 1000) hx hb dL_told_3 (by decide) ?_
  refine lv_istore (lv' := [(8, .int (nI 1000)), (7, .int (-1)), (0, .ref a0), (1, .ref a1), (2, .ref a4), (3, .int (nI k)), (4, .int (nI g)), (5, .int x), (6, .int (nI u))]) hx hb dL_told_6 hl (by decide) rfl (fun ls hl => ?_)
  refine lv_iconst (v := nI 0) hx hb dL_told_8 (by decide) ?_
  refine lv_istore (lv' := [(9, .int (nI 0)), (8, .int (nI 1000)), (7, .int (-1)), (0, .ref a0), (1, .ref a1), (2, .ref a4), (3, .int (nI k)), (4, .int (nI g)), (5, .int x), (6, .int (nI u))]) hx hb dL_told_9 hl (by decide) rfl (fun ls hl => ?_)
  refine lv_iload hx hb dL_told_11 (lv_at hl 7 rfl) ?_
  refine lv_istore (lv' := [(10, .int (nI g)), (9, .int (nI 0)), (8, .int (nI 1000)), (7, .int (-1)), (0, .ref a0), (1, .ref a1), (2, .ref a4), (3, .int (nI k)), (4, .int (nI g)), (5, .int x), (6, .int (nI u))]) hx hb dL_told_13 hl (by decide) rfl (fun ls hl => ?_)
  refine (?_ : ∀ (n9a : Nat) (pl : Nat) (its : Nat) (rk : Nat) (be : Option Nat) (locs : List Loc) (ls : Array Slot), pl ≤ 3 → 3 < pl + n9a → its < 3 → rk ≤ 1000 → ouF fb (fun g j => fitF fm k (fm (54 * k + 9 * g + j))) (fun g => kindF on fw g x) u 3 0 g (1000, none) = ouF fb (fun g j => fitF fm k (fm (54 * k + 9 * g + j))) (fun g => kindF on fw g x) u (3 - pl) pl its (rk, be) → va_S A s.heap H0 locs → lv_has ls 15 [(10, .int (nI its)), (9, .int (nI pl)), (8, .int (nI rk)), (7, .int (oI be)), (0, .ref a0), (1, .ref a1), (2, .ref a4), (3, .int (nI k)), (4, .int (nI g)), (5, .int x), (6, .int (nI u))] → W p l e _ s m args below meth c H0 locs 0 0 _ (F0 m 15 ls [])) (3 + 1) 0 g 1000 none _ ls (by omega) (by omega) hg9 (Nat.le_refl _) rfl hS (lv_sub hl [0, 1, 2, 3, 4, 5, 6, 7, 8, 9, 10] rfl)
  clear hS hl
  intro n9a
  induction n9a with
  | zero => intro pl its rk be locs ls hi9 hn9; exact absurd hn9 (by omega)
  | succ n9a iha =>
    intro pl its rk be locs ls hi9a hn9a hits hrk hinv hS hl
    refine lv_iload hx hb dL_told_15 (lv_at hl 1 rfl) ?_
    refine lv_iconst (v := nI 3) hx hb dL_told_17 (by decide) ?_
    refine m_icmp_ge (tgt := 210) hx hb (by omega) (by omega) dL_told_18 (by decide) (fun c_18 => ?_) (fun c_18 => ?_)
    · refine lv_iload hx hb dL_told_210 (lv_at hl 3 rfl) ?_
      exact m_iret hx hb hr hlk hS (Nat.le_of_ble_eq_true rfl) (Nat.le_of_ble_eq_true rfl) dL_told_212 (⟨by rw [← ou_told hfb hg9 hu9, hinv, show 3 - pl = 0 by omega]; rfl, rfl⟩)
    · refine lv_aload_n hx hb dL_told_21 rfl (lv_at hl 6 rfl) ?_
      refine lv_iload hx hb dL_told_22 (lv_at hl 0 rfl) ?_
      refine lv_iload hx hb dL_told_24 (lv_at hl 9 rfl) ?_
      refine m_cSi (rest := []) ⟨hx, hb, hml, hown, hts⟩ hE hS (fun _ h => h) (kL_kind l K A _ a4 w4 (hP.sub [2] rfl) fb on fw hn its hits x) (va_cwS 3 hts gL_told_L_kind rfl rfl rfl (by decide +kernel) ⟨Nat.le_of_ble_eq_true rfl, Nat.le_of_ble_eq_true rfl⟩) rfl rfl hl.1 rfl (Nat.le_of_ble_eq_true rfl) dL_told_26 ⟨Nat.le_of_ble_eq_true rfl, Nat.le_of_ble_eq_true rfl⟩ (fun r H1 locs hp hS hk => ?_)
      obtain ⟨rfl, rfl⟩ := hp
      have hkd := kindF_lt on fw its x
      refine lv_istore (lv' := [(11, .int (nI (kindF on fw its x))), (10, .int (nI its)), (9, .int (nI pl)), (8, .int (nI rk)), (7, .int (oI be)), (0, .ref a0), (1, .ref a1), (2, .ref a4), (3, .int (nI k)), (4, .int (nI g)), (5, .int x), (6, .int (nI u))]) hx hb dL_told_29 hl (by decide) rfl (fun ls hl => ?_)
      refine lv_iconst (v := nI 0) hx hb dL_told_31 (by decide) ?_
      refine lv_istore (lv' := [(12, .int (nI 0)), (11, .int (nI (kindF on fw its x))), (10, .int (nI its)), (9, .int (nI pl)), (8, .int (nI rk)), (7, .int (oI be)), (0, .ref a0), (1, .ref a1), (2, .ref a4), (3, .int (nI k)), (4, .int (nI g)), (5, .int x), (6, .int (nI u))]) hx hb dL_told_32 hl (by decide) rfl (fun ls hl => ?_)
      refine (?_ : ∀ (n9b : Nat) (j : Nat) (r2 : Nat) (b2 : Option Nat) (locs : List Loc) (ls : Array Slot), j ≤ 9 → 9 < j + n9b → r2 ≤ 1000 → fdF (fun j => fitF fm k (fm (54 * k + 9 * its + j))) (kindF on fw its x) u pl its (rk, be) j = (r2, b2) → va_S A s.heap H0 locs → lv_has ls 15 [(12, .int (nI j)), (8, .int (nI r2)), (7, .int (oI b2)), (11, .int (nI (kindF on fw its x))), (10, .int (nI its)), (9, .int (nI pl)), (0, .ref a0), (1, .ref a1), (2, .ref a4), (3, .int (nI k)), (4, .int (nI g)), (5, .int x), (6, .int (nI u))] → W p l e _ s m args below meth c H0 locs 0 0 _ (F0 m 34 ls [])) (9 + 1) 0 rk be _ ls (by omega) (by omega) hrk rfl hS (lv_sub hl [0, 4, 5, 1, 2, 3, 6, 7, 8, 9, 10, 11, 12] rfl)
      clear hS hl
      intro n9b
      induction n9b with
      | zero => intro j r2 b2 locs ls hi9 hn9; exact absurd hn9 (by omega)
      | succ n9b ihb =>
        intro j r2 b2 locs ls hi9b hn9b hr2 hin hS hl
        refine lv_iload hx hb dL_told_34 (lv_at hl 0 rfl) ?_
        refine lv_bipush (v := nI 9) hx hb dL_told_36 (by decide) ?_
        refine m_icmp_ge (tgt := 186) hx hb (by omega) (by omega) dL_told_38 (by decide) (fun c_38 => ?_) (fun c_38 => ?_)
        · refine lv_iload hx hb dL_told_186 (lv_at hl 4 rfl) ?_
          refine m_if_ne (tgt := 195) hx hb (by omega) dL_told_188 (by decide) (fun c_188 => ?_) (fun c_188 => ?_)
          · refine lv_iload hx hb dL_told_195 (lv_at hl 5 rfl) ?_
            refine lv_iconst (v := nI 1) hx hb dL_told_197 (by decide) ?_
            refine m_iadd hx hb dL_told_198 ?_
            refine lv_istore (lv' := [(9, .int (nI (pl + 1))), (12, .int (nI j)), (8, .int (nI r2)), (7, .int (oI b2)), (11, .int (nI (kindF on fw its x))), (10, .int (nI its)), (0, .ref a0), (1, .ref a1), (2, .ref a4), (3, .int (nI k)), (4, .int (nI g)), (5, .int x), (6, .int (nI u))]) hx hb dL_told_199 hl (by decide) rfl (fun ls hl => ?_)
            refine lv_aload_n hx hb dL_told_201 rfl (lv_at hl 8 rfl) ?_
            refine lv_iload hx hb dL_told_202 (lv_at hl 5 rfl) ?_
            refine m_iald hx hb hE.k hP 2 rfl (by omega) (by omega) ((hn its hits).1) dL_told_204 ?_
            refine lv_istore (lv' := [(10, .int (nI (fb its))), (9, .int (nI (pl + 1))), (12, .int (nI j)), (8, .int (nI r2)), (7, .int (oI b2)), (11, .int (nI (kindF on fw its x))), (0, .ref a0), (1, .ref a1), (2, .ref a4), (3, .int (nI k)), (4, .int (nI g)), (5, .int x), (6, .int (nI u))]) hx hb dL_told_205 hl (by decide) rfl (fun ls hl => ?_)
            refine lv_goto (tgt := 15) hx hb dL_told_207 (by decide) ?_
            exact iha (pl + 1) (fb its) r2 b2 _ ls (by omega) (by omega) (hfb.lt hits) hr2 (by rw [hinv, show 3 - pl = (3 - (pl + 1)) + 1 by omega, ou_s, if_neg c_188, ← hin, show j = 9 by omega]) hS (lv_sub hl [0, 1, 3, 4, 6, 7, 8, 9, 10, 11, 12] rfl)
          · refine lv_iconst (v := nI 3) hx hb dL_told_191 (by decide) ?_
            refine lv_goto (tgt := 199) hx hb dL_told_192 (by decide) ?_
            refine lv_istore (lv' := [(9, .int (nI 3)), (12, .int (nI j)), (8, .int (nI r2)), (7, .int (oI b2)), (11, .int (nI (kindF on fw its x))), (10, .int (nI its)), (0, .ref a0), (1, .ref a1), (2, .ref a4), (3, .int (nI k)), (4, .int (nI g)), (5, .int x), (6, .int (nI u))]) hx hb dL_told_199 hl (by decide) rfl (fun ls hl => ?_)
            refine lv_aload_n hx hb dL_told_201 rfl (lv_at hl 8 rfl) ?_
            refine lv_iload hx hb dL_told_202 (lv_at hl 5 rfl) ?_
            refine m_iald hx hb hE.k hP 2 rfl (by omega) (by omega) ((hn its hits).1) dL_told_204 ?_
            refine lv_istore (lv' := [(10, .int (nI (fb its))), (9, .int (nI 3)), (12, .int (nI j)), (8, .int (nI r2)), (7, .int (oI b2)), (11, .int (nI (kindF on fw its x))), (0, .ref a0), (1, .ref a1), (2, .ref a4), (3, .int (nI k)), (4, .int (nI g)), (5, .int x), (6, .int (nI u))]) hx hb dL_told_205 hl (by decide) rfl (fun ls hl => ?_)
            refine lv_goto (tgt := 15) hx hb dL_told_207 (by decide) ?_
            exact iha 3 (fb its) r2 b2 _ ls (by omega) (by omega) (hfb.lt hits) hr2 (by rw [hinv, show 3 - pl = (2 - pl) + 1 by omega, ou_s, if_pos c_188, ← hin, show j = 9 by omega]; rfl) hS (lv_sub hl [0, 1, 3, 4, 6, 7, 8, 9, 10, 11, 12] rfl)
        · refine lv_iload hx hb dL_told_41 (lv_at hl 0 rfl) ?_
          refine lv_iconst (v := nI 3) hx hb dL_told_43 (by decide) ?_
          refine m_idiv hx hb (by omega) (by omega) (by omega) dL_told_44 ?_
          refine lv_iload hx hb dL_told_45 (lv_at hl 3 rfl) ?_
          refine m_icmp_ne (tgt := 54) hx hb (by omega) (by omega) dL_told_47 (by decide) (fun c_47 => ?_) (fun c_47 => ?_)
          · refine lv_iconst (v := nI 0) hx hb dL_told_54 (by decide) ?_
            refine lv_istore (lv' := [(13, .int (nI 0)), (12, .int (nI j)), (8, .int (nI r2)), (7, .int (oI b2)), (11, .int (nI (kindF on fw its x))), (10, .int (nI its)), (9, .int (nI pl)), (0, .ref a0), (1, .ref a1), (2, .ref a4), (3, .int (nI k)), (4, .int (nI g)), (5, .int x), (6, .int (nI u))]) hx hb dL_told_55 hl (by decide) rfl (fun ls hl => ?_)
            refine lv_iload hx hb dL_told_57 (lv_at hl 0 rfl) ?_
            refine m_if_eq (tgt := 75) hx hb (by omega) dL_told_59 (by decide) (fun c_59 => ?_) (fun c_59 => ?_)
            · refine lv_iload hx hb dL_told_75 (lv_at hl 0 rfl) ?_
              refine m_if_eq (tgt := 91) hx hb (by omega) dL_told_77 (by decide) (fun c_77 => ?_) (fun c_77 => ?_)
              · refine lv_iload hx hb dL_told_91 (lv_at hl 1 rfl) ?_
                refine lv_iconst (v := nI 3) hx hb dL_told_93 (by decide) ?_
                refine m_idiv hx hb (by omega) (by omega) (by omega) dL_told_94 ?_
                refine lv_iconst (v := nI 2) hx hb dL_told_95 (by decide) ?_
                refine m_icmp_ne (tgt := 112) hx hb (by omega) (by omega) dL_told_96 (by decide) (fun c_96 => ?_) (fun c_96 => ?_)
                · refine lv_iload hx hb dL_told_112 (lv_at hl 1 rfl) ?_
                  refine lv_bipush (v := nI 6) hx hb dL_told_114 (by decide) ?_
                  refine m_icmp_ne (tgt := 123) hx hb (by omega) (by omega) dL_told_116 (by decide) (fun c_116 => ?_) (fun c_116 => ?_)
                  · refine lv_sipush (v := nI 1000) hx hb dL_told_123 (by decide) ?_
                    have hby : byF (kindF on fw its x) u j = 1000 := by
                      unfold byF
                      repeat' split
                      all_goals omega
                    refine lv_istore (lv' := [(14, .int (nI 1000)), (13, .int (nI 0)), (12, .int (nI j)), (8, .int (nI r2)), (7, .int (oI b2)), (11, .int (nI (kindF on fw its x))), (10, .int (nI its)), (9, .int (nI pl)), (0, .ref a0), (1, .ref a1), (2, .ref a4), (3, .int (nI k)), (4, .int (nI g)), (5, .int x), (6, .int (nI u))]) hx hb dL_told_126 hl (by decide) rfl (fun ls hl => ?_)
                    refine lv_iload hx hb dL_told_128 (lv_at hl 0 rfl) ?_
                    refine lv_sipush (v := nI 1000) hx hb dL_told_130 (by decide) ?_
                    refine m_icmp_ge (tgt := 180) hx hb (by omega) (by omega) dL_told_133 (by decide) (fun c_133 => ?_) (fun c_133 => ?_)
                    · refine lv_iinc (v := nI (j + 1)) (lv' := [(12, .int (nI (j + 1))), (14, .int (nI 1000)), (13, .int (nI 0)), (8, .int (nI r2)), (7, .int (oI b2)), (11, .int (nI (kindF on fw its x))), (10, .int (nI its)), (9, .int (nI pl)), (0, .ref a0), (1, .ref a1), (2, .ref a4), (3, .int (nI k)), (4, .int (nI g)), (5, .int x), (6, .int (nI u))]) hx hb dL_told_180 hl (k := 2) rfl (m_inc _) (by decide) rfl (fun ls hl => ?_)
                      refine lv_goto (tgt := 34) hx hb dL_told_183 (by decide) ?_
                      exact ihb (j + 1) r2 b2 _ ls (by omega) (by omega) hr2 (fd_sk1 hin hby) hS (lv_sub hl [0, 3, 4, 5, 6, 7, 8, 9, 10, 11, 12, 13, 14] rfl)
                    · omega
                  · refine lv_iconst (v := nI 3) hx hb dL_told_119 (by decide) ?_
                    refine lv_goto (tgt := 126) hx hb dL_told_120 (by decide) ?_
                    have hby : byF (kindF on fw its x) u j = 3 := by
                      unfold byF
                      repeat' split
                      all_goals omega
                    refine lv_istore (lv' := [(14, .int (nI 3)), (13, .int (nI 0)), (12, .int (nI j)), (8, .int (nI r2)), (7, .int (oI b2)), (11, .int (nI (kindF on fw its x))), (10, .int (nI its)), (9, .int (nI pl)), (0, .ref a0), (1, .ref a1), (2, .ref a4), (3, .int (nI k)), (4, .int (nI g)), (5, .int x), (6, .int (nI u))]) hx hb dL_told_126 hl (by decide) rfl (fun ls hl => ?_)
                    refine lv_iload hx hb dL_told_128 (lv_at hl 0 rfl) ?_
                    refine lv_sipush (v := nI 1000) hx hb dL_told_130 (by decide) ?_
                    refine m_icmp_ge (tgt := 180) hx hb (by omega) (by omega) dL_told_133 (by decide) (fun c_133 => ?_) (fun c_133 => ?_)
                    · omega
                    · refine lv_iconst (v := nI 4) hx hb dL_told_136 (by decide) ?_
                      refine lv_iload hx hb dL_told_137 (lv_at hl 7 rfl) ?_
                      refine m_imul hx hb dL_told_139 ?_
                      refine lv_iload hx hb dL_told_140 (lv_at hl 0 rfl) ?_
                      refine m_iadd hx hb dL_told_142 ?_
                      refine lv_iload hx hb dL_told_143 (lv_at hl 3 rfl) ?_
                      refine m_icmp_ge (tgt := 180) hx hb (by omega) (by omega) dL_told_145 (by decide) (fun c_145 => ?_) (fun c_145 => ?_)
                      · refine lv_iinc (v := nI (j + 1)) (lv' := [(12, .int (nI (j + 1))), (14, .int (nI 3)), (13, .int (nI 0)), (8, .int (nI r2)), (7, .int (oI b2)), (11, .int (nI (kindF on fw its x))), (10, .int (nI its)), (9, .int (nI pl)), (0, .ref a0), (1, .ref a1), (2, .ref a4), (3, .int (nI k)), (4, .int (nI g)), (5, .int x), (6, .int (nI u))]) hx hb dL_told_180 hl (k := 2) rfl (m_inc _) (by decide) rfl (fun ls hl => ?_)
                        refine lv_goto (tgt := 34) hx hb dL_told_183 (by decide) ?_
                        exact ihb (j + 1) r2 b2 _ ls (by omega) (by omega) hr2 (fd_sk2 hin hby c_145) hS (lv_sub hl [0, 3, 4, 5, 6, 7, 8, 9, 10, 11, 12, 13, 14] rfl)
                      · refine lv_aload_n hx hb dL_told_148 rfl (lv_at hl 8 rfl) ?_
                        refine lv_aload_n hx hb dL_told_149 rfl (lv_at hl 9 rfl) ?_
                        refine lv_iload_n hx hb dL_told_150 rfl (lv_at hl 11 rfl) ?_
                        refine lv_iload hx hb dL_told_151 (lv_at hl 6 rfl) ?_
                        refine lv_iload hx hb dL_told_153 (lv_at hl 2 rfl) ?_
                        refine m_cSi (rest := []) ⟨hx, hb, hml, hown, hts⟩ hE hS (fun _ h => h) (kL_fits l K A _ a0 a1 w0 w1 (hP.sub [0, 1] rfl) fm hfm hf hx1 k its j hk9 hits (by omega)) (va_cwS 5 hts gL_told_L_fits rfl rfl rfl (by decide +kernel) ⟨Nat.le_of_ble_eq_true rfl, Nat.le_of_ble_eq_true rfl⟩) rfl rfl hl.1 rfl (Nat.le_of_ble_eq_true rfl) dL_told_155 ⟨Nat.le_of_ble_eq_true rfl, Nat.le_of_ble_eq_true rfl⟩ (fun r H1 locs hp hS hk => ?_)
                        obtain ⟨rfl, rfl⟩ := hp
                        refine m_if_eq_b (tgt := 180) hx hb dL_told_158 (by decide) (fun c_158 => ?_) (fun c_158 => ?_)
                        · refine lv_iinc (v := nI (j + 1)) (lv' := [(12, .int (nI (j + 1))), (14, .int (nI 3)), (13, .int (nI 0)), (8, .int (nI r2)), (7, .int (oI b2)), (11, .int (nI (kindF on fw its x))), (10, .int (nI its)), (9, .int (nI pl)), (0, .ref a0), (1, .ref a1), (2, .ref a4), (3, .int (nI k)), (4, .int (nI g)), (5, .int x), (6, .int (nI u))]) hx hb dL_told_180 hl (k := 2) rfl (m_inc _) (by decide) rfl (fun ls hl => ?_)
                          refine lv_goto (tgt := 34) hx hb dL_told_183 (by decide) ?_
                          exact ihb (j + 1) r2 b2 _ ls (by omega) (by omega) hr2 (fd_sk3 hin c_158) hS (lv_sub hl [0, 3, 4, 5, 6, 7, 8, 9, 10, 11, 12, 13, 14] rfl)
                        · refine lv_iconst (v := nI 4) hx hb dL_told_161 (by decide) ?_
                          refine lv_iload hx hb dL_told_162 (lv_at hl 7 rfl) ?_
                          refine m_imul hx hb dL_told_164 ?_
                          refine lv_iload hx hb dL_told_165 (lv_at hl 0 rfl) ?_
                          refine m_iadd hx hb dL_told_167 ?_
                          refine lv_istore (lv' := [(8, .int (nI ((4 * pl) + 3))), (14, .int (nI 3)), (13, .int (nI 0)), (12, .int (nI j)), (7, .int (oI b2)), (11, .int (nI (kindF on fw its x))), (10, .int (nI its)), (9, .int (nI pl)), (0, .ref a0), (1, .ref a1), (2, .ref a4), (3, .int (nI k)), (4, .int (nI g)), (5, .int x), (6, .int (nI u))]) hx hb dL_told_168 hl (by decide) rfl (fun ls hl => ?_)
                          refine lv_bipush (v := nI 9) hx hb dL_told_170 (by decide) ?_
                          refine lv_iload hx hb dL_told_172 (lv_at hl 6 rfl) ?_
                          refine m_imul hx hb dL_told_174 ?_
                          refine lv_iload hx hb dL_told_175 (lv_at hl 3 rfl) ?_
                          refine m_iadd hx hb dL_told_177 ?_
                          refine lv_istore (lv' := [(7, .int (nI ((9 * its) + j))), (8, .int (nI ((4 * pl) + 3))), (14, .int (nI 3)), (13, .int (nI 0)), (12, .int (nI j)), (11, .int (nI (kindF on fw its x))), (10, .int (nI its)), (9, .int (nI pl)), (0, .ref a0), (1, .ref a1), (2, .ref a4), (3, .int (nI k)), (4, .int (nI g)), (5, .int x), (6, .int (nI u))]) hx hb dL_told_178 hl (by decide) rfl (fun ls hl => ?_)
                          refine lv_iinc (v := nI (j + 1)) (lv' := [(12, .int (nI (j + 1))), (7, .int (nI ((9 * its) + j))), (8, .int (nI ((4 * pl) + 3))), (14, .int (nI 3)), (13, .int (nI 0)), (11, .int (nI (kindF on fw its x))), (10, .int (nI its)), (9, .int (nI pl)), (0, .ref a0), (1, .ref a1), (2, .ref a4), (3, .int (nI k)), (4, .int (nI g)), (5, .int x), (6, .int (nI u))]) hx hb dL_told_180 hl (k := 4) rfl (m_inc _) (by decide) rfl (fun ls hl => ?_)
                          refine lv_goto (tgt := 34) hx hb dL_told_183 (by decide) ?_
                          exact ihb (j + 1) (4 * pl + 3) (some (9 * its + j)) _ ls (by omega) (by omega) (by omega) (fd_set hin hby (by omega) c_145 c_158) hS (lv_sub hl [0, 2, 1, 5, 6, 7, 8, 9, 10, 11, 12, 13, 14] rfl)
                · refine lv_iload hx hb dL_told_99 (lv_at hl 1 rfl) ?_
                  refine lv_iconst (v := nI 3) hx hb dL_told_101 (by decide) ?_
                  refine m_irem hx hb (by omega) (by omega) (by omega) dL_told_102 ?_
                  refine lv_iload hx hb dL_told_103 (lv_at hl 13 rfl) ?_
                  refine m_icmp_ne (tgt := 112) hx hb (by omega) (by omega) dL_told_105 (by decide) (fun c_105 => ?_) (fun c_105 => ?_)
                  · refine lv_iload hx hb dL_told_112 (lv_at hl 1 rfl) ?_
                    refine lv_bipush (v := nI 6) hx hb dL_told_114 (by decide) ?_
                    refine m_icmp_ne (tgt := 123) hx hb (by omega) (by omega) dL_told_116 (by decide) (fun c_116 => ?_) (fun c_116 => ?_)
                    · refine lv_sipush (v := nI 1000) hx hb dL_told_123 (by decide) ?_
                      have hby : byF (kindF on fw its x) u j = 1000 := by
                        unfold byF
                        repeat' split
                        all_goals omega
                      refine lv_istore (lv' := [(14, .int (nI 1000)), (13, .int (nI 0)), (12, .int (nI j)), (8, .int (nI r2)), (7, .int (oI b2)), (11, .int (nI (kindF on fw its x))), (10, .int (nI its)), (9, .int (nI pl)), (0, .ref a0), (1, .ref a1), (2, .ref a4), (3, .int (nI k)), (4, .int (nI g)), (5, .int x), (6, .int (nI u))]) hx hb dL_told_126 hl (by decide) rfl (fun ls hl => ?_)
                      refine lv_iload hx hb dL_told_128 (lv_at hl 0 rfl) ?_
                      refine lv_sipush (v := nI 1000) hx hb dL_told_130 (by decide) ?_
                      refine m_icmp_ge (tgt := 180) hx hb (by omega) (by omega) dL_told_133 (by decide) (fun c_133 => ?_) (fun c_133 => ?_)
                      · refine lv_iinc (v := nI (j + 1)) (lv' := [(12, .int (nI (j + 1))), (14, .int (nI 1000)), (13, .int (nI 0)), (8, .int (nI r2)), (7, .int (oI b2)), (11, .int (nI (kindF on fw its x))), (10, .int (nI its)), (9, .int (nI pl)), (0, .ref a0), (1, .ref a1), (2, .ref a4), (3, .int (nI k)), (4, .int (nI g)), (5, .int x), (6, .int (nI u))]) hx hb dL_told_180 hl (k := 2) rfl (m_inc _) (by decide) rfl (fun ls hl => ?_)
                        refine lv_goto (tgt := 34) hx hb dL_told_183 (by decide) ?_
                        exact ihb (j + 1) r2 b2 _ ls (by omega) (by omega) hr2 (fd_sk1 hin hby) hS (lv_sub hl [0, 3, 4, 5, 6, 7, 8, 9, 10, 11, 12, 13, 14] rfl)
                      · omega
                    · refine lv_iconst (v := nI 3) hx hb dL_told_119 (by decide) ?_
                      refine lv_goto (tgt := 126) hx hb dL_told_120 (by decide) ?_
                      have hby : byF (kindF on fw its x) u j = 3 := by
                        unfold byF
                        repeat' split
                        all_goals omega
                      refine lv_istore (lv' := [(14, .int (nI 3)), (13, .int (nI 0)), (12, .int (nI j)), (8, .int (nI r2)), (7, .int (oI b2)), (11, .int (nI (kindF on fw its x))), (10, .int (nI its)), (9, .int (nI pl)), (0, .ref a0), (1, .ref a1), (2, .ref a4), (3, .int (nI k)), (4, .int (nI g)), (5, .int x), (6, .int (nI u))]) hx hb dL_told_126 hl (by decide) rfl (fun ls hl => ?_)
                      refine lv_iload hx hb dL_told_128 (lv_at hl 0 rfl) ?_
                      refine lv_sipush (v := nI 1000) hx hb dL_told_130 (by decide) ?_
                      refine m_icmp_ge (tgt := 180) hx hb (by omega) (by omega) dL_told_133 (by decide) (fun c_133 => ?_) (fun c_133 => ?_)
                      · omega
                      · refine lv_iconst (v := nI 4) hx hb dL_told_136 (by decide) ?_
                        refine lv_iload hx hb dL_told_137 (lv_at hl 7 rfl) ?_
                        refine m_imul hx hb dL_told_139 ?_
                        refine lv_iload hx hb dL_told_140 (lv_at hl 0 rfl) ?_
                        refine m_iadd hx hb dL_told_142 ?_
                        refine lv_iload hx hb dL_told_143 (lv_at hl 3 rfl) ?_
                        refine m_icmp_ge (tgt := 180) hx hb (by omega) (by omega) dL_told_145 (by decide) (fun c_145 => ?_) (fun c_145 => ?_)
                        · refine lv_iinc (v := nI (j + 1)) (lv' := [(12, .int (nI (j + 1))), (14, .int (nI 3)), (13, .int (nI 0)), (8, .int (nI r2)), (7, .int (oI b2)), (11, .int (nI (kindF on fw its x))), (10, .int (nI its)), (9, .int (nI pl)), (0, .ref a0), (1, .ref a1), (2, .ref a4), (3, .int (nI k)), (4, .int (nI g)), (5, .int x), (6, .int (nI u))]) hx hb dL_told_180 hl (k := 2) rfl (m_inc _) (by decide) rfl (fun ls hl => ?_)
                          refine lv_goto (tgt := 34) hx hb dL_told_183 (by decide) ?_
                          exact ihb (j + 1) r2 b2 _ ls (by omega) (by omega) hr2 (fd_sk2 hin hby c_145) hS (lv_sub hl [0, 3, 4, 5, 6, 7, 8, 9, 10, 11, 12, 13, 14] rfl)
                        · refine lv_aload_n hx hb dL_told_148 rfl (lv_at hl 8 rfl) ?_
                          refine lv_aload_n hx hb dL_told_149 rfl (lv_at hl 9 rfl) ?_
                          refine lv_iload_n hx hb dL_told_150 rfl (lv_at hl 11 rfl) ?_
                          refine lv_iload hx hb dL_told_151 (lv_at hl 6 rfl) ?_
                          refine lv_iload hx hb dL_told_153 (lv_at hl 2 rfl) ?_
                          refine m_cSi (rest := []) ⟨hx, hb, hml, hown, hts⟩ hE hS (fun _ h => h) (kL_fits l K A _ a0 a1 w0 w1 (hP.sub [0, 1] rfl) fm hfm hf hx1 k its j hk9 hits (by omega)) (va_cwS 5 hts gL_told_L_fits rfl rfl rfl (by decide +kernel) ⟨Nat.le_of_ble_eq_true rfl, Nat.le_of_ble_eq_true rfl⟩) rfl rfl hl.1 rfl (Nat.le_of_ble_eq_true rfl) dL_told_155 ⟨Nat.le_of_ble_eq_true rfl, Nat.le_of_ble_eq_true rfl⟩ (fun r H1 locs hp hS hk => ?_)
                          obtain ⟨rfl, rfl⟩ := hp
                          refine m_if_eq_b (tgt := 180) hx hb dL_told_158 (by decide) (fun c_158 => ?_) (fun c_158 => ?_)
                          · refine lv_iinc (v := nI (j + 1)) (lv' := [(12, .int (nI (j + 1))), (14, .int (nI 3)), (13, .int (nI 0)), (8, .int (nI r2)), (7, .int (oI b2)), (11, .int (nI (kindF on fw its x))), (10, .int (nI its)), (9, .int (nI pl)), (0, .ref a0), (1, .ref a1), (2, .ref a4), (3, .int (nI k)), (4, .int (nI g)), (5, .int x), (6, .int (nI u))]) hx hb dL_told_180 hl (k := 2) rfl (m_inc _) (by decide) rfl (fun ls hl => ?_)
                            refine lv_goto (tgt := 34) hx hb dL_told_183 (by decide) ?_
                            exact ihb (j + 1) r2 b2 _ ls (by omega) (by omega) hr2 (fd_sk3 hin c_158) hS (lv_sub hl [0, 3, 4, 5, 6, 7, 8, 9, 10, 11, 12, 13, 14] rfl)
                          · refine lv_iconst (v := nI 4) hx hb dL_told_161 (by decide) ?_
                            refine lv_iload hx hb dL_told_162 (lv_at hl 7 rfl) ?_
                            refine m_imul hx hb dL_told_164 ?_
                            refine lv_iload hx hb dL_told_165 (lv_at hl 0 rfl) ?_
                            refine m_iadd hx hb dL_told_167 ?_
                            refine lv_istore (lv' := [(8, .int (nI ((4 * pl) + 3))), (14, .int (nI 3)), (13, .int (nI 0)), (12, .int (nI j)), (7, .int (oI b2)), (11, .int (nI (kindF on fw its x))), (10, .int (nI its)), (9, .int (nI pl)), (0, .ref a0), (1, .ref a1), (2, .ref a4), (3, .int (nI k)), (4, .int (nI g)), (5, .int x), (6, .int (nI u))]) hx hb dL_told_168 hl (by decide) rfl (fun ls hl => ?_)
                            refine lv_bipush (v := nI 9) hx hb dL_told_170 (by decide) ?_
                            refine lv_iload hx hb dL_told_172 (lv_at hl 6 rfl) ?_
                            refine m_imul hx hb dL_told_174 ?_
                            refine lv_iload hx hb dL_told_175 (lv_at hl 3 rfl) ?_
                            refine m_iadd hx hb dL_told_177 ?_
                            refine lv_istore (lv' := [(7, .int (nI ((9 * its) + j))), (8, .int (nI ((4 * pl) + 3))), (14, .int (nI 3)), (13, .int (nI 0)), (12, .int (nI j)), (11, .int (nI (kindF on fw its x))), (10, .int (nI its)), (9, .int (nI pl)), (0, .ref a0), (1, .ref a1), (2, .ref a4), (3, .int (nI k)), (4, .int (nI g)), (5, .int x), (6, .int (nI u))]) hx hb dL_told_178 hl (by decide) rfl (fun ls hl => ?_)
                            refine lv_iinc (v := nI (j + 1)) (lv' := [(12, .int (nI (j + 1))), (7, .int (nI ((9 * its) + j))), (8, .int (nI ((4 * pl) + 3))), (14, .int (nI 3)), (13, .int (nI 0)), (11, .int (nI (kindF on fw its x))), (10, .int (nI its)), (9, .int (nI pl)), (0, .ref a0), (1, .ref a1), (2, .ref a4), (3, .int (nI k)), (4, .int (nI g)), (5, .int x), (6, .int (nI u))]) hx hb dL_told_180 hl (k := 4) rfl (m_inc _) (by decide) rfl (fun ls hl => ?_)
                            refine lv_goto (tgt := 34) hx hb dL_told_183 (by decide) ?_
                            exact ihb (j + 1) (4 * pl + 3) (some (9 * its + j)) _ ls (by omega) (by omega) (by omega) (fd_set hin hby (by omega) c_145 c_158) hS (lv_sub hl [0, 2, 1, 5, 6, 7, 8, 9, 10, 11, 12, 13, 14] rfl)
                  · refine lv_iconst (v := nI 2) hx hb dL_told_108 (by decide) ?_
                    refine lv_goto (tgt := 126) hx hb dL_told_109 (by decide) ?_
                    have hby : byF (kindF on fw its x) u j = 2 := by
                      unfold byF
                      repeat' split
                      all_goals omega
                    refine lv_istore (lv' := [(14, .int (nI 2)), (13, .int (nI 0)), (12, .int (nI j)), (8, .int (nI r2)), (7, .int (oI b2)), (11, .int (nI (kindF on fw its x))), (10, .int (nI its)), (9, .int (nI pl)), (0, .ref a0), (1, .ref a1), (2, .ref a4), (3, .int (nI k)), (4, .int (nI g)), (5, .int x), (6, .int (nI u))]) hx hb dL_told_126 hl (by decide) rfl (fun ls hl => ?_)
                    refine lv_iload hx hb dL_told_128 (lv_at hl 0 rfl) ?_
                    refine lv_sipush (v := nI 1000) hx hb dL_told_130 (by decide) ?_
                    refine m_icmp_ge (tgt := 180) hx hb (by omega) (by omega) dL_told_133 (by decide) (fun c_133 => ?_) (fun c_133 => ?_)
                    · omega
                    · refine lv_iconst (v := nI 4) hx hb dL_told_136 (by decide) ?_
                      refine lv_iload hx hb dL_told_137 (lv_at hl 7 rfl) ?_
                      refine m_imul hx hb dL_told_139 ?_
                      refine lv_iload hx hb dL_told_140 (lv_at hl 0 rfl) ?_
                      refine m_iadd hx hb dL_told_142 ?_
                      refine lv_iload hx hb dL_told_143 (lv_at hl 3 rfl) ?_
                      refine m_icmp_ge (tgt := 180) hx hb (by omega) (by omega) dL_told_145 (by decide) (fun c_145 => ?_) (fun c_145 => ?_)
                      · refine lv_iinc (v := nI (j + 1)) (lv' := [(12, .int (nI (j + 1))), (14, .int (nI 2)), (13, .int (nI 0)), (8, .int (nI r2)), (7, .int (oI b2)), (11, .int (nI (kindF on fw its x))), (10, .int (nI its)), (9, .int (nI pl)), (0, .ref a0), (1, .ref a1), (2, .ref a4), (3, .int (nI k)), (4, .int (nI g)), (5, .int x), (6, .int (nI u))]) hx hb dL_told_180 hl (k := 2) rfl (m_inc _) (by decide) rfl (fun ls hl => ?_)
                        refine lv_goto (tgt := 34) hx hb dL_told_183 (by decide) ?_
                        exact ihb (j + 1) r2 b2 _ ls (by omega) (by omega) hr2 (fd_sk2 hin hby c_145) hS (lv_sub hl [0, 3, 4, 5, 6, 7, 8, 9, 10, 11, 12, 13, 14] rfl)
                      · refine lv_aload_n hx hb dL_told_148 rfl (lv_at hl 8 rfl) ?_
                        refine lv_aload_n hx hb dL_told_149 rfl (lv_at hl 9 rfl) ?_
                        refine lv_iload_n hx hb dL_told_150 rfl (lv_at hl 11 rfl) ?_
                        refine lv_iload hx hb dL_told_151 (lv_at hl 6 rfl) ?_
                        refine lv_iload hx hb dL_told_153 (lv_at hl 2 rfl) ?_
                        refine m_cSi (rest := []) ⟨hx, hb, hml, hown, hts⟩ hE hS (fun _ h => h) (kL_fits l K A _ a0 a1 w0 w1 (hP.sub [0, 1] rfl) fm hfm hf hx1 k its j hk9 hits (by omega)) (va_cwS 5 hts gL_told_L_fits rfl rfl rfl (by decide +kernel) ⟨Nat.le_of_ble_eq_true rfl, Nat.le_of_ble_eq_true rfl⟩) rfl rfl hl.1 rfl (Nat.le_of_ble_eq_true rfl) dL_told_155 ⟨Nat.le_of_ble_eq_true rfl, Nat.le_of_ble_eq_true rfl⟩ (fun r H1 locs hp hS hk => ?_)
                        obtain ⟨rfl, rfl⟩ := hp
                        refine m_if_eq_b (tgt := 180) hx hb dL_told_158 (by decide) (fun c_158 => ?_) (fun c_158 => ?_)
                        · refine lv_iinc (v := nI (j + 1)) (lv' := [(12, .int (nI (j + 1))), (14, .int (nI 2)), (13, .int (nI 0)), (8, .int (nI r2)), (7, .int (oI b2)), (11, .int (nI (kindF on fw its x))), (10, .int (nI its)), (9, .int (nI pl)), (0, .ref a0), (1, .ref a1), (2, .ref a4), (3, .int (nI k)), (4, .int (nI g)), (5, .int x), (6, .int (nI u))]) hx hb dL_told_180 hl (k := 2) rfl (m_inc _) (by decide) rfl (fun ls hl => ?_)
                          refine lv_goto (tgt := 34) hx hb dL_told_183 (by decide) ?_
                          exact ihb (j + 1) r2 b2 _ ls (by omega) (by omega) hr2 (fd_sk3 hin c_158) hS (lv_sub hl [0, 3, 4, 5, 6, 7, 8, 9, 10, 11, 12, 13, 14] rfl)
                        · refine lv_iconst (v := nI 4) hx hb dL_told_161 (by decide) ?_
                          refine lv_iload hx hb dL_told_162 (lv_at hl 7 rfl) ?_
                          refine m_imul hx hb dL_told_164 ?_
                          refine lv_iload hx hb dL_told_165 (lv_at hl 0 rfl) ?_
                          refine m_iadd hx hb dL_told_167 ?_
                          refine lv_istore (lv' := [(8, .int (nI ((4 * pl) + 2))), (14, .int (nI 2)), (13, .int (nI 0)), (12, .int (nI j)), (7, .int (oI b2)), (11, .int (nI (kindF on fw its x))), (10, .int (nI its)), (9, .int (nI pl)), (0, .ref a0), (1, .ref a1), (2, .ref a4), (3, .int (nI k)), (4, .int (nI g)), (5, .int x), (6, .int (nI u))]) hx hb dL_told_168 hl (by decide) rfl (fun ls hl => ?_)
                          refine lv_bipush (v := nI 9) hx hb dL_told_170 (by decide) ?_
                          refine lv_iload hx hb dL_told_172 (lv_at hl 6 rfl) ?_
                          refine m_imul hx hb dL_told_174 ?_
                          refine lv_iload hx hb dL_told_175 (lv_at hl 3 rfl) ?_
                          refine m_iadd hx hb dL_told_177 ?_
                          refine lv_istore (lv' := [(7, .int (nI ((9 * its) + j))), (8, .int (nI ((4 * pl) + 2))), (14, .int (nI 2)), (13, .int (nI 0)), (12, .int (nI j)), (11, .int (nI (kindF on fw its x))), (10, .int (nI its)), (9, .int (nI pl)), (0, .ref a0), (1, .ref a1), (2, .ref a4), (3, .int (nI k)), (4, .int (nI g)), (5, .int x), (6, .int (nI u))]) hx hb dL_told_178 hl (by decide) rfl (fun ls hl => ?_)
                          refine lv_iinc (v := nI (j + 1)) (lv' := [(12, .int (nI (j + 1))), (7, .int (nI ((9 * its) + j))), (8, .int (nI ((4 * pl) + 2))), (14, .int (nI 2)), (13, .int (nI 0)), (11, .int (nI (kindF on fw its x))), (10, .int (nI its)), (9, .int (nI pl)), (0, .ref a0), (1, .ref a1), (2, .ref a4), (3, .int (nI k)), (4, .int (nI g)), (5, .int x), (6, .int (nI u))]) hx hb dL_told_180 hl (k := 4) rfl (m_inc _) (by decide) rfl (fun ls hl => ?_)
                          refine lv_goto (tgt := 34) hx hb dL_told_183 (by decide) ?_
                          exact ihb (j + 1) (4 * pl + 2) (some (9 * its + j)) _ ls (by omega) (by omega) (by omega) (fd_set hin hby (by omega) c_145 c_158) hS (lv_sub hl [0, 2, 1, 5, 6, 7, 8, 9, 10, 11, 12, 13, 14] rfl)
              · exact absurd c_77 (by first | decide | exact (show ¬ false = true by decide) | exact (show ¬ true = false by decide))
            · exact absurd c_59 (by first | decide | exact (show ¬ false = true by decide) | exact (show ¬ true = false by decide))
          · refine lv_iconst (v := nI 1) hx hb dL_told_50 (by decide) ?_
            refine lv_goto (tgt := 55) hx hb dL_told_51 (by decide) ?_
            refine lv_istore (lv' := [(13, .int (nI 1)), (12, .int (nI j)), (8, .int (nI r2)), (7, .int (oI b2)), (11, .int (nI (kindF on fw its x))), (10, .int (nI its)), (9, .int (nI pl)), (0, .ref a0), (1, .ref a1), (2, .ref a4), (3, .int (nI k)), (4, .int (nI g)), (5, .int x), (6, .int (nI u))]) hx hb dL_told_55 hl (by decide) rfl (fun ls hl => ?_)
            refine lv_iload hx hb dL_told_57 (lv_at hl 0 rfl) ?_
            refine m_if_eq (tgt := 75) hx hb (by omega) dL_told_59 (by decide) (fun c_59 => ?_) (fun c_59 => ?_)
            · exact absurd c_59 (by first | decide | exact (show ¬ false = true by decide) | exact (show ¬ true = false by decide))
            · refine lv_iload hx hb dL_told_62 (lv_at hl 1 rfl) ?_
              refine lv_iconst (v := nI 3) hx hb dL_told_64 (by decide) ?_
              refine m_irem hx hb (by omega) (by omega) (by omega) dL_told_65 ?_
              refine lv_iload hx hb dL_told_66 (lv_at hl 13 rfl) ?_
              refine m_icmp_ne (tgt := 75) hx hb (by omega) (by omega) dL_told_68 (by decide) (fun c_68 => ?_) (fun c_68 => ?_)
              · refine lv_iload hx hb dL_told_75 (lv_at hl 0 rfl) ?_
                refine m_if_eq (tgt := 91) hx hb (by omega) dL_told_77 (by decide) (fun c_77 => ?_) (fun c_77 => ?_)
                · exact absurd c_77 (by first | decide | exact (show ¬ false = true by decide) | exact (show ¬ true = false by decide))
                · refine lv_iload hx hb dL_told_80 (lv_at hl 1 rfl) ?_
                  refine lv_iconst (v := nI 3) hx hb dL_told_82 (by decide) ?_
                  refine m_irem hx hb (by omega) (by omega) (by omega) dL_told_83 ?_
                  refine m_if_ne (tgt := 91) hx hb (by omega) dL_told_84 (by decide) (fun c_84 => ?_) (fun c_84 => ?_)
                  · refine lv_iload hx hb dL_told_91 (lv_at hl 1 rfl) ?_
                    refine lv_iconst (v := nI 3) hx hb dL_told_93 (by decide) ?_
                    refine m_idiv hx hb (by omega) (by omega) (by omega) dL_told_94 ?_
                    refine lv_iconst (v := nI 2) hx hb dL_told_95 (by decide) ?_
                    refine m_icmp_ne (tgt := 112) hx hb (by omega) (by omega) dL_told_96 (by decide) (fun c_96 => ?_) (fun c_96 => ?_)
                    · refine lv_iload hx hb dL_told_112 (lv_at hl 1 rfl) ?_
                      refine lv_bipush (v := nI 6) hx hb dL_told_114 (by decide) ?_
                      refine m_icmp_ne (tgt := 123) hx hb (by omega) (by omega) dL_told_116 (by decide) (fun c_116 => ?_) (fun c_116 => ?_)
                      · refine lv_sipush (v := nI 1000) hx hb dL_told_123 (by decide) ?_
                        have hby : byF (kindF on fw its x) u j = 1000 := by
                          unfold byF
                          repeat' split
                          all_goals omega
                        refine lv_istore (lv' := [(14, .int (nI 1000)), (13, .int (nI 1)), (12, .int (nI j)), (8, .int (nI r2)), (7, .int (oI b2)), (11, .int (nI (kindF on fw its x))), (10, .int (nI its)), (9, .int (nI pl)), (0, .ref a0), (1, .ref a1), (2, .ref a4), (3, .int (nI k)), (4, .int (nI g)), (5, .int x), (6, .int (nI u))]) hx hb dL_told_126 hl (by decide) rfl (fun ls hl => ?_)
                        refine lv_iload hx hb dL_told_128 (lv_at hl 0 rfl) ?_
                        refine lv_sipush (v := nI 1000) hx hb dL_told_130 (by decide) ?_
                        refine m_icmp_ge (tgt := 180) hx hb (by omega) (by omega) dL_told_133 (by decide) (fun c_133 => ?_) (fun c_133 => ?_)
                        · refine lv_iinc (v := nI (j + 1)) (lv' := [(12, .int (nI (j + 1))), (14, .int (nI 1000)), (13, .int (nI 1)), (8, .int (nI r2)), (7, .int (oI b2)), (11, .int (nI (kindF on fw its x))), (10, .int (nI its)), (9, .int (nI pl)), (0, .ref a0), (1, .ref a1), (2, .ref a4), (3, .int (nI k)), (4, .int (nI g)), (5, .int x), (6, .int (nI u))]) hx hb dL_told_180 hl (k := 2) rfl (m_inc _) (by decide) rfl (fun ls hl => ?_)
                          refine lv_goto (tgt := 34) hx hb dL_told_183 (by decide) ?_
                          exact ihb (j + 1) r2 b2 _ ls (by omega) (by omega) hr2 (fd_sk1 hin hby) hS (lv_sub hl [0, 3, 4, 5, 6, 7, 8, 9, 10, 11, 12, 13, 14] rfl)
                        · omega
                      · refine lv_iconst (v := nI 3) hx hb dL_told_119 (by decide) ?_
                        refine lv_goto (tgt := 126) hx hb dL_told_120 (by decide) ?_
                        have hby : byF (kindF on fw its x) u j = 3 := by
                          unfold byF
                          repeat' split
                          all_goals omega
                        refine lv_istore (lv' := [(14, .int (nI 3)), (13, .int (nI 1)), (12, .int (nI j)), (8, .int (nI r2)), (7, .int (oI b2)), (11, .int (nI (kindF on fw its x))), (10, .int (nI its)), (9, .int (nI pl)), (0, .ref a0), (1, .ref a1), (2, .ref a4), (3, .int (nI k)), (4, .int (nI g)), (5, .int x), (6, .int (nI u))]) hx hb dL_told_126 hl (by decide) rfl (fun ls hl => ?_)
                        refine lv_iload hx hb dL_told_128 (lv_at hl 0 rfl) ?_
                        refine lv_sipush (v := nI 1000) hx hb dL_told_130 (by decide) ?_
                        refine m_icmp_ge (tgt := 180) hx hb (by omega) (by omega) dL_told_133 (by decide) (fun c_133 => ?_) (fun c_133 => ?_)
                        · omega
                        · refine lv_iconst (v := nI 4) hx hb dL_told_136 (by decide) ?_
                          refine lv_iload hx hb dL_told_137 (lv_at hl 7 rfl) ?_
                          refine m_imul hx hb dL_told_139 ?_
                          refine lv_iload hx hb dL_told_140 (lv_at hl 0 rfl) ?_
                          refine m_iadd hx hb dL_told_142 ?_
                          refine lv_iload hx hb dL_told_143 (lv_at hl 3 rfl) ?_
                          refine m_icmp_ge (tgt := 180) hx hb (by omega) (by omega) dL_told_145 (by decide) (fun c_145 => ?_) (fun c_145 => ?_)
                          · refine lv_iinc (v := nI (j + 1)) (lv' := [(12, .int (nI (j + 1))), (14, .int (nI 3)), (13, .int (nI 1)), (8, .int (nI r2)), (7, .int (oI b2)), (11, .int (nI (kindF on fw its x))), (10, .int (nI its)), (9, .int (nI pl)), (0, .ref a0), (1, .ref a1), (2, .ref a4), (3, .int (nI k)), (4, .int (nI g)), (5, .int x), (6, .int (nI u))]) hx hb dL_told_180 hl (k := 2) rfl (m_inc _) (by decide) rfl (fun ls hl => ?_)
                            refine lv_goto (tgt := 34) hx hb dL_told_183 (by decide) ?_
                            exact ihb (j + 1) r2 b2 _ ls (by omega) (by omega) hr2 (fd_sk2 hin hby c_145) hS (lv_sub hl [0, 3, 4, 5, 6, 7, 8, 9, 10, 11, 12, 13, 14] rfl)
                          · refine lv_aload_n hx hb dL_told_148 rfl (lv_at hl 8 rfl) ?_
                            refine lv_aload_n hx hb dL_told_149 rfl (lv_at hl 9 rfl) ?_
                            refine lv_iload_n hx hb dL_told_150 rfl (lv_at hl 11 rfl) ?_
                            refine lv_iload hx hb dL_told_151 (lv_at hl 6 rfl) ?_
                            refine lv_iload hx hb dL_told_153 (lv_at hl 2 rfl) ?_
                            refine m_cSi (rest := []) ⟨hx, hb, hml, hown, hts⟩ hE hS (fun _ h => h) (kL_fits l K A _ a0 a1 w0 w1 (hP.sub [0, 1] rfl) fm hfm hf hx1 k its j hk9 hits (by omega)) (va_cwS 5 hts gL_told_L_fits rfl rfl rfl (by decide +kernel) ⟨Nat.le_of_ble_eq_true rfl, Nat.le_of_ble_eq_true rfl⟩) rfl rfl hl.1 rfl (Nat.le_of_ble_eq_true rfl) dL_told_155 ⟨Nat.le_of_ble_eq_true rfl, Nat.le_of_ble_eq_true rfl⟩ (fun r H1 locs hp hS hk => ?_)
                            obtain ⟨rfl, rfl⟩ := hp
                            refine m_if_eq_b (tgt := 180) hx hb dL_told_158 (by decide) (fun c_158 => ?_) (fun c_158 => ?_)
                            · refine lv_iinc (v := nI (j + 1)) (lv' := [(12, .int (nI (j + 1))), (14, .int (nI 3)), (13, .int (nI 1)), (8, .int (nI r2)), (7, .int (oI b2)), (11, .int (nI (kindF on fw its x))), (10, .int (nI its)), (9, .int (nI pl)), (0, .ref a0), (1, .ref a1), (2, .ref a4), (3, .int (nI k)), (4, .int (nI g)), (5, .int x), (6, .int (nI u))]) hx hb dL_told_180 hl (k := 2) rfl (m_inc _) (by decide) rfl (fun ls hl => ?_)
                              refine lv_goto (tgt := 34) hx hb dL_told_183 (by decide) ?_
                              exact ihb (j + 1) r2 b2 _ ls (by omega) (by omega) hr2 (fd_sk3 hin c_158) hS (lv_sub hl [0, 3, 4, 5, 6, 7, 8, 9, 10, 11, 12, 13, 14] rfl)
                            · refine lv_iconst (v := nI 4) hx hb dL_told_161 (by decide) ?_
                              refine lv_iload hx hb dL_told_162 (lv_at hl 7 rfl) ?_
                              refine m_imul hx hb dL_told_164 ?_
                              refine lv_iload hx hb dL_told_165 (lv_at hl 0 rfl) ?_
                              refine m_iadd hx hb dL_told_167 ?_
                              refine lv_istore (lv' := [(8, .int (nI ((4 * pl) + 3))), (14, .int (nI 3)), (13, .int (nI 1)), (12, .int (nI j)), (7, .int (oI b2)), (11, .int (nI (kindF on fw its x))), (10, .int (nI its)), (9, .int (nI pl)), (0, .ref a0), (1, .ref a1), (2, .ref a4), (3, .int (nI k)), (4, .int (nI g)), (5, .int x), (6, .int (nI u))]) hx hb dL_told_168 hl (by decide) rfl (fun ls hl => ?_)
                              refine lv_bipush (v := nI 9) hx hb dL_told_170 (by decide) ?_
                              refine lv_iload hx hb dL_told_172 (lv_at hl 6 rfl) ?_
                              refine m_imul hx hb dL_told_174 ?_
                              refine lv_iload hx hb dL_told_175 (lv_at hl 3 rfl) ?_
                              refine m_iadd hx hb dL_told_177 ?_
                              refine lv_istore (lv' := [(7, .int (nI ((9 * its) + j))), (8, .int (nI ((4 * pl) + 3))), (14, .int (nI 3)), (13, .int (nI 1)), (12, .int (nI j)), (11, .int (nI (kindF on fw its x))), (10, .int (nI its)), (9, .int (nI pl)), (0, .ref a0), (1, .ref a1), (2, .ref a4), (3, .int (nI k)), (4, .int (nI g)), (5, .int x), (6, .int (nI u))]) hx hb dL_told_178 hl (by decide) rfl (fun ls hl => ?_)
                              refine lv_iinc (v := nI (j + 1)) (lv' := [(12, .int (nI (j + 1))), (7, .int (nI ((9 * its) + j))), (8, .int (nI ((4 * pl) + 3))), (14, .int (nI 3)), (13, .int (nI 1)), (11, .int (nI (kindF on fw its x))), (10, .int (nI its)), (9, .int (nI pl)), (0, .ref a0), (1, .ref a1), (2, .ref a4), (3, .int (nI k)), (4, .int (nI g)), (5, .int x), (6, .int (nI u))]) hx hb dL_told_180 hl (k := 4) rfl (m_inc _) (by decide) rfl (fun ls hl => ?_)
                              refine lv_goto (tgt := 34) hx hb dL_told_183 (by decide) ?_
                              exact ihb (j + 1) (4 * pl + 3) (some (9 * its + j)) _ ls (by omega) (by omega) (by omega) (fd_set hin hby (by omega) c_145 c_158) hS (lv_sub hl [0, 2, 1, 5, 6, 7, 8, 9, 10, 11, 12, 13, 14] rfl)
                    · refine lv_iload hx hb dL_told_99 (lv_at hl 1 rfl) ?_
                      refine lv_iconst (v := nI 3) hx hb dL_told_101 (by decide) ?_
                      refine m_irem hx hb (by omega) (by omega) (by omega) dL_told_102 ?_
                      refine lv_iload hx hb dL_told_103 (lv_at hl 13 rfl) ?_
                      refine m_icmp_ne (tgt := 112) hx hb (by omega) (by omega) dL_told_105 (by decide) (fun c_105 => ?_) (fun c_105 => ?_)
                      · refine lv_iload hx hb dL_told_112 (lv_at hl 1 rfl) ?_
                        refine lv_bipush (v := nI 6) hx hb dL_told_114 (by decide) ?_
                        refine m_icmp_ne (tgt := 123) hx hb (by omega) (by omega) dL_told_116 (by decide) (fun c_116 => ?_) (fun c_116 => ?_)
                        · refine lv_sipush (v := nI 1000) hx hb dL_told_123 (by decide) ?_
                          have hby : byF (kindF on fw its x) u j = 1000 := by
                            unfold byF
                            repeat' split
                            all_goals omega
                          refine lv_istore (lv' := [(14, .int (nI 1000)), (13, .int (nI 1)), (12, .int (nI j)), (8, .int (nI r2)), (7, .int (oI b2)), (11, .int (nI (kindF on fw its x))), (10, .int (nI its)), (9, .int (nI pl)), (0, .ref a0), (1, .ref a1), (2, .ref a4), (3, .int (nI k)), (4, .int (nI g)), (5, .int x), (6, .int (nI u))]) hx hb dL_told_126 hl (by decide) rfl (fun ls hl => ?_)
                          refine lv_iload hx hb dL_told_128 (lv_at hl 0 rfl) ?_
                          refine lv_sipush (v := nI 1000) hx hb dL_told_130 (by decide) ?_
                          refine m_icmp_ge (tgt := 180) hx hb (by omega) (by omega) dL_told_133 (by decide) (fun c_133 => ?_) (fun c_133 => ?_)
                          · refine lv_iinc (v := nI (j + 1)) (lv' := [(12, .int (nI (j + 1))), (14, .int (nI 1000)), (13, .int (nI 1)), (8, .int (nI r2)), (7, .int (oI b2)), (11, .int (nI (kindF on fw its x))), (10, .int (nI its)), (9, .int (nI pl)), (0, .ref a0), (1, .ref a1), (2, .ref a4), (3, .int (nI k)), (4, .int (nI g)), (5, .int x), (6, .int (nI u))]) hx hb dL_told_180 hl (k := 2) rfl (m_inc _) (by decide) rfl (fun ls hl => ?_)
                            refine lv_goto (tgt := 34) hx hb dL_told_183 (by decide) ?_
                            exact ihb (j + 1) r2 b2 _ ls (by omega) (by omega) hr2 (fd_sk1 hin hby) hS (lv_sub hl [0, 3, 4, 5, 6, 7, 8, 9, 10, 11, 12, 13, 14] rfl)
                          · omega
                        · refine lv_iconst (v := nI 3) hx hb dL_told_119 (by decide) ?_
                          refine lv_goto (tgt := 126) hx hb dL_told_120 (by decide) ?_
                          have hby : byF (kindF on fw its x) u j = 3 := by
                            unfold byF
                            repeat' split
                            all_goals omega
                          refine lv_istore (lv' := [(14, .int (nI 3)), (13, .int (nI 1)), (12, .int (nI j)), (8, .int (nI r2)), (7, .int (oI b2)), (11, .int (nI (kindF on fw its x))), (10, .int (nI its)), (9, .int (nI pl)), (0, .ref a0), (1, .ref a1), (2, .ref a4), (3, .int (nI k)), (4, .int (nI g)), (5, .int x), (6, .int (nI u))]) hx hb dL_told_126 hl (by decide) rfl (fun ls hl => ?_)
                          refine lv_iload hx hb dL_told_128 (lv_at hl 0 rfl) ?_
                          refine lv_sipush (v := nI 1000) hx hb dL_told_130 (by decide) ?_
                          refine m_icmp_ge (tgt := 180) hx hb (by omega) (by omega) dL_told_133 (by decide) (fun c_133 => ?_) (fun c_133 => ?_)
                          · omega
                          · refine lv_iconst (v := nI 4) hx hb dL_told_136 (by decide) ?_
                            refine lv_iload hx hb dL_told_137 (lv_at hl 7 rfl) ?_
                            refine m_imul hx hb dL_told_139 ?_
                            refine lv_iload hx hb dL_told_140 (lv_at hl 0 rfl) ?_
                            refine m_iadd hx hb dL_told_142 ?_
                            refine lv_iload hx hb dL_told_143 (lv_at hl 3 rfl) ?_
                            refine m_icmp_ge (tgt := 180) hx hb (by omega) (by omega) dL_told_145 (by decide) (fun c_145 => ?_) (fun c_145 => ?_)
                            · refine lv_iinc (v := nI (j + 1)) (lv' := [(12, .int (nI (j + 1))), (14, .int (nI 3)), (13, .int (nI 1)), (8, .int (nI r2)), (7, .int (oI b2)), (11, .int (nI (kindF on fw its x))), (10, .int (nI its)), (9, .int (nI pl)), (0, .ref a0), (1, .ref a1), (2, .ref a4), (3, .int (nI k)), (4, .int (nI g)), (5, .int x), (6, .int (nI u))]) hx hb dL_told_180 hl (k := 2) rfl (m_inc _) (by decide) rfl (fun ls hl => ?_)
                              refine lv_goto (tgt := 34) hx hb dL_told_183 (by decide) ?_
                              exact ihb (j + 1) r2 b2 _ ls (by omega) (by omega) hr2 (fd_sk2 hin hby c_145) hS (lv_sub hl [0, 3, 4, 5, 6, 7, 8, 9, 10, 11, 12, 13, 14] rfl)
                            · refine lv_aload_n hx hb dL_told_148 rfl (lv_at hl 8 rfl) ?_
                              refine lv_aload_n hx hb dL_told_149 rfl (lv_at hl 9 rfl) ?_
                              refine lv_iload_n hx hb dL_told_150 rfl (lv_at hl 11 rfl) ?_
                              refine lv_iload hx hb dL_told_151 (lv_at hl 6 rfl) ?_
                              refine lv_iload hx hb dL_told_153 (lv_at hl 2 rfl) ?_
                              refine m_cSi (rest := []) ⟨hx, hb, hml, hown, hts⟩ hE hS (fun _ h => h) (kL_fits l K A _ a0 a1 w0 w1 (hP.sub [0, 1] rfl) fm hfm hf hx1 k its j hk9 hits (by omega)) (va_cwS 5 hts gL_told_L_fits rfl rfl rfl (by decide +kernel) ⟨Nat.le_of_ble_eq_true rfl, Nat.le_of_ble_eq_true rfl⟩) rfl rfl hl.1 rfl (Nat.le_of_ble_eq_true rfl) dL_told_155 ⟨Nat.le_of_ble_eq_true rfl, Nat.le_of_ble_eq_true rfl⟩ (fun r H1 locs hp hS hk => ?_)
                              obtain ⟨rfl, rfl⟩ := hp
                              refine m_if_eq_b (tgt := 180) hx hb dL_told_158 (by decide) (fun c_158 => ?_) (fun c_158 => ?_)
                              · refine lv_iinc (v := nI (j + 1)) (lv' := [(12, .int (nI (j + 1))), (14, .int (nI 3)), (13, .int (nI 1)), (8, .int (nI r2)), (7, .int (oI b2)), (11, .int (nI (kindF on fw its x))), (10, .int (nI its)), (9, .int (nI pl)), (0, .ref a0), (1, .ref a1), (2, .ref a4), (3, .int (nI k)), (4, .int (nI g)), (5, .int x), (6, .int (nI u))]) hx hb dL_told_180 hl (k := 2) rfl (m_inc _) (by decide) rfl (fun ls hl => ?_)
                                refine lv_goto (tgt := 34) hx hb dL_told_183 (by decide) ?_
                                exact ihb (j + 1) r2 b2 _ ls (by omega) (by omega) hr2 (fd_sk3 hin c_158) hS (lv_sub hl [0, 3, 4, 5, 6, 7, 8, 9, 10, 11, 12, 13, 14] rfl)
                              · refine lv_iconst (v := nI 4) hx hb dL_told_161 (by decide) ?_
                                refine lv_iload hx hb dL_told_162 (lv_at hl 7 rfl) ?_
                                refine m_imul hx hb dL_told_164 ?_
                                refine lv_iload hx hb dL_told_165 (lv_at hl 0 rfl) ?_
                                refine m_iadd hx hb dL_told_167 ?_
                                refine lv_istore (lv' := [(8, .int (nI ((4 * pl) + 3))), (14, .int (nI 3)), (13, .int (nI 1)), (12, .int (nI j)), (7, .int (oI b2)), (11, .int (nI (kindF on fw its x))), (10, .int (nI its)), (9, .int (nI pl)), (0, .ref a0), (1, .ref a1), (2, .ref a4), (3, .int (nI k)), (4, .int (nI g)), (5, .int x), (6, .int (nI u))]) hx hb dL_told_168 hl (by decide) rfl (fun ls hl => ?_)
                                refine lv_bipush (v := nI 9) hx hb dL_told_170 (by decide) ?_
                                refine lv_iload hx hb dL_told_172 (lv_at hl 6 rfl) ?_
                                refine m_imul hx hb dL_told_174 ?_
                                refine lv_iload hx hb dL_told_175 (lv_at hl 3 rfl) ?_
                                refine m_iadd hx hb dL_told_177 ?_
                                refine lv_istore (lv' := [(7, .int (nI ((9 * its) + j))), (8, .int (nI ((4 * pl) + 3))), (14, .int (nI 3)), (13, .int (nI 1)), (12, .int (nI j)), (11, .int (nI (kindF on fw its x))), (10, .int (nI its)), (9, .int (nI pl)), (0, .ref a0), (1, .ref a1), (2, .ref a4), (3, .int (nI k)), (4, .int (nI g)), (5, .int x), (6, .int (nI u))]) hx hb dL_told_178 hl (by decide) rfl (fun ls hl => ?_)
                                refine lv_iinc (v := nI (j + 1)) (lv' := [(12, .int (nI (j + 1))), (7, .int (nI ((9 * its) + j))), (8, .int (nI ((4 * pl) + 3))), (14, .int (nI 3)), (13, .int (nI 1)), (11, .int (nI (kindF on fw its x))), (10, .int (nI its)), (9, .int (nI pl)), (0, .ref a0), (1, .ref a1), (2, .ref a4), (3, .int (nI k)), (4, .int (nI g)), (5, .int x), (6, .int (nI u))]) hx hb dL_told_180 hl (k := 4) rfl (m_inc _) (by decide) rfl (fun ls hl => ?_)
                                refine lv_goto (tgt := 34) hx hb dL_told_183 (by decide) ?_
                                exact ihb (j + 1) (4 * pl + 3) (some (9 * its + j)) _ ls (by omega) (by omega) (by omega) (fd_set hin hby (by omega) c_145 c_158) hS (lv_sub hl [0, 2, 1, 5, 6, 7, 8, 9, 10, 11, 12, 13, 14] rfl)
                      · refine lv_iconst (v := nI 2) hx hb dL_told_108 (by decide) ?_
                        refine lv_goto (tgt := 126) hx hb dL_told_109 (by decide) ?_
                        have hby : byF (kindF on fw its x) u j = 2 := by
                          unfold byF
                          repeat' split
                          all_goals omega
                        refine lv_istore (lv' := [(14, .int (nI 2)), (13, .int (nI 1)), (12, .int (nI j)), (8, .int (nI r2)), (7, .int (oI b2)), (11, .int (nI (kindF on fw its x))), (10, .int (nI its)), (9, .int (nI pl)), (0, .ref a0), (1, .ref a1), (2, .ref a4), (3, .int (nI k)), (4, .int (nI g)), (5, .int x), (6, .int (nI u))]) hx hb dL_told_126 hl (by decide) rfl (fun ls hl => ?_)
                        refine lv_iload hx hb dL_told_128 (lv_at hl 0 rfl) ?_
                        refine lv_sipush (v := nI 1000) hx hb dL_told_130 (by decide) ?_
                        refine m_icmp_ge (tgt := 180) hx hb (by omega) (by omega) dL_told_133 (by decide) (fun c_133 => ?_) (fun c_133 => ?_)
                        · omega
                        · refine lv_iconst (v := nI 4) hx hb dL_told_136 (by decide) ?_
                          refine lv_iload hx hb dL_told_137 (lv_at hl 7 rfl) ?_
                          refine m_imul hx hb dL_told_139 ?_
                          refine lv_iload hx hb dL_told_140 (lv_at hl 0 rfl) ?_
                          refine m_iadd hx hb dL_told_142 ?_
                          refine lv_iload hx hb dL_told_143 (lv_at hl 3 rfl) ?_
                          refine m_icmp_ge (tgt := 180) hx hb (by omega) (by omega) dL_told_145 (by decide) (fun c_145 => ?_) (fun c_145 => ?_)
                          · refine lv_iinc (v := nI (j + 1)) (lv' := [(12, .int (nI (j + 1))), (14, .int (nI 2)), (13, .int (nI 1)), (8, .int (nI r2)), (7, .int (oI b2)), (11, .int (nI (kindF on fw its x))), (10, .int (nI its)), (9, .int (nI pl)), (0, .ref a0), (1, .ref a1), (2, .ref a4), (3, .int (nI k)), (4, .int (nI g)), (5, .int x), (6, .int (nI u))]) hx hb dL_told_180 hl (k := 2) rfl (m_inc _) (by decide) rfl (fun ls hl => ?_)
                            refine lv_goto (tgt := 34) hx hb dL_told_183 (by decide) ?_
                            exact ihb (j + 1) r2 b2 _ ls (by omega) (by omega) hr2 (fd_sk2 hin hby c_145) hS (lv_sub hl [0, 3, 4, 5, 6, 7, 8, 9, 10, 11, 12, 13, 14] rfl)
                          · refine lv_aload_n hx hb dL_told_148 rfl (lv_at hl 8 rfl) ?_
                            refine lv_aload_n hx hb dL_told_149 rfl (lv_at hl 9 rfl) ?_
                            refine lv_iload_n hx hb dL_told_150 rfl (lv_at hl 11 rfl) ?_
                            refine lv_iload hx hb dL_told_151 (lv_at hl 6 rfl) ?_
                            refine lv_iload hx hb dL_told_153 (lv_at hl 2 rfl) ?_
                            refine m_cSi (rest := []) ⟨hx, hb, hml, hown, hts⟩ hE hS (fun _ h => h) (kL_fits l K A _ a0 a1 w0 w1 (hP.sub [0, 1] rfl) fm hfm hf hx1 k its j hk9 hits (by omega)) (va_cwS 5 hts gL_told_L_fits rfl rfl rfl (by decide +kernel) ⟨Nat.le_of_ble_eq_true rfl, Nat.le_of_ble_eq_true rfl⟩) rfl rfl hl.1 rfl (Nat.le_of_ble_eq_true rfl) dL_told_155 ⟨Nat.le_of_ble_eq_true rfl, Nat.le_of_ble_eq_true rfl⟩ (fun r H1 locs hp hS hk => ?_)
                            obtain ⟨rfl, rfl⟩ := hp
                            refine m_if_eq_b (tgt := 180) hx hb dL_told_158 (by decide) (fun c_158 => ?_) (fun c_158 => ?_)
                            · refine lv_iinc (v := nI (j + 1)) (lv' := [(12, .int (nI (j + 1))), (14, .int (nI 2)), (13, .int (nI 1)), (8, .int (nI r2)), (7, .int (oI b2)), (11, .int (nI (kindF on fw its x))), (10, .int (nI its)), (9, .int (nI pl)), (0, .ref a0), (1, .ref a1), (2, .ref a4), (3, .int (nI k)), (4, .int (nI g)), (5, .int x), (6, .int (nI u))]) hx hb dL_told_180 hl (k := 2) rfl (m_inc _) (by decide) rfl (fun ls hl => ?_)
                              refine lv_goto (tgt := 34) hx hb dL_told_183 (by decide) ?_
                              exact ihb (j + 1) r2 b2 _ ls (by omega) (by omega) hr2 (fd_sk3 hin c_158) hS (lv_sub hl [0, 3, 4, 5, 6, 7, 8, 9, 10, 11, 12, 13, 14] rfl)
                            · refine lv_iconst (v := nI 4) hx hb dL_told_161 (by decide) ?_
                              refine lv_iload hx hb dL_told_162 (lv_at hl 7 rfl) ?_
                              refine m_imul hx hb dL_told_164 ?_
                              refine lv_iload hx hb dL_told_165 (lv_at hl 0 rfl) ?_
                              refine m_iadd hx hb dL_told_167 ?_
                              refine lv_istore (lv' := [(8, .int (nI ((4 * pl) + 2))), (14, .int (nI 2)), (13, .int (nI 1)), (12, .int (nI j)), (7, .int (oI b2)), (11, .int (nI (kindF on fw its x))), (10, .int (nI its)), (9, .int (nI pl)), (0, .ref a0), (1, .ref a1), (2, .ref a4), (3, .int (nI k)), (4, .int (nI g)), (5, .int x), (6, .int (nI u))]) hx hb dL_told_168 hl (by decide) rfl (fun ls hl => ?_)
                              refine lv_bipush (v := nI 9) hx hb dL_told_170 (by decide) ?_
                              refine lv_iload hx hb dL_told_172 (lv_at hl 6 rfl) ?_
                              refine m_imul hx hb dL_told_174 ?_
                              refine lv_iload hx hb dL_told_175 (lv_at hl 3 rfl) ?_
                              refine m_iadd hx hb dL_told_177 ?_
                              refine lv_istore (lv' := [(7, .int (nI ((9 * its) + j))), (8, .int (nI ((4 * pl) + 2))), (14, .int (nI 2)), (13, .int (nI 1)), (12, .int (nI j)), (11, .int (nI (kindF on fw its x))), (10, .int (nI its)), (9, .int (nI pl)), (0, .ref a0), (1, .ref a1), (2, .ref a4), (3, .int (nI k)), (4, .int (nI g)), (5, .int x), (6, .int (nI u))]) hx hb dL_told_178 hl (by decide) rfl (fun ls hl => ?_)
                              refine lv_iinc (v := nI (j + 1)) (lv' := [(12, .int (nI (j + 1))), (7, .int (nI ((9 * its) + j))), (8, .int (nI ((4 * pl) + 2))), (14, .int (nI 2)), (13, .int (nI 1)), (11, .int (nI (kindF on fw its x))), (10, .int (nI its)), (9, .int (nI pl)), (0, .ref a0), (1, .ref a1), (2, .ref a4), (3, .int (nI k)), (4, .int (nI g)), (5, .int x), (6, .int (nI u))]) hx hb dL_told_180 hl (k := 4) rfl (m_inc _) (by decide) rfl (fun ls hl => ?_)
                              refine lv_goto (tgt := 34) hx hb dL_told_183 (by decide) ?_
                              exact ihb (j + 1) (4 * pl + 2) (some (9 * its + j)) _ ls (by omega) (by omega) (by omega) (fd_set hin hby (by omega) c_145 c_158) hS (lv_sub hl [0, 2, 1, 5, 6, 7, 8, 9, 10, 11, 12, 13, 14] rfl)
                  · refine lv_iconst (v := nI 1) hx hb dL_told_87 (by decide) ?_
                    refine lv_goto (tgt := 126) hx hb dL_told_88 (by decide) ?_
                    have hby : byF (kindF on fw its x) u j = 1 := by
                      unfold byF
                      repeat' split
                      all_goals omega
                    refine lv_istore (lv' := [(14, .int (nI 1)), (13, .int (nI 1)), (12, .int (nI j)), (8, .int (nI r2)), (7, .int (oI b2)), (11, .int (nI (kindF on fw its x))), (10, .int (nI its)), (9, .int (nI pl)), (0, .ref a0), (1, .ref a1), (2, .ref a4), (3, .int (nI k)), (4, .int (nI g)), (5, .int x), (6, .int (nI u))]) hx hb dL_told_126 hl (by decide) rfl (fun ls hl => ?_)
                    refine lv_iload hx hb dL_told_128 (lv_at hl 0 rfl) ?_
                    refine lv_sipush (v := nI 1000) hx hb dL_told_130 (by decide) ?_
                    refine m_icmp_ge (tgt := 180) hx hb (by omega) (by omega) dL_told_133 (by decide) (fun c_133 => ?_) (fun c_133 => ?_)
                    · omega
                    · refine lv_iconst (v := nI 4) hx hb dL_told_136 (by decide) ?_
                      refine lv_iload hx hb dL_told_137 (lv_at hl 7 rfl) ?_
                      refine m_imul hx hb dL_told_139 ?_
                      refine lv_iload hx hb dL_told_140 (lv_at hl 0 rfl) ?_
                      refine m_iadd hx hb dL_told_142 ?_
                      refine lv_iload hx hb dL_told_143 (lv_at hl 3 rfl) ?_
                      refine m_icmp_ge (tgt := 180) hx hb (by omega) (by omega) dL_told_145 (by decide) (fun c_145 => ?_) (fun c_145 => ?_)
                      · refine lv_iinc (v := nI (j + 1)) (lv' := [(12, .int (nI (j + 1))), (14, .int (nI 1)), (13, .int (nI 1)), (8, .int (nI r2)), (7, .int (oI b2)), (11, .int (nI (kindF on fw its x))), (10, .int (nI its)), (9, .int (nI pl)), (0, .ref a0), (1, .ref a1), (2, .ref a4), (3, .int (nI k)), (4, .int (nI g)), (5, .int x), (6, .int (nI u))]) hx hb dL_told_180 hl (k := 2) rfl (m_inc _) (by decide) rfl (fun ls hl => ?_)
                        refine lv_goto (tgt := 34) hx hb dL_told_183 (by decide) ?_
                        exact ihb (j + 1) r2 b2 _ ls (by omega) (by omega) hr2 (fd_sk2 hin hby c_145) hS (lv_sub hl [0, 3, 4, 5, 6, 7, 8, 9, 10, 11, 12, 13, 14] rfl)
                      · refine lv_aload_n hx hb dL_told_148 rfl (lv_at hl 8 rfl) ?_
                        refine lv_aload_n hx hb dL_told_149 rfl (lv_at hl 9 rfl) ?_
                        refine lv_iload_n hx hb dL_told_150 rfl (lv_at hl 11 rfl) ?_
                        refine lv_iload hx hb dL_told_151 (lv_at hl 6 rfl) ?_
                        refine lv_iload hx hb dL_told_153 (lv_at hl 2 rfl) ?_
                        refine m_cSi (rest := []) ⟨hx, hb, hml, hown, hts⟩ hE hS (fun _ h => h) (kL_fits l K A _ a0 a1 w0 w1 (hP.sub [0, 1] rfl) fm hfm hf hx1 k its j hk9 hits (by omega)) (va_cwS 5 hts gL_told_L_fits rfl rfl rfl (by decide +kernel) ⟨Nat.le_of_ble_eq_true rfl, Nat.le_of_ble_eq_true rfl⟩) rfl rfl hl.1 rfl (Nat.le_of_ble_eq_true rfl) dL_told_155 ⟨Nat.le_of_ble_eq_true rfl, Nat.le_of_ble_eq_true rfl⟩ (fun r H1 locs hp hS hk => ?_)
                        obtain ⟨rfl, rfl⟩ := hp
                        refine m_if_eq_b (tgt := 180) hx hb dL_told_158 (by decide) (fun c_158 => ?_) (fun c_158 => ?_)
                        · refine lv_iinc (v := nI (j + 1)) (lv' := [(12, .int (nI (j + 1))), (14, .int (nI 1)), (13, .int (nI 1)), (8, .int (nI r2)), (7, .int (oI b2)), (11, .int (nI (kindF on fw its x))), (10, .int (nI its)), (9, .int (nI pl)), (0, .ref a0), (1, .ref a1), (2, .ref a4), (3, .int (nI k)), (4, .int (nI g)), (5, .int x), (6, .int (nI u))]) hx hb dL_told_180 hl (k := 2) rfl (m_inc _) (by decide) rfl (fun ls hl => ?_)
                          refine lv_goto (tgt := 34) hx hb dL_told_183 (by decide) ?_
                          exact ihb (j + 1) r2 b2 _ ls (by omega) (by omega) hr2 (fd_sk3 hin c_158) hS (lv_sub hl [0, 3, 4, 5, 6, 7, 8, 9, 10, 11, 12, 13, 14] rfl)
                        · refine lv_iconst (v := nI 4) hx hb dL_told_161 (by decide) ?_
                          refine lv_iload hx hb dL_told_162 (lv_at hl 7 rfl) ?_
                          refine m_imul hx hb dL_told_164 ?_
                          refine lv_iload hx hb dL_told_165 (lv_at hl 0 rfl) ?_
                          refine m_iadd hx hb dL_told_167 ?_
                          refine lv_istore (lv' := [(8, .int (nI ((4 * pl) + 1))), (14, .int (nI 1)), (13, .int (nI 1)), (12, .int (nI j)), (7, .int (oI b2)), (11, .int (nI (kindF on fw its x))), (10, .int (nI its)), (9, .int (nI pl)), (0, .ref a0), (1, .ref a1), (2, .ref a4), (3, .int (nI k)), (4, .int (nI g)), (5, .int x), (6, .int (nI u))]) hx hb dL_told_168 hl (by decide) rfl (fun ls hl => ?_)
                          refine lv_bipush (v := nI 9) hx hb dL_told_170 (by decide) ?_
                          refine lv_iload hx hb dL_told_172 (lv_at hl 6 rfl) ?_
                          refine m_imul hx hb dL_told_174 ?_
                          refine lv_iload hx hb dL_told_175 (lv_at hl 3 rfl) ?_
                          refine m_iadd hx hb dL_told_177 ?_
                          refine lv_istore (lv' := [(7, .int (nI ((9 * its) + j))), (8, .int (nI ((4 * pl) + 1))), (14, .int (nI 1)), (13, .int (nI 1)), (12, .int (nI j)), (11, .int (nI (kindF on fw its x))), (10, .int (nI its)), (9, .int (nI pl)), (0, .ref a0), (1, .ref a1), (2, .ref a4), (3, .int (nI k)), (4, .int (nI g)), (5, .int x), (6, .int (nI u))]) hx hb dL_told_178 hl (by decide) rfl (fun ls hl => ?_)
                          refine lv_iinc (v := nI (j + 1)) (lv' := [(12, .int (nI (j + 1))), (7, .int (nI ((9 * its) + j))), (8, .int (nI ((4 * pl) + 1))), (14, .int (nI 1)), (13, .int (nI 1)), (11, .int (nI (kindF on fw its x))), (10, .int (nI its)), (9, .int (nI pl)), (0, .ref a0), (1, .ref a1), (2, .ref a4), (3, .int (nI k)), (4, .int (nI g)), (5, .int x), (6, .int (nI u))]) hx hb dL_told_180 hl (k := 4) rfl (m_inc _) (by decide) rfl (fun ls hl => ?_)
                          refine lv_goto (tgt := 34) hx hb dL_told_183 (by decide) ?_
                          exact ihb (j + 1) (4 * pl + 1) (some (9 * its + j)) _ ls (by omega) (by omega) (by omega) (fd_set hin hby (by omega) c_145 c_158) hS (lv_sub hl [0, 2, 1, 5, 6, 7, 8, 9, 10, 11, 12, 13, 14] rfl)
              · refine lv_iconst (v := nI 0) hx hb dL_told_71 (by decide) ?_
                refine lv_goto (tgt := 126) hx hb dL_told_72 (by decide) ?_
                have hby : byF (kindF on fw its x) u j = 0 := by
                  unfold byF
                  repeat' split
                  all_goals omega
                refine lv_istore (lv' := [(14, .int (nI 0)), (13, .int (nI 1)), (12, .int (nI j)), (8, .int (nI r2)), (7, .int (oI b2)), (11, .int (nI (kindF on fw its x))), (10, .int (nI its)), (9, .int (nI pl)), (0, .ref a0), (1, .ref a1), (2, .ref a4), (3, .int (nI k)), (4, .int (nI g)), (5, .int x), (6, .int (nI u))]) hx hb dL_told_126 hl (by decide) rfl (fun ls hl => ?_)
                refine lv_iload hx hb dL_told_128 (lv_at hl 0 rfl) ?_
                refine lv_sipush (v := nI 1000) hx hb dL_told_130 (by decide) ?_
                refine m_icmp_ge (tgt := 180) hx hb (by omega) (by omega) dL_told_133 (by decide) (fun c_133 => ?_) (fun c_133 => ?_)
                · omega
                · refine lv_iconst (v := nI 4) hx hb dL_told_136 (by decide) ?_
                  refine lv_iload hx hb dL_told_137 (lv_at hl 7 rfl) ?_
                  refine m_imul hx hb dL_told_139 ?_
                  refine lv_iload hx hb dL_told_140 (lv_at hl 0 rfl) ?_
                  refine m_iadd hx hb dL_told_142 ?_
                  refine lv_iload hx hb dL_told_143 (lv_at hl 3 rfl) ?_
                  refine m_icmp_ge (tgt := 180) hx hb (by omega) (by omega) dL_told_145 (by decide) (fun c_145 => ?_) (fun c_145 => ?_)
                  · refine lv_iinc (v := nI (j + 1)) (lv' := [(12, .int (nI (j + 1))), (14, .int (nI 0)), (13, .int (nI 1)), (8, .int (nI r2)), (7, .int (oI b2)), (11, .int (nI (kindF on fw its x))), (10, .int (nI its)), (9, .int (nI pl)), (0, .ref a0), (1, .ref a1), (2, .ref a4), (3, .int (nI k)), (4, .int (nI g)), (5, .int x), (6, .int (nI u))]) hx hb dL_told_180 hl (k := 2) rfl (m_inc _) (by decide) rfl (fun ls hl => ?_)
                    refine lv_goto (tgt := 34) hx hb dL_told_183 (by decide) ?_
                    exact ihb (j + 1) r2 b2 _ ls (by omega) (by omega) hr2 (fd_sk2 hin hby c_145) hS (lv_sub hl [0, 3, 4, 5, 6, 7, 8, 9, 10, 11, 12, 13, 14] rfl)
                  · refine lv_aload_n hx hb dL_told_148 rfl (lv_at hl 8 rfl) ?_
                    refine lv_aload_n hx hb dL_told_149 rfl (lv_at hl 9 rfl) ?_
                    refine lv_iload_n hx hb dL_told_150 rfl (lv_at hl 11 rfl) ?_
                    refine lv_iload hx hb dL_told_151 (lv_at hl 6 rfl) ?_
                    refine lv_iload hx hb dL_told_153 (lv_at hl 2 rfl) ?_
                    refine m_cSi (rest := []) ⟨hx, hb, hml, hown, hts⟩ hE hS (fun _ h => h) (kL_fits l K A _ a0 a1 w0 w1 (hP.sub [0, 1] rfl) fm hfm hf hx1 k its j hk9 hits (by omega)) (va_cwS 5 hts gL_told_L_fits rfl rfl rfl (by decide +kernel) ⟨Nat.le_of_ble_eq_true rfl, Nat.le_of_ble_eq_true rfl⟩) rfl rfl hl.1 rfl (Nat.le_of_ble_eq_true rfl) dL_told_155 ⟨Nat.le_of_ble_eq_true rfl, Nat.le_of_ble_eq_true rfl⟩ (fun r H1 locs hp hS hk => ?_)
                    obtain ⟨rfl, rfl⟩ := hp
                    refine m_if_eq_b (tgt := 180) hx hb dL_told_158 (by decide) (fun c_158 => ?_) (fun c_158 => ?_)
                    · refine lv_iinc (v := nI (j + 1)) (lv' := [(12, .int (nI (j + 1))), (14, .int (nI 0)), (13, .int (nI 1)), (8, .int (nI r2)), (7, .int (oI b2)), (11, .int (nI (kindF on fw its x))), (10, .int (nI its)), (9, .int (nI pl)), (0, .ref a0), (1, .ref a1), (2, .ref a4), (3, .int (nI k)), (4, .int (nI g)), (5, .int x), (6, .int (nI u))]) hx hb dL_told_180 hl (k := 2) rfl (m_inc _) (by decide) rfl (fun ls hl => ?_)
                      refine lv_goto (tgt := 34) hx hb dL_told_183 (by decide) ?_
                      exact ihb (j + 1) r2 b2 _ ls (by omega) (by omega) hr2 (fd_sk3 hin c_158) hS (lv_sub hl [0, 3, 4, 5, 6, 7, 8, 9, 10, 11, 12, 13, 14] rfl)
                    · refine lv_iconst (v := nI 4) hx hb dL_told_161 (by decide) ?_
                      refine lv_iload hx hb dL_told_162 (lv_at hl 7 rfl) ?_
                      refine m_imul hx hb dL_told_164 ?_
                      refine lv_iload hx hb dL_told_165 (lv_at hl 0 rfl) ?_
                      refine m_iadd hx hb dL_told_167 ?_
                      refine lv_istore (lv' := [(8, .int (nI ((4 * pl) + 0))), (14, .int (nI 0)), (13, .int (nI 1)), (12, .int (nI j)), (7, .int (oI b2)), (11, .int (nI (kindF on fw its x))), (10, .int (nI its)), (9, .int (nI pl)), (0, .ref a0), (1, .ref a1), (2, .ref a4), (3, .int (nI k)), (4, .int (nI g)), (5, .int x), (6, .int (nI u))]) hx hb dL_told_168 hl (by decide) rfl (fun ls hl => ?_)
                      refine lv_bipush (v := nI 9) hx hb dL_told_170 (by decide) ?_
                      refine lv_iload hx hb dL_told_172 (lv_at hl 6 rfl) ?_
                      refine m_imul hx hb dL_told_174 ?_
                      refine lv_iload hx hb dL_told_175 (lv_at hl 3 rfl) ?_
                      refine m_iadd hx hb dL_told_177 ?_
                      refine lv_istore (lv' := [(7, .int (nI ((9 * its) + j))), (8, .int (nI ((4 * pl) + 0))), (14, .int (nI 0)), (13, .int (nI 1)), (12, .int (nI j)), (11, .int (nI (kindF on fw its x))), (10, .int (nI its)), (9, .int (nI pl)), (0, .ref a0), (1, .ref a1), (2, .ref a4), (3, .int (nI k)), (4, .int (nI g)), (5, .int x), (6, .int (nI u))]) hx hb dL_told_178 hl (by decide) rfl (fun ls hl => ?_)
                      refine lv_iinc (v := nI (j + 1)) (lv' := [(12, .int (nI (j + 1))), (7, .int (nI ((9 * its) + j))), (8, .int (nI ((4 * pl) + 0))), (14, .int (nI 0)), (13, .int (nI 1)), (11, .int (nI (kindF on fw its x))), (10, .int (nI its)), (9, .int (nI pl)), (0, .ref a0), (1, .ref a1), (2, .ref a4), (3, .int (nI k)), (4, .int (nI g)), (5, .int x), (6, .int (nI u))]) hx hb dL_told_180 hl (k := 4) rfl (m_inc _) (by decide) rfl (fun ls hl => ?_)
                      refine lv_goto (tgt := 34) hx hb dL_told_183 (by decide) ?_
                      exact ihb (j + 1) (4 * pl + 0) (some (9 * its + j)) _ ls (by omega) (by omega) (by omega) (fd_set hin hby (by omega) c_145 c_158) hS (lv_sub hl [0, 2, 1, 5, 6, 7, 8, 9, 10, 11, 12, 13, 14] rfl)

theorem rd_a {w : Nat → Int32} {x y : Nat → Int32} {k a b p i j : Nat} (h : ∀ t, t < k → (t / 5 ≤ a ∧ t % 5 ≤ b) → w t = nI (lvD x y (t / 5) (t % 5))) (hp : p = 5 * i + j) (hj : j ≤ b) (hi : i ≤ a) (hk : p < k ∧ b < 5) : w p = nI (lvD x y i j) := by
  have h1 : p / 5 = i := by omega
  have h2 : p % 5 = j := by omega
  have := h p hk.1 ⟨by omega, by omega⟩
  rw [h1, h2] at this
  exact this

set_option maxHeartbeats 4000000 in
set_option maxRecDepth 100000 in
theorem kL_distance (l : Launch) (K : m_K) (A : Nat → Prop) (H0 : Heap) (hAe : ∀ q, A q ↔ H0.size ≤ q) (R Q9 : List Nat) (hR : gR R) (hQ : gR Q9) : Met l yL_distance wsL_distance ({ frames := 2, cells := 1, slots := 25, locals := 45 } : Room) (m_Pc K A H0 [.int (nI (enR R)), .int (nI (enR Q9))]) (va_Qi (fun r H1 => r = nI (dsR R Q9) ∧ m_same H0 H1) m_B A) 1 25 A := by
  refine m_ofW (by decide) rfl (Nat.le_of_ble_eq_true rfl) ?_
  intro p e s m args below meth c ls hx hb hr hml hown hts hlk hnm hE hsz hS hl
  have hl : lv_has ls 7 [(0, .int (nI (enR R))), (1, .int (nI (enR Q9)))] := hl
  have hR4 := hR.2
  have hQ4 := hQ.2
  have hR0 := hR.lt0
  have hQ0 := hQ.lt0
  have ai := hts (.arrayClass .int) (by decide +kernel)
  refine lv_bipush (v := nI 25) hx hb dL_distance_0 (by decide) ?_
  have hP : va_P K.1 vwCl ([] : va_W) H0 := fun k q hq => by simp at hq
  have hD : va_D A ([] : va_W) := ⟨fun i j p q hi => by simp at hi, fun k q hq => by simp at hq⟩
  refine m_newi hx hb hE.k hP hD hS (fun q hq => (hAe q).mpr (hsz ▸ hq)) ai (by decide) (Nat.le_of_ble_eq_true rfl) (Nat.le_of_ble_eq_true rfl) dL_distance_2 (fun d9 H h9 hs9 hP hD hS => ?_)
  have hP : va_P K.1 vwCl ([(d9, .inl (K.2.1 0, 25, .inl (fun _ => 0)))]) H := hP
  have hD : va_D A ([(d9, .inl (K.2.1 0, 25, .inl (fun _ => 0)))]) := hD
  refine lv_astore_n (lv' := [(2, .ref d9), (0, .int (nI (enR R))), (1, .int (nI (enR Q9)))]) hx hb dL_distance_4 rfl hl (by decide) rfl (fun ls hl => ?_)
  refine lv_iconst (v := nI 0) hx hb dL_distance_5 (by decide) ?_
  refine lv_istore_n (lv' := [(3, .int (nI 0)), (2, .ref d9), (0, .int (nI (enR R))), (1, .int (nI (enR Q9)))]) hx hb dL_distance_6 rfl hl (by decide) rfl (fun ls hl => ?_)
  refine (?_ : ∀ (n9 : Nat) (k : Nat) (w : Nat → Int32) (H : Heap) (locs : List Loc) (ls : Array Slot), k ≤ 25 → 25 < k + n9 → (∀ t, t < k → (t / 5 ≤ R.length ∧ t % 5 ≤ Q9.length) → w t = nI (lvD (fun i => nI (sgR R i)) (fun j => nI (sgR Q9 j)) (t / 5) (t % 5))) → va_P K.1 vwCl ([(d9, .inl (K.2.1 0, 25, .inl w))]) H → va_D A ([(d9, .inl (K.2.1 0, 25, .inl w))]) → va_S A s.heap H locs → lv_has ls 7 [(3, .int (nI k)), (2, .ref d9), (0, .int (nI (enR R))), (1, .int (nI (enR Q9)))] → W p l e _ s m args below meth c H locs (0 + 1) (0 + 25) _ (F0 m 7 ls [])) (25 + 1) 0 (fun _ => 0) _ _ ls (by omega) (by omega) (fun t ht => absurd ht (Nat.not_lt_zero t)) hP hD hS (lv_sub hl [0, 1, 2, 3] rfl)
  clear hS hl hP hD
  intro n9
  induction n9 with
  | zero => intro k w H locs ls hi9 hn9; exact absurd hn9 (by omega)
  | succ n9 ih =>
    intro k w H locs ls hi9 hn9 hw hP hD hS hl
    refine lv_iload_n hx hb dL_distance_7 rfl (lv_at hl 0 rfl) ?_
    refine lv_bipush (v := nI 25) hx hb dL_distance_8 (by decide) ?_
    refine m_icmp_ge (tgt := 171) hx hb (by omega) (by omega) dL_distance_10 (by decide) (fun c_10 => ?_) (fun c_10 => ?_)
    · refine lv_aload_n hx hb dL_distance_171 rfl (lv_at hl 1 rfl) ?_
      refine lv_iconst (v := nI 5) hx hb dL_distance_172 (by decide) ?_
      refine lv_iload_n hx hb dL_distance_173 rfl (lv_at hl 2 rfl) ?_
      refine m_cSi (rest := [.int (nI 5), .ref d9]) ⟨hx, hb, hml, hown, hts⟩ hE hS (fun _ h => h) (kL_size l K A _ R hR) (va_cwS 1 hts gL_distance_L_size rfl rfl rfl (by decide +kernel) ⟨Nat.le_of_ble_eq_true rfl, Nat.le_of_ble_eq_true rfl⟩) rfl rfl hl.1 rfl (Nat.le_of_ble_eq_true rfl) dL_distance_174 ⟨Nat.le_of_ble_eq_true rfl, Nat.le_of_ble_eq_true rfl⟩ (fun r H1 locs hp hS hk => ?_)
      obtain ⟨rfl, rfl⟩ := hp
      refine m_imul hx hb dL_distance_177 ?_
      refine lv_iload_n hx hb dL_distance_178 rfl (lv_at hl 3 rfl) ?_
      refine m_cSi (rest := [.int (nI (5 * R.length)), .ref d9]) ⟨hx, hb, hml, hown, hts⟩ hE hS (fun _ h => h) (kL_size l K A _ Q9 hQ) (va_cwS 1 hts gL_distance_L_size rfl rfl rfl (by decide +kernel) ⟨Nat.le_of_ble_eq_true rfl, Nat.le_of_ble_eq_true rfl⟩) rfl rfl hl.1 rfl (Nat.le_of_ble_eq_true rfl) dL_distance_179 ⟨Nat.le_of_ble_eq_true rfl, Nat.le_of_ble_eq_true rfl⟩ (fun r H1 locs hp hS hk => ?_)
      obtain ⟨rfl, rfl⟩ := hp
      refine m_iadd hx hb dL_distance_182 ?_
      refine m_iald hx hb hE.k hP 0 rfl (by omega) (by omega) (rd_a hw (i := R.length) (j := Q9.length) (by omega) (by omega) (by omega) (by omega)) dL_distance_183 ?_
      exact m_iret hx hb hr hlk hS (Nat.le_of_ble_eq_true rfl) (Nat.le_of_ble_eq_true rfl) dL_distance_184 (⟨rfl, by rw [← hsz]; exact ⟨hS.1, fun q hq => hS.2.1 q hq (fun z => absurd ((hAe q).mp z) (by rw [← hsz]; exact Nat.not_le.mpr hq))⟩⟩)
    · refine lv_iload_n hx hb dL_distance_13 rfl (lv_at hl 0 rfl) ?_
      refine lv_iconst (v := nI 5) hx hb dL_distance_14 (by decide) ?_
      refine m_idiv hx hb (by omega) (by omega) (by omega) dL_distance_15 ?_
      refine lv_istore (lv' := [(4, .int (nI (k / 5))), (3, .int (nI k)), (2, .ref d9), (0, .int (nI (enR R))), (1, .int (nI (enR Q9)))]) hx hb dL_distance_16 hl (by decide) rfl (fun ls hl => ?_)
      refine lv_iload_n hx hb dL_distance_18 rfl (lv_at hl 1 rfl) ?_
      refine lv_iconst (v := nI 5) hx hb dL_distance_19 (by decide) ?_
      refine m_irem hx hb (by omega) (by omega) (by omega) dL_distance_20 ?_
      refine lv_istore (lv' := [(5, .int (nI (k % 5))), (4, .int (nI (k / 5))), (3, .int (nI k)), (2, .ref d9), (0, .int (nI (enR R))), (1, .int (nI (enR Q9)))]) hx hb dL_distance_21 hl (by decide) rfl (fun ls hl => ?_)
      refine lv_iload hx hb dL_distance_23 (lv_at hl 1 rfl) ?_
      refine m_if_ne (tgt := 33) hx hb (by omega) dL_distance_25 (by decide) (fun c_25 => ?_) (fun c_25 => ?_)
      · refine lv_iload hx hb dL_distance_33 (lv_at hl 0 rfl) ?_
        refine m_if_ne (tgt := 43) hx hb (by omega) dL_distance_35 (by decide) (fun c_35 => ?_) (fun c_35 => ?_)
        · refine lv_bipush (v := nI 99) hx hb dL_distance_43 (by decide) ?_
          refine lv_istore (lv' := [(6, .int (nI 99)), (5, .int (nI (k % 5))), (4, .int (nI (k / 5))), (3, .int (nI k)), (2, .ref d9), (0, .int (nI (enR R))), (1, .int (nI (enR Q9)))]) hx hb dL_distance_45 hl (by decide) rfl (fun ls hl => ?_)
          refine lv_iload hx hb dL_distance_47 (lv_at hl 2 rfl) ?_
          refine m_if_le (tgt := 160) hx hb (by omega) dL_distance_49 (by decide) (fun c_49 => ?_) (fun c_49 => ?_)
          · omega
          · refine lv_iload hx hb dL_distance_52 (lv_at hl 1 rfl) ?_
            refine m_if_le (tgt := 160) hx hb (by omega) dL_distance_54 (by decide) (fun c_54 => ?_) (fun c_54 => ?_)
            · omega
            · refine lv_iload hx hb dL_distance_57 (lv_at hl 2 rfl) ?_
              refine lv_iload_n hx hb dL_distance_59 rfl (lv_at hl 5 rfl) ?_
              refine m_cSi (rest := [.int (nI (k / 5))]) ⟨hx, hb, hml, hown, hts⟩ hE hS (fun _ h => h) (kL_size l K A _ R hR) (va_cwS 1 hts gL_distance_L_size rfl rfl rfl (by decide +kernel) ⟨Nat.le_of_ble_eq_true rfl, Nat.le_of_ble_eq_true rfl⟩) rfl rfl hl.1 rfl (Nat.le_of_ble_eq_true rfl) dL_distance_60 ⟨Nat.le_of_ble_eq_true rfl, Nat.le_of_ble_eq_true rfl⟩ (fun r H1 locs hp hS hk => ?_)
              obtain ⟨rfl, rfl⟩ := hp
              refine m_icmp_gt (tgt := 160) hx hb (by omega) (by omega) dL_distance_63 (by decide) (fun c_63 => ?_) (fun c_63 => ?_)
              · refine lv_aload_n hx hb dL_distance_160 rfl (lv_at hl 4 rfl) ?_
                refine lv_iload_n hx hb dL_distance_161 rfl (lv_at hl 3 rfl) ?_
                refine lv_iload hx hb dL_distance_162 (lv_at hl 0 rfl) ?_
                refine m_iast hx hb hE.k hP hD hS 0 rfl (by omega) (by omega) dL_distance_164 (fun H locs hP hD hS => ?_)
                have hP : va_P K.1 vwCl ([(d9, .inl (K.2.1 0, 25, .inl (upd w k (nI 99))))]) H := hP
                have hD : va_D A ([(d9, .inl (K.2.1 0, 25, .inl (upd w k (nI 99))))]) := hD
                refine lv_iinc (v := nI (k + 1)) (lv' := [(3, .int (nI (k + 1))), (6, .int (nI 99)), (5, .int (nI (k % 5))), (4, .int (nI (k / 5))), (2, .ref d9), (0, .int (nI (enR R))), (1, .int (nI (enR Q9)))]) hx hb dL_distance_165 hl (k := 3) rfl (m_inc _) (by decide) rfl (fun ls hl => ?_)
                refine lv_goto (tgt := 7) hx hb dL_distance_168 (by decide) ?_
                exact ih (k + 1) (upd w k (nI 99)) _ _ ls (by omega) (by omega) (dw_up (P := fun t => t / 5 ≤ R.length ∧ t % 5 ≤ Q9.length) (f := fun t => lvD (fun i => nI (sgR R i)) (fun j => nI (sgR Q9 j)) (t / 5) (t % 5)) hw (fun z => absurd z (by omega))) hP hD hS (lv_sub hl [0, 4, 5, 6] rfl)
              · refine lv_iload hx hb dL_distance_66 (lv_at hl 1 rfl) ?_
                refine lv_iload_n hx hb dL_distance_68 rfl (lv_at hl 6 rfl) ?_
                refine m_cSi (rest := [.int (nI (k % 5))]) ⟨hx, hb, hml, hown, hts⟩ hE hS (fun _ h => h) (kL_size l K A _ Q9 hQ) (va_cwS 1 hts gL_distance_L_size rfl rfl rfl (by decide +kernel) ⟨Nat.le_of_ble_eq_true rfl, Nat.le_of_ble_eq_true rfl⟩) rfl rfl hl.1 rfl (Nat.le_of_ble_eq_true rfl) dL_distance_69 ⟨Nat.le_of_ble_eq_true rfl, Nat.le_of_ble_eq_true rfl⟩ (fun r H1 locs hp hS hk => ?_)
                obtain ⟨rfl, rfl⟩ := hp
                refine m_icmp_gt (tgt := 160) hx hb (by omega) (by omega) dL_distance_72 (by decide) (fun c_72 => ?_) (fun c_72 => ?_)
                · refine lv_aload_n hx hb dL_distance_160 rfl (lv_at hl 4 rfl) ?_
                  refine lv_iload_n hx hb dL_distance_161 rfl (lv_at hl 3 rfl) ?_
                  refine lv_iload hx hb dL_distance_162 (lv_at hl 0 rfl) ?_
                  refine m_iast hx hb hE.k hP hD hS 0 rfl (by omega) (by omega) dL_distance_164 (fun H locs hP hD hS => ?_)
                  have hP : va_P K.1 vwCl ([(d9, .inl (K.2.1 0, 25, .inl (upd w k (nI 99))))]) H := hP
                  have hD : va_D A ([(d9, .inl (K.2.1 0, 25, .inl (upd w k (nI 99))))]) := hD
                  refine lv_iinc (v := nI (k + 1)) (lv' := [(3, .int (nI (k + 1))), (6, .int (nI 99)), (5, .int (nI (k % 5))), (4, .int (nI (k / 5))), (2, .ref d9), (0, .int (nI (enR R))), (1, .int (nI (enR Q9)))]) hx hb dL_distance_165 hl (k := 3) rfl (m_inc _) (by decide) rfl (fun ls hl => ?_)
                  refine lv_goto (tgt := 7) hx hb dL_distance_168 (by decide) ?_
                  exact ih (k + 1) (upd w k (nI 99)) _ _ ls (by omega) (by omega) (dw_up (P := fun t => t / 5 ≤ R.length ∧ t % 5 ≤ Q9.length) (f := fun t => lvD (fun i => nI (sgR R i)) (fun j => nI (sgR Q9 j)) (t / 5) (t % 5)) hw (fun z => absurd z (by omega))) hP hD hS (lv_sub hl [0, 4, 5, 6] rfl)
                · refine lv_aload_n hx hb dL_distance_75 rfl (lv_at hl 4 rfl) ?_
                  refine lv_iload_n hx hb dL_distance_76 rfl (lv_at hl 3 rfl) ?_
                  refine lv_bipush (v := nI 6) hx hb dL_distance_77 (by decide) ?_
                  refine m_isub hx hb (by omega) dL_distance_79 ?_
                  refine m_iald hx hb hE.k hP 0 rfl (by omega) (by omega) (rd_a hw (i := k / 5 - 1) (j := k % 5 - 1) (by omega) (by omega) (by omega) (by omega)) dL_distance_80 ?_
                  refine lv_iload_n hx hb dL_distance_81 rfl (lv_at hl 5 rfl) ?_
                  refine lv_iload hx hb dL_distance_82 (lv_at hl 2 rfl) ?_
                  refine lv_iconst (v := nI 1) hx hb dL_distance_84 (by decide) ?_
                  refine m_isub hx hb (by omega) dL_distance_85 ?_
                  have hs_R := hR.s (p := k / 5 - 1) (by omega)
                  refine m_cSi (rest := [.int (nI (lvD (fun i => nI (sgR R i)) (fun j => nI (sgR Q9 j)) (k / 5 - 1) (k % 5 - 1)))]) ⟨hx, hb, hml, hown, hts⟩ hE hS (fun _ h => h) (kL_signAt l K A _ R hR (k / 5 - 1) (by omega)) (va_cwS 2 hts gL_distance_L_signAt rfl rfl rfl (by decide +kernel) ⟨Nat.le_of_ble_eq_true rfl, Nat.le_of_ble_eq_true rfl⟩) rfl rfl hl.1 rfl (Nat.le_of_ble_eq_true rfl) dL_distance_86 ⟨Nat.le_of_ble_eq_true rfl, Nat.le_of_ble_eq_true rfl⟩ (fun r H1 locs hp hS hk => ?_)
                  obtain ⟨rfl, rfl⟩ := hp
                  refine lv_iload_n hx hb dL_distance_89 rfl (lv_at hl 6 rfl) ?_
                  refine lv_iload hx hb dL_distance_90 (lv_at hl 1 rfl) ?_
                  refine lv_iconst (v := nI 1) hx hb dL_distance_92 (by decide) ?_
                  refine m_isub hx hb (by omega) dL_distance_93 ?_
                  have hs_Q9 := hQ.s (p := k % 5 - 1) (by omega)
                  refine m_cSi (rest := [.int (nI (sgR R (k / 5 - 1))), .int (nI (lvD (fun i => nI (sgR R i)) (fun j => nI (sgR Q9 j)) (k / 5 - 1) (k % 5 - 1)))]) ⟨hx, hb, hml, hown, hts⟩ hE hS (fun _ h => h) (kL_signAt l K A _ Q9 hQ (k % 5 - 1) (by omega)) (va_cwS 2 hts gL_distance_L_signAt rfl rfl rfl (by decide +kernel) ⟨Nat.le_of_ble_eq_true rfl, Nat.le_of_ble_eq_true rfl⟩) rfl rfl hl.1 rfl (Nat.le_of_ble_eq_true rfl) dL_distance_94 ⟨Nat.le_of_ble_eq_true rfl, Nat.le_of_ble_eq_true rfl⟩ (fun r H1 locs hp hS hk => ?_)
                  obtain ⟨rfl, rfl⟩ := hp
                  refine m_icmp_ne (tgt := 104) hx hb (by omega) (by omega) dL_distance_97 (by decide) (fun c_97 => ?_) (fun c_97 => ?_)
                  · have b1 := lvD_le (fun i => nI (sgR R i)) (fun j => nI (sgR Q9 j)) (k / 5 - 1) (k % 5 - 1)
                    have b2 := lvD_le (fun i => nI (sgR R i)) (fun j => nI (sgR Q9 j)) (k / 5 - 1) (k % 5 - 1 + 1)
                    have b3 := lvD_le (fun i => nI (sgR R i)) (fun j => nI (sgR Q9 j)) (k / 5 - 1 + 1) (k % 5 - 1)
                    have hv := lvD_n (x := (fun i => nI (sgR R i))) (y := (fun j => nI (sgR Q9 j))) (i := k / 5 - 1) (j := k % 5 - 1) (fun z => c_97 ((nI_eq (by omega) (by omega)).mp z))
                    refine lv_iconst (v := nI 1) hx hb dL_distance_104 (by decide) ?_
                    refine m_iadd hx hb dL_distance_105 ?_
                    refine lv_istore (lv' := [(6, .int (nI ((lvD (fun i => nI (sgR R i)) (fun j => nI (sgR Q9 j)) (k / 5 - 1) (k % 5 - 1)) + 1))), (5, .int (nI (k % 5))), (4, .int (nI (k / 5))), (3, .int (nI k)), (2, .ref d9), (0, .int (nI (enR R))), (1, .int (nI (enR Q9)))]) hx hb dL_distance_106 hl (by decide) rfl (fun ls hl => ?_)
                    refine lv_aload_n hx hb dL_distance_108 rfl (lv_at hl 4 rfl) ?_
                    refine lv_iload_n hx hb dL_distance_109 rfl (lv_at hl 3 rfl) ?_
                    refine lv_iconst (v := nI 5) hx hb dL_distance_110 (by decide) ?_
                    refine m_isub hx hb (by omega) dL_distance_111 ?_
                    refine m_iald hx hb hE.k hP 0 rfl (by omega) (by omega) (rd_a hw (i := k / 5 - 1) (j := k % 5 - 1 + 1) (by omega) (by omega) (by omega) (by omega)) dL_distance_112 ?_
                    refine lv_iconst (v := nI 1) hx hb dL_distance_113 (by decide) ?_
                    refine m_iadd hx hb dL_distance_114 ?_
                    refine lv_iload hx hb dL_distance_115 (lv_at hl 0 rfl) ?_
                    refine m_icmp_ge (tgt := 130) hx hb (by omega) (by omega) dL_distance_117 (by decide) (fun c_117 => ?_) (fun c_117 => ?_)
                    · refine lv_iload hx hb dL_distance_130 (lv_at hl 0 rfl) ?_
                      refine lv_istore (lv' := [(6, .int (nI ((lvD (fun i => nI (sgR R i)) (fun j => nI (sgR Q9 j)) (k / 5 - 1) (k % 5 - 1)) + 1))), (5, .int (nI (k % 5))), (4, .int (nI (k / 5))), (3, .int (nI k)), (2, .ref d9), (0, .int (nI (enR R))), (1, .int (nI (enR Q9)))]) hx hb dL_distance_132 hl (by decide) rfl (fun ls hl => ?_)
                      refine lv_aload_n hx hb dL_distance_134 rfl (lv_at hl 4 rfl) ?_
                      refine lv_iload_n hx hb dL_distance_135 rfl (lv_at hl 3 rfl) ?_
                      refine lv_iconst (v := nI 1) hx hb dL_distance_136 (by decide) ?_
                      refine m_isub hx hb (by omega) dL_distance_137 ?_
                      refine m_iald hx hb hE.k hP 0 rfl (by omega) (by omega) (rd_a hw (i := k / 5 - 1 + 1) (j := k % 5 - 1) (by omega) (by omega) (by omega) (by omega)) dL_distance_138 ?_
                      refine lv_iconst (v := nI 1) hx hb dL_distance_139 (by decide) ?_
                      refine m_iadd hx hb dL_distance_140 ?_
                      refine lv_iload hx hb dL_distance_141 (lv_at hl 0 rfl) ?_
                      refine m_icmp_ge (tgt := 156) hx hb (by omega) (by omega) dL_distance_143 (by decide) (fun c_143 => ?_) (fun c_143 => ?_)
                      · refine lv_iload hx hb dL_distance_156 (lv_at hl 0 rfl) ?_
                        refine lv_istore (lv' := [(6, .int (nI ((lvD (fun i => nI (sgR R i)) (fun j => nI (sgR Q9 j)) (k / 5 - 1) (k % 5 - 1)) + 1))), (5, .int (nI (k % 5))), (4, .int (nI (k / 5))), (3, .int (nI k)), (2, .ref d9), (0, .int (nI (enR R))), (1, .int (nI (enR Q9)))]) hx hb dL_distance_158 hl (by decide) rfl (fun ls hl => ?_)
                        refine lv_aload_n hx hb dL_distance_160 rfl (lv_at hl 4 rfl) ?_
                        refine lv_iload_n hx hb dL_distance_161 rfl (lv_at hl 3 rfl) ?_
                        refine lv_iload hx hb dL_distance_162 (lv_at hl 0 rfl) ?_
                        have hv9 : (lvD (fun i => nI (sgR R i)) (fun j => nI (sgR Q9 j)) (k / 5 - 1) (k % 5 - 1)) + 1 = lvD (fun i => nI (sgR R i)) (fun j => nI (sgR Q9 j)) (k / 5 - 1 + 1) (k % 5 - 1 + 1) := by rw [← hv]; omega
                        rw [hv9]
                        refine m_iast hx hb hE.k hP hD hS 0 rfl (by omega) (by omega) dL_distance_164 (fun H locs hP hD hS => ?_)
                        have hP : va_P K.1 vwCl ([(d9, .inl (K.2.1 0, 25, .inl (upd w k (nI (lvD (fun i => nI (sgR R i)) (fun j => nI (sgR Q9 j)) (k / 5 - 1 + 1) (k % 5 - 1 + 1))))))]) H := hP
                        have hD : va_D A ([(d9, .inl (K.2.1 0, 25, .inl (upd w k (nI (lvD (fun i => nI (sgR R i)) (fun j => nI (sgR Q9 j)) (k / 5 - 1 + 1) (k % 5 - 1 + 1))))))]) := hD
                        refine lv_iinc (v := nI (k + 1)) (lv' := [(3, .int (nI (k + 1))), (6, .int (nI ((lvD (fun i => nI (sgR R i)) (fun j => nI (sgR Q9 j)) (k / 5 - 1) (k % 5 - 1)) + 1))), (5, .int (nI (k % 5))), (4, .int (nI (k / 5))), (2, .ref d9), (0, .int (nI (enR R))), (1, .int (nI (enR Q9)))]) hx hb dL_distance_165 hl (k := 3) rfl (m_inc _) (by decide) rfl (fun ls hl => ?_)
                        refine lv_goto (tgt := 7) hx hb dL_distance_168 (by decide) ?_
                        exact ih (k + 1) (upd w k (nI (lvD (fun i => nI (sgR R i)) (fun j => nI (sgR Q9 j)) (k / 5 - 1 + 1) (k % 5 - 1 + 1)))) _ _ ls (by omega) (by omega) (dw_up (P := fun t => t / 5 ≤ R.length ∧ t % 5 ≤ Q9.length) (f := fun t => lvD (fun i => nI (sgR R i)) (fun j => nI (sgR Q9 j)) (t / 5) (t % 5)) hw (fun _ => by rw [show k / 5 = k / 5 - 1 + 1 by omega, show k % 5 = k % 5 - 1 + 1 by omega]; rfl)) hP hD hS (lv_sub hl [0, 4, 5, 6] rfl)
                      · refine lv_aload_n hx hb dL_distance_146 rfl (lv_at hl 4 rfl) ?_
                        refine lv_iload_n hx hb dL_distance_147 rfl (lv_at hl 3 rfl) ?_
                        refine lv_iconst (v := nI 1) hx hb dL_distance_148 (by decide) ?_
                        refine m_isub hx hb (by omega) dL_distance_149 ?_
                        refine m_iald hx hb hE.k hP 0 rfl (by omega) (by omega) (rd_a hw (i := k / 5 - 1 + 1) (j := k % 5 - 1) (by omega) (by omega) (by omega) (by omega)) dL_distance_150 ?_
                        refine lv_iconst (v := nI 1) hx hb dL_distance_151 (by decide) ?_
                        refine m_iadd hx hb dL_distance_152 ?_
                        refine lv_goto (tgt := 158) hx hb dL_distance_153 (by decide) ?_
                        refine lv_istore (lv' := [(6, .int (nI ((lvD (fun i => nI (sgR R i)) (fun j => nI (sgR Q9 j)) (k / 5 - 1 + 1) (k % 5 - 1)) + 1))), (5, .int (nI (k % 5))), (4, .int (nI (k / 5))), (3, .int (nI k)), (2, .ref d9), (0, .int (nI (enR R))), (1, .int (nI (enR Q9)))]) hx hb dL_distance_158 hl (by decide) rfl (fun ls hl => ?_)
                        refine lv_aload_n hx hb dL_distance_160 rfl (lv_at hl 4 rfl) ?_
                        refine lv_iload_n hx hb dL_distance_161 rfl (lv_at hl 3 rfl) ?_
                        refine lv_iload hx hb dL_distance_162 (lv_at hl 0 rfl) ?_
                        have hv9 : (lvD (fun i => nI (sgR R i)) (fun j => nI (sgR Q9 j)) (k / 5 - 1 + 1) (k % 5 - 1)) + 1 = lvD (fun i => nI (sgR R i)) (fun j => nI (sgR Q9 j)) (k / 5 - 1 + 1) (k % 5 - 1 + 1) := by rw [← hv]; omega
                        rw [hv9]
                        refine m_iast hx hb hE.k hP hD hS 0 rfl (by omega) (by omega) dL_distance_164 (fun H locs hP hD hS => ?_)
                        have hP : va_P K.1 vwCl ([(d9, .inl (K.2.1 0, 25, .inl (upd w k (nI (lvD (fun i => nI (sgR R i)) (fun j => nI (sgR Q9 j)) (k / 5 - 1 + 1) (k % 5 - 1 + 1))))))]) H := hP
                        have hD : va_D A ([(d9, .inl (K.2.1 0, 25, .inl (upd w k (nI (lvD (fun i => nI (sgR R i)) (fun j => nI (sgR Q9 j)) (k / 5 - 1 + 1) (k % 5 - 1 + 1))))))]) := hD
                        refine lv_iinc (v := nI (k + 1)) (lv' := [(3, .int (nI (k + 1))), (6, .int (nI ((lvD (fun i => nI (sgR R i)) (fun j => nI (sgR Q9 j)) (k / 5 - 1 + 1) (k % 5 - 1)) + 1))), (5, .int (nI (k % 5))), (4, .int (nI (k / 5))), (2, .ref d9), (0, .int (nI (enR R))), (1, .int (nI (enR Q9)))]) hx hb dL_distance_165 hl (k := 3) rfl (m_inc _) (by decide) rfl (fun ls hl => ?_)
                        refine lv_goto (tgt := 7) hx hb dL_distance_168 (by decide) ?_
                        exact ih (k + 1) (upd w k (nI (lvD (fun i => nI (sgR R i)) (fun j => nI (sgR Q9 j)) (k / 5 - 1 + 1) (k % 5 - 1 + 1)))) _ _ ls (by omega) (by omega) (dw_up (P := fun t => t / 5 ≤ R.length ∧ t % 5 ≤ Q9.length) (f := fun t => lvD (fun i => nI (sgR R i)) (fun j => nI (sgR Q9 j)) (t / 5) (t % 5)) hw (fun _ => by rw [show k / 5 = k / 5 - 1 + 1 by omega, show k % 5 = k % 5 - 1 + 1 by omega]; rfl)) hP hD hS (lv_sub hl [0, 4, 5, 6] rfl)
                    · refine lv_aload_n hx hb dL_distance_120 rfl (lv_at hl 4 rfl) ?_
                      refine lv_iload_n hx hb dL_distance_121 rfl (lv_at hl 3 rfl) ?_
                      refine lv_iconst (v := nI 5) hx hb dL_distance_122 (by decide) ?_
                      refine m_isub hx hb (by omega) dL_distance_123 ?_
                      refine m_iald hx hb hE.k hP 0 rfl (by omega) (by omega) (rd_a hw (i := k / 5 - 1) (j := k % 5 - 1 + 1) (by omega) (by omega) (by omega) (by omega)) dL_distance_124 ?_
                      refine lv_iconst (v := nI 1) hx hb dL_distance_125 (by decide) ?_
                      refine m_iadd hx hb dL_distance_126 ?_
                      refine lv_goto (tgt := 132) hx hb dL_distance_127 (by decide) ?_
                      refine lv_istore (lv' := [(6, .int (nI ((lvD (fun i => nI (sgR R i)) (fun j => nI (sgR Q9 j)) (k / 5 - 1) (k % 5 - 1 + 1)) + 1))), (5, .int (nI (k % 5))), (4, .int (nI (k / 5))), (3, .int (nI k)), (2, .ref d9), (0, .int (nI (enR R))), (1, .int (nI (enR Q9)))]) hx hb dL_distance_132 hl (by decide) rfl (fun ls hl => ?_)
                      refine lv_aload_n hx hb dL_distance_134 rfl (lv_at hl 4 rfl) ?_
                      refine lv_iload_n hx hb dL_distance_135 rfl (lv_at hl 3 rfl) ?_
                      refine lv_iconst (v := nI 1) hx hb dL_distance_136 (by decide) ?_
                      refine m_isub hx hb (by omega) dL_distance_137 ?_
                      refine m_iald hx hb hE.k hP 0 rfl (by omega) (by omega) (rd_a hw (i := k / 5 - 1 + 1) (j := k % 5 - 1) (by omega) (by omega) (by omega) (by omega)) dL_distance_138 ?_
                      refine lv_iconst (v := nI 1) hx hb dL_distance_139 (by decide) ?_
                      refine m_iadd hx hb dL_distance_140 ?_
                      refine lv_iload hx hb dL_distance_141 (lv_at hl 0 rfl) ?_
                      refine m_icmp_ge (tgt := 156) hx hb (by omega) (by omega) dL_distance_143 (by decide) (fun c_143 => ?_) (fun c_143 => ?_)
                      · refine lv_iload hx hb dL_distance_156 (lv_at hl 0 rfl) ?_
                        refine lv_istore (lv' := [(6, .int (nI ((lvD (fun i => nI (sgR R i)) (fun j => nI (sgR Q9 j)) (k / 5 - 1) (k % 5 - 1 + 1)) + 1))), (5, .int (nI (k % 5))), (4, .int (nI (k / 5))), (3, .int (nI k)), (2, .ref d9), (0, .int (nI (enR R))), (1, .int (nI (enR Q9)))]) hx hb dL_distance_158 hl (by decide) rfl (fun ls hl => ?_)
                        refine lv_aload_n hx hb dL_distance_160 rfl (lv_at hl 4 rfl) ?_
                        refine lv_iload_n hx hb dL_distance_161 rfl (lv_at hl 3 rfl) ?_
                        refine lv_iload hx hb dL_distance_162 (lv_at hl 0 rfl) ?_
                        have hv9 : (lvD (fun i => nI (sgR R i)) (fun j => nI (sgR Q9 j)) (k / 5 - 1) (k % 5 - 1 + 1)) + 1 = lvD (fun i => nI (sgR R i)) (fun j => nI (sgR Q9 j)) (k / 5 - 1 + 1) (k % 5 - 1 + 1) := by rw [← hv]; omega
                        rw [hv9]
                        refine m_iast hx hb hE.k hP hD hS 0 rfl (by omega) (by omega) dL_distance_164 (fun H locs hP hD hS => ?_)
                        have hP : va_P K.1 vwCl ([(d9, .inl (K.2.1 0, 25, .inl (upd w k (nI (lvD (fun i => nI (sgR R i)) (fun j => nI (sgR Q9 j)) (k / 5 - 1 + 1) (k % 5 - 1 + 1))))))]) H := hP
                        have hD : va_D A ([(d9, .inl (K.2.1 0, 25, .inl (upd w k (nI (lvD (fun i => nI (sgR R i)) (fun j => nI (sgR Q9 j)) (k / 5 - 1 + 1) (k % 5 - 1 + 1))))))]) := hD
                        refine lv_iinc (v := nI (k + 1)) (lv' := [(3, .int (nI (k + 1))), (6, .int (nI ((lvD (fun i => nI (sgR R i)) (fun j => nI (sgR Q9 j)) (k / 5 - 1) (k % 5 - 1 + 1)) + 1))), (5, .int (nI (k % 5))), (4, .int (nI (k / 5))), (2, .ref d9), (0, .int (nI (enR R))), (1, .int (nI (enR Q9)))]) hx hb dL_distance_165 hl (k := 3) rfl (m_inc _) (by decide) rfl (fun ls hl => ?_)
                        refine lv_goto (tgt := 7) hx hb dL_distance_168 (by decide) ?_
                        exact ih (k + 1) (upd w k (nI (lvD (fun i => nI (sgR R i)) (fun j => nI (sgR Q9 j)) (k / 5 - 1 + 1) (k % 5 - 1 + 1)))) _ _ ls (by omega) (by omega) (dw_up (P := fun t => t / 5 ≤ R.length ∧ t % 5 ≤ Q9.length) (f := fun t => lvD (fun i => nI (sgR R i)) (fun j => nI (sgR Q9 j)) (t / 5) (t % 5)) hw (fun _ => by rw [show k / 5 = k / 5 - 1 + 1 by omega, show k % 5 = k % 5 - 1 + 1 by omega]; rfl)) hP hD hS (lv_sub hl [0, 4, 5, 6] rfl)
                      · refine lv_aload_n hx hb dL_distance_146 rfl (lv_at hl 4 rfl) ?_
                        refine lv_iload_n hx hb dL_distance_147 rfl (lv_at hl 3 rfl) ?_
                        refine lv_iconst (v := nI 1) hx hb dL_distance_148 (by decide) ?_
                        refine m_isub hx hb (by omega) dL_distance_149 ?_
                        refine m_iald hx hb hE.k hP 0 rfl (by omega) (by omega) (rd_a hw (i := k / 5 - 1 + 1) (j := k % 5 - 1) (by omega) (by omega) (by omega) (by omega)) dL_distance_150 ?_
                        refine lv_iconst (v := nI 1) hx hb dL_distance_151 (by decide) ?_
                        refine m_iadd hx hb dL_distance_152 ?_
                        refine lv_goto (tgt := 158) hx hb dL_distance_153 (by decide) ?_
                        refine lv_istore (lv' := [(6, .int (nI ((lvD (fun i => nI (sgR R i)) (fun j => nI (sgR Q9 j)) (k / 5 - 1 + 1) (k % 5 - 1)) + 1))), (5, .int (nI (k % 5))), (4, .int (nI (k / 5))), (3, .int (nI k)), (2, .ref d9), (0, .int (nI (enR R))), (1, .int (nI (enR Q9)))]) hx hb dL_distance_158 hl (by decide) rfl (fun ls hl => ?_)
                        refine lv_aload_n hx hb dL_distance_160 rfl (lv_at hl 4 rfl) ?_
                        refine lv_iload_n hx hb dL_distance_161 rfl (lv_at hl 3 rfl) ?_
                        refine lv_iload hx hb dL_distance_162 (lv_at hl 0 rfl) ?_
                        have hv9 : (lvD (fun i => nI (sgR R i)) (fun j => nI (sgR Q9 j)) (k / 5 - 1 + 1) (k % 5 - 1)) + 1 = lvD (fun i => nI (sgR R i)) (fun j => nI (sgR Q9 j)) (k / 5 - 1 + 1) (k % 5 - 1 + 1) := by rw [← hv]; omega
                        rw [hv9]
                        refine m_iast hx hb hE.k hP hD hS 0 rfl (by omega) (by omega) dL_distance_164 (fun H locs hP hD hS => ?_)
                        have hP : va_P K.1 vwCl ([(d9, .inl (K.2.1 0, 25, .inl (upd w k (nI (lvD (fun i => nI (sgR R i)) (fun j => nI (sgR Q9 j)) (k / 5 - 1 + 1) (k % 5 - 1 + 1))))))]) H := hP
                        have hD : va_D A ([(d9, .inl (K.2.1 0, 25, .inl (upd w k (nI (lvD (fun i => nI (sgR R i)) (fun j => nI (sgR Q9 j)) (k / 5 - 1 + 1) (k % 5 - 1 + 1))))))]) := hD
                        refine lv_iinc (v := nI (k + 1)) (lv' := [(3, .int (nI (k + 1))), (6, .int (nI ((lvD (fun i => nI (sgR R i)) (fun j => nI (sgR Q9 j)) (k / 5 - 1 + 1) (k % 5 - 1)) + 1))), (5, .int (nI (k % 5))), (4, .int (nI (k / 5))), (2, .ref d9), (0, .int (nI (enR R))), (1, .int (nI (enR Q9)))]) hx hb dL_distance_165 hl (k := 3) rfl (m_inc _) (by decide) rfl (fun ls hl => ?_)
                        refine lv_goto (tgt := 7) hx hb dL_distance_168 (by decide) ?_
                        exact ih (k + 1) (upd w k (nI (lvD (fun i => nI (sgR R i)) (fun j => nI (sgR Q9 j)) (k / 5 - 1 + 1) (k % 5 - 1 + 1)))) _ _ ls (by omega) (by omega) (dw_up (P := fun t => t / 5 ≤ R.length ∧ t % 5 ≤ Q9.length) (f := fun t => lvD (fun i => nI (sgR R i)) (fun j => nI (sgR Q9 j)) (t / 5) (t % 5)) hw (fun _ => by rw [show k / 5 = k / 5 - 1 + 1 by omega, show k % 5 = k % 5 - 1 + 1 by omega]; rfl)) hP hD hS (lv_sub hl [0, 4, 5, 6] rfl)
                  · have b1 := lvD_le (fun i => nI (sgR R i)) (fun j => nI (sgR Q9 j)) (k / 5 - 1) (k % 5 - 1)
                    have b2 := lvD_le (fun i => nI (sgR R i)) (fun j => nI (sgR Q9 j)) (k / 5 - 1) (k % 5 - 1 + 1)
                    have b3 := lvD_le (fun i => nI (sgR R i)) (fun j => nI (sgR Q9 j)) (k / 5 - 1 + 1) (k % 5 - 1)
                    have hv := lvD_y (x := (fun i => nI (sgR R i))) (y := (fun j => nI (sgR Q9 j))) (i := k / 5 - 1) (j := k % 5 - 1) (congrArg nI c_97)
                    refine lv_iconst (v := nI 0) hx hb dL_distance_100 (by decide) ?_
                    refine lv_goto (tgt := 105) hx hb dL_distance_101 (by decide) ?_
                    refine m_iadd hx hb dL_distance_105 ?_
                    refine lv_istore (lv' := [(6, .int (nI ((lvD (fun i => nI (sgR R i)) (fun j => nI (sgR Q9 j)) (k / 5 - 1) (k % 5 - 1)) + 0))), (5, .int (nI (k % 5))), (4, .int (nI (k / 5))), (3, .int (nI k)), (2, .ref d9), (0, .int (nI (enR R))), (1, .int (nI (enR Q9)))]) hx hb dL_distance_106 hl (by decide) rfl (fun ls hl => ?_)
                    refine lv_aload_n hx hb dL_distance_108 rfl (lv_at hl 4 rfl) ?_
                    refine lv_iload_n hx hb dL_distance_109 rfl (lv_at hl 3 rfl) ?_
                    refine lv_iconst (v := nI 5) hx hb dL_distance_110 (by decide) ?_
                    refine m_isub hx hb (by omega) dL_distance_111 ?_
                    refine m_iald hx hb hE.k hP 0 rfl (by omega) (by omega) (rd_a hw (i := k / 5 - 1) (j := k % 5 - 1 + 1) (by omega) (by omega) (by omega) (by omega)) dL_distance_112 ?_
                    refine lv_iconst (v := nI 1) hx hb dL_distance_113 (by decide) ?_
                    refine m_iadd hx hb dL_distance_114 ?_
                    refine lv_iload hx hb dL_distance_115 (lv_at hl 0 rfl) ?_
                    refine m_icmp_ge (tgt := 130) hx hb (by omega) (by omega) dL_distance_117 (by decide) (fun c_117 => ?_) (fun c_117 => ?_)
                    · refine lv_iload hx hb dL_distance_130 (lv_at hl 0 rfl) ?_
                      refine lv_istore (lv' := [(6, .int (nI ((lvD (fun i => nI (sgR R i)) (fun j => nI (sgR Q9 j)) (k / 5 - 1) (k % 5 - 1)) + 0))), (5, .int (nI (k % 5))), (4, .int (nI (k / 5))), (3, .int (nI k)), (2, .ref d9), (0, .int (nI (enR R))), (1, .int (nI (enR Q9)))]) hx hb dL_distance_132 hl (by decide) rfl (fun ls hl => ?_)
                      refine lv_aload_n hx hb dL_distance_134 rfl (lv_at hl 4 rfl) ?_
                      refine lv_iload_n hx hb dL_distance_135 rfl (lv_at hl 3 rfl) ?_
                      refine lv_iconst (v := nI 1) hx hb dL_distance_136 (by decide) ?_
                      refine m_isub hx hb (by omega) dL_distance_137 ?_
                      refine m_iald hx hb hE.k hP 0 rfl (by omega) (by omega) (rd_a hw (i := k / 5 - 1 + 1) (j := k % 5 - 1) (by omega) (by omega) (by omega) (by omega)) dL_distance_138 ?_
                      refine lv_iconst (v := nI 1) hx hb dL_distance_139 (by decide) ?_
                      refine m_iadd hx hb dL_distance_140 ?_
                      refine lv_iload hx hb dL_distance_141 (lv_at hl 0 rfl) ?_
                      refine m_icmp_ge (tgt := 156) hx hb (by omega) (by omega) dL_distance_143 (by decide) (fun c_143 => ?_) (fun c_143 => ?_)
                      · refine lv_iload hx hb dL_distance_156 (lv_at hl 0 rfl) ?_
                        refine lv_istore (lv' := [(6, .int (nI ((lvD (fun i => nI (sgR R i)) (fun j => nI (sgR Q9 j)) (k / 5 - 1) (k % 5 - 1)) + 0))), (5, .int (nI (k % 5))), (4, .int (nI (k / 5))), (3, .int (nI k)), (2, .ref d9), (0, .int (nI (enR R))), (1, .int (nI (enR Q9)))]) hx hb dL_distance_158 hl (by decide) rfl (fun ls hl => ?_)
                        refine lv_aload_n hx hb dL_distance_160 rfl (lv_at hl 4 rfl) ?_
                        refine lv_iload_n hx hb dL_distance_161 rfl (lv_at hl 3 rfl) ?_
                        refine lv_iload hx hb dL_distance_162 (lv_at hl 0 rfl) ?_
                        have hv9 : (lvD (fun i => nI (sgR R i)) (fun j => nI (sgR Q9 j)) (k / 5 - 1) (k % 5 - 1)) + 0 = lvD (fun i => nI (sgR R i)) (fun j => nI (sgR Q9 j)) (k / 5 - 1 + 1) (k % 5 - 1 + 1) := by rw [← hv]; omega
                        rw [hv9]
                        refine m_iast hx hb hE.k hP hD hS 0 rfl (by omega) (by omega) dL_distance_164 (fun H locs hP hD hS => ?_)
                        have hP : va_P K.1 vwCl ([(d9, .inl (K.2.1 0, 25, .inl (upd w k (nI (lvD (fun i => nI (sgR R i)) (fun j => nI (sgR Q9 j)) (k / 5 - 1 + 1) (k % 5 - 1 + 1))))))]) H := hP
                        have hD : va_D A ([(d9, .inl (K.2.1 0, 25, .inl (upd w k (nI (lvD (fun i => nI (sgR R i)) (fun j => nI (sgR Q9 j)) (k / 5 - 1 + 1) (k % 5 - 1 + 1))))))]) := hD
                        refine lv_iinc (v := nI (k + 1)) (lv' := [(3, .int (nI (k + 1))), (6, .int (nI ((lvD (fun i => nI (sgR R i)) (fun j => nI (sgR Q9 j)) (k / 5 - 1) (k % 5 - 1)) + 0))), (5, .int (nI (k % 5))), (4, .int (nI (k / 5))), (2, .ref d9), (0, .int (nI (enR R))), (1, .int (nI (enR Q9)))]) hx hb dL_distance_165 hl (k := 3) rfl (m_inc _) (by decide) rfl (fun ls hl => ?_)
                        refine lv_goto (tgt := 7) hx hb dL_distance_168 (by decide) ?_
                        exact ih (k + 1) (upd w k (nI (lvD (fun i => nI (sgR R i)) (fun j => nI (sgR Q9 j)) (k / 5 - 1 + 1) (k % 5 - 1 + 1)))) _ _ ls (by omega) (by omega) (dw_up (P := fun t => t / 5 ≤ R.length ∧ t % 5 ≤ Q9.length) (f := fun t => lvD (fun i => nI (sgR R i)) (fun j => nI (sgR Q9 j)) (t / 5) (t % 5)) hw (fun _ => by rw [show k / 5 = k / 5 - 1 + 1 by omega, show k % 5 = k % 5 - 1 + 1 by omega]; rfl)) hP hD hS (lv_sub hl [0, 4, 5, 6] rfl)
                      · refine lv_aload_n hx hb dL_distance_146 rfl (lv_at hl 4 rfl) ?_
                        refine lv_iload_n hx hb dL_distance_147 rfl (lv_at hl 3 rfl) ?_
                        refine lv_iconst (v := nI 1) hx hb dL_distance_148 (by decide) ?_
                        refine m_isub hx hb (by omega) dL_distance_149 ?_
                        refine m_iald hx hb hE.k hP 0 rfl (by omega) (by omega) (rd_a hw (i := k / 5 - 1 + 1) (j := k % 5 - 1) (by omega) (by omega) (by omega) (by omega)) dL_distance_150 ?_
                        refine lv_iconst (v := nI 1) hx hb dL_distance_151 (by decide) ?_
                        refine m_iadd hx hb dL_distance_152 ?_
                        refine lv_goto (tgt := 158) hx hb dL_distance_153 (by decide) ?_
                        refine lv_istore (lv' := [(6, .int (nI ((lvD (fun i => nI (sgR R i)) (fun j => nI (sgR Q9 j)) (k / 5 - 1 + 1) (k % 5 - 1)) + 1))), (5, .int (nI (k % 5))), (4, .int (nI (k / 5))), (3, .int (nI k)), (2, .ref d9), (0, .int (nI (enR R))), (1, .int (nI (enR Q9)))]) hx hb dL_distance_158 hl (by decide) rfl (fun ls hl => ?_)
                        refine lv_aload_n hx hb dL_distance_160 rfl (lv_at hl 4 rfl) ?_
                        refine lv_iload_n hx hb dL_distance_161 rfl (lv_at hl 3 rfl) ?_
                        refine lv_iload hx hb dL_distance_162 (lv_at hl 0 rfl) ?_
                        have hv9 : (lvD (fun i => nI (sgR R i)) (fun j => nI (sgR Q9 j)) (k / 5 - 1 + 1) (k % 5 - 1)) + 1 = lvD (fun i => nI (sgR R i)) (fun j => nI (sgR Q9 j)) (k / 5 - 1 + 1) (k % 5 - 1 + 1) := by rw [← hv]; omega
                        rw [hv9]
                        refine m_iast hx hb hE.k hP hD hS 0 rfl (by omega) (by omega) dL_distance_164 (fun H locs hP hD hS => ?_)
                        have hP : va_P K.1 vwCl ([(d9, .inl (K.2.1 0, 25, .inl (upd w k (nI (lvD (fun i => nI (sgR R i)) (fun j => nI (sgR Q9 j)) (k / 5 - 1 + 1) (k % 5 - 1 + 1))))))]) H := hP
                        have hD : va_D A ([(d9, .inl (K.2.1 0, 25, .inl (upd w k (nI (lvD (fun i => nI (sgR R i)) (fun j => nI (sgR Q9 j)) (k / 5 - 1 + 1) (k % 5 - 1 + 1))))))]) := hD
                        refine lv_iinc (v := nI (k + 1)) (lv' := [(3, .int (nI (k + 1))), (6, .int (nI ((lvD (fun i => nI (sgR R i)) (fun j => nI (sgR Q9 j)) (k / 5 - 1 + 1) (k % 5 - 1)) + 1))), (5, .int (nI (k % 5))), (4, .int (nI (k / 5))), (2, .ref d9), (0, .int (nI (enR R))), (1, .int (nI (enR Q9)))]) hx hb dL_distance_165 hl (k := 3) rfl (m_inc _) (by decide) rfl (fun ls hl => ?_)
                        refine lv_goto (tgt := 7) hx hb dL_distance_168 (by decide) ?_
                        exact ih (k + 1) (upd w k (nI (lvD (fun i => nI (sgR R i)) (fun j => nI (sgR Q9 j)) (k / 5 - 1 + 1) (k % 5 - 1 + 1)))) _ _ ls (by omega) (by omega) (dw_up (P := fun t => t / 5 ≤ R.length ∧ t % 5 ≤ Q9.length) (f := fun t => lvD (fun i => nI (sgR R i)) (fun j => nI (sgR Q9 j)) (t / 5) (t % 5)) hw (fun _ => by rw [show k / 5 = k / 5 - 1 + 1 by omega, show k % 5 = k % 5 - 1 + 1 by omega]; rfl)) hP hD hS (lv_sub hl [0, 4, 5, 6] rfl)
                    · refine lv_aload_n hx hb dL_distance_120 rfl (lv_at hl 4 rfl) ?_
                      refine lv_iload_n hx hb dL_distance_121 rfl (lv_at hl 3 rfl) ?_
                      refine lv_iconst (v := nI 5) hx hb dL_distance_122 (by decide) ?_
                      refine m_isub hx hb (by omega) dL_distance_123 ?_
                      refine m_iald hx hb hE.k hP 0 rfl (by omega) (by omega) (rd_a hw (i := k / 5 - 1) (j := k % 5 - 1 + 1) (by omega) (by omega) (by omega) (by omega)) dL_distance_124 ?_
                      refine lv_iconst (v := nI 1) hx hb dL_distance_125 (by decide) ?_
                      refine m_iadd hx hb dL_distance_126 ?_
                      refine lv_goto (tgt := 132) hx hb dL_distance_127 (by decide) ?_
                      refine lv_istore (lv' := [(6, .int (nI ((lvD (fun i => nI (sgR R i)) (fun j => nI (sgR Q9 j)) (k / 5 - 1) (k % 5 - 1 + 1)) + 1))), (5, .int (nI (k % 5))), (4, .int (nI (k / 5))), (3, .int (nI k)), (2, .ref d9), (0, .int (nI (enR R))), (1, .int (nI (enR Q9)))]) hx hb dL_distance_132 hl (by decide) rfl (fun ls hl => ?_)
                      refine lv_aload_n hx hb dL_distance_134 rfl (lv_at hl 4 rfl) ?_
                      refine lv_iload_n hx hb dL_distance_135 rfl (lv_at hl 3 rfl) ?_
                      refine lv_iconst (v := nI 1) hx hb dL_distance_136 (by decide) ?_
                      refine m_isub hx hb (by omega) dL_distance_137 ?_
                      refine m_iald hx hb hE.k hP 0 rfl (by omega) (by omega) (rd_a hw (i := k / 5 - 1 + 1) (j := k % 5 - 1) (by omega) (by omega) (by omega) (by omega)) dL_distance_138 ?_
                      refine lv_iconst (v := nI 1) hx hb dL_distance_139 (by decide) ?_
                      refine m_iadd hx hb dL_distance_140 ?_
                      refine lv_iload hx hb dL_distance_141 (lv_at hl 0 rfl) ?_
                      refine m_icmp_ge (tgt := 156) hx hb (by omega) (by omega) dL_distance_143 (by decide) (fun c_143 => ?_) (fun c_143 => ?_)
                      · refine lv_iload hx hb dL_distance_156 (lv_at hl 0 rfl) ?_
                        refine lv_istore (lv' := [(6, .int (nI ((lvD (fun i => nI (sgR R i)) (fun j => nI (sgR Q9 j)) (k / 5 - 1) (k % 5 - 1 + 1)) + 1))), (5, .int (nI (k % 5))), (4, .int (nI (k / 5))), (3, .int (nI k)), (2, .ref d9), (0, .int (nI (enR R))), (1, .int (nI (enR Q9)))]) hx hb dL_distance_158 hl (by decide) rfl (fun ls hl => ?_)
                        refine lv_aload_n hx hb dL_distance_160 rfl (lv_at hl 4 rfl) ?_
                        refine lv_iload_n hx hb dL_distance_161 rfl (lv_at hl 3 rfl) ?_
                        refine lv_iload hx hb dL_distance_162 (lv_at hl 0 rfl) ?_
                        have hv9 : (lvD (fun i => nI (sgR R i)) (fun j => nI (sgR Q9 j)) (k / 5 - 1) (k % 5 - 1 + 1)) + 1 = lvD (fun i => nI (sgR R i)) (fun j => nI (sgR Q9 j)) (k / 5 - 1 + 1) (k % 5 - 1 + 1) := by rw [← hv]; omega
                        rw [hv9]
                        refine m_iast hx hb hE.k hP hD hS 0 rfl (by omega) (by omega) dL_distance_164 (fun H locs hP hD hS => ?_)
                        have hP : va_P K.1 vwCl ([(d9, .inl (K.2.1 0, 25, .inl (upd w k (nI (lvD (fun i => nI (sgR R i)) (fun j => nI (sgR Q9 j)) (k / 5 - 1 + 1) (k % 5 - 1 + 1))))))]) H := hP
                        have hD : va_D A ([(d9, .inl (K.2.1 0, 25, .inl (upd w k (nI (lvD (fun i => nI (sgR R i)) (fun j => nI (sgR Q9 j)) (k / 5 - 1 + 1) (k % 5 - 1 + 1))))))]) := hD
                        refine lv_iinc (v := nI (k + 1)) (lv' := [(3, .int (nI (k + 1))), (6, .int (nI ((lvD (fun i => nI (sgR R i)) (fun j => nI (sgR Q9 j)) (k / 5 - 1) (k % 5 - 1 + 1)) + 1))), (5, .int (nI (k % 5))), (4, .int (nI (k / 5))), (2, .ref d9), (0, .int (nI (enR R))), (1, .int (nI (enR Q9)))]) hx hb dL_distance_165 hl (k := 3) rfl (m_inc _) (by decide) rfl (fun ls hl => ?_)
                        refine lv_goto (tgt := 7) hx hb dL_distance_168 (by decide) ?_
                        exact ih (k + 1) (upd w k (nI (lvD (fun i => nI (sgR R i)) (fun j => nI (sgR Q9 j)) (k / 5 - 1 + 1) (k % 5 - 1 + 1)))) _ _ ls (by omega) (by omega) (dw_up (P := fun t => t / 5 ≤ R.length ∧ t % 5 ≤ Q9.length) (f := fun t => lvD (fun i => nI (sgR R i)) (fun j => nI (sgR Q9 j)) (t / 5) (t % 5)) hw (fun _ => by rw [show k / 5 = k / 5 - 1 + 1 by omega, show k % 5 = k % 5 - 1 + 1 by omega]; rfl)) hP hD hS (lv_sub hl [0, 4, 5, 6] rfl)
                      · refine lv_aload_n hx hb dL_distance_146 rfl (lv_at hl 4 rfl) ?_
                        refine lv_iload_n hx hb dL_distance_147 rfl (lv_at hl 3 rfl) ?_
                        refine lv_iconst (v := nI 1) hx hb dL_distance_148 (by decide) ?_
                        refine m_isub hx hb (by omega) dL_distance_149 ?_
                        refine m_iald hx hb hE.k hP 0 rfl (by omega) (by omega) (rd_a hw (i := k / 5 - 1 + 1) (j := k % 5 - 1) (by omega) (by omega) (by omega) (by omega)) dL_distance_150 ?_
                        refine lv_iconst (v := nI 1) hx hb dL_distance_151 (by decide) ?_
                        refine m_iadd hx hb dL_distance_152 ?_
                        refine lv_goto (tgt := 158) hx hb dL_distance_153 (by decide) ?_
                        refine lv_istore (lv' := [(6, .int (nI ((lvD (fun i => nI (sgR R i)) (fun j => nI (sgR Q9 j)) (k / 5 - 1 + 1) (k % 5 - 1)) + 1))), (5, .int (nI (k % 5))), (4, .int (nI (k / 5))), (3, .int (nI k)), (2, .ref d9), (0, .int (nI (enR R))), (1, .int (nI (enR Q9)))]) hx hb dL_distance_158 hl (by decide) rfl (fun ls hl => ?_)
                        refine lv_aload_n hx hb dL_distance_160 rfl (lv_at hl 4 rfl) ?_
                        refine lv_iload_n hx hb dL_distance_161 rfl (lv_at hl 3 rfl) ?_
                        refine lv_iload hx hb dL_distance_162 (lv_at hl 0 rfl) ?_
                        have hv9 : (lvD (fun i => nI (sgR R i)) (fun j => nI (sgR Q9 j)) (k / 5 - 1 + 1) (k % 5 - 1)) + 1 = lvD (fun i => nI (sgR R i)) (fun j => nI (sgR Q9 j)) (k / 5 - 1 + 1) (k % 5 - 1 + 1) := by rw [← hv]; omega
                        rw [hv9]
                        refine m_iast hx hb hE.k hP hD hS 0 rfl (by omega) (by omega) dL_distance_164 (fun H locs hP hD hS => ?_)
                        have hP : va_P K.1 vwCl ([(d9, .inl (K.2.1 0, 25, .inl (upd w k (nI (lvD (fun i => nI (sgR R i)) (fun j => nI (sgR Q9 j)) (k / 5 - 1 + 1) (k % 5 - 1 + 1))))))]) H := hP
                        have hD : va_D A ([(d9, .inl (K.2.1 0, 25, .inl (upd w k (nI (lvD (fun i => nI (sgR R i)) (fun j => nI (sgR Q9 j)) (k / 5 - 1 + 1) (k % 5 - 1 + 1))))))]) := hD
                        refine lv_iinc (v := nI (k + 1)) (lv' := [(3, .int (nI (k + 1))), (6, .int (nI ((lvD (fun i => nI (sgR R i)) (fun j => nI (sgR Q9 j)) (k / 5 - 1 + 1) (k % 5 - 1)) + 1))), (5, .int (nI (k % 5))), (4, .int (nI (k / 5))), (2, .ref d9), (0, .int (nI (enR R))), (1, .int (nI (enR Q9)))]) hx hb dL_distance_165 hl (k := 3) rfl (m_inc _) (by decide) rfl (fun ls hl => ?_)
                        refine lv_goto (tgt := 7) hx hb dL_distance_168 (by decide) ?_
                        exact ih (k + 1) (upd w k (nI (lvD (fun i => nI (sgR R i)) (fun j => nI (sgR Q9 j)) (k / 5 - 1 + 1) (k % 5 - 1 + 1)))) _ _ ls (by omega) (by omega) (dw_up (P := fun t => t / 5 ≤ R.length ∧ t % 5 ≤ Q9.length) (f := fun t => lvD (fun i => nI (sgR R i)) (fun j => nI (sgR Q9 j)) (t / 5) (t % 5)) hw (fun _ => by rw [show k / 5 = k / 5 - 1 + 1 by omega, show k % 5 = k % 5 - 1 + 1 by omega]; rfl)) hP hD hS (lv_sub hl [0, 4, 5, 6] rfl)
        · refine lv_iload hx hb dL_distance_38 (lv_at hl 1 rfl) ?_
          refine lv_goto (tgt := 45) hx hb dL_distance_40 (by decide) ?_
          refine lv_istore (lv' := [(6, .int (nI (k / 5))), (5, .int (nI (k % 5))), (4, .int (nI (k / 5))), (3, .int (nI k)), (2, .ref d9), (0, .int (nI (enR R))), (1, .int (nI (enR Q9)))]) hx hb dL_distance_45 hl (by decide) rfl (fun ls hl => ?_)
          refine lv_iload hx hb dL_distance_47 (lv_at hl 2 rfl) ?_
          refine m_if_le (tgt := 160) hx hb (by omega) dL_distance_49 (by decide) (fun c_49 => ?_) (fun c_49 => ?_)
          · omega
          · refine lv_iload hx hb dL_distance_52 (lv_at hl 1 rfl) ?_
            refine m_if_le (tgt := 160) hx hb (by omega) dL_distance_54 (by decide) (fun c_54 => ?_) (fun c_54 => ?_)
            · refine lv_aload_n hx hb dL_distance_160 rfl (lv_at hl 4 rfl) ?_
              refine lv_iload_n hx hb dL_distance_161 rfl (lv_at hl 3 rfl) ?_
              refine lv_iload hx hb dL_distance_162 (lv_at hl 0 rfl) ?_
              refine m_iast hx hb hE.k hP hD hS 0 rfl (by omega) (by omega) dL_distance_164 (fun H locs hP hD hS => ?_)
              have hP : va_P K.1 vwCl ([(d9, .inl (K.2.1 0, 25, .inl (upd w k (nI (k / 5)))))]) H := hP
              have hD : va_D A ([(d9, .inl (K.2.1 0, 25, .inl (upd w k (nI (k / 5)))))]) := hD
              refine lv_iinc (v := nI (k + 1)) (lv' := [(3, .int (nI (k + 1))), (6, .int (nI (k / 5))), (5, .int (nI (k % 5))), (4, .int (nI (k / 5))), (2, .ref d9), (0, .int (nI (enR R))), (1, .int (nI (enR Q9)))]) hx hb dL_distance_165 hl (k := 3) rfl (m_inc _) (by decide) rfl (fun ls hl => ?_)
              refine lv_goto (tgt := 7) hx hb dL_distance_168 (by decide) ?_
              exact ih (k + 1) (upd w k (nI (k / 5))) _ _ ls (by omega) (by omega) (dw_up (P := fun t => t / 5 ≤ R.length ∧ t % 5 ≤ Q9.length) (f := fun t => lvD (fun i => nI (sgR R i)) (fun j => nI (sgR Q9 j)) (t / 5) (t % 5)) hw (fun _ => by rw [show k % 5 = 0 by omega, lvD_0])) hP hD hS (lv_sub hl [0, 4, 5, 6] rfl)
            · omega
      · refine lv_iload hx hb dL_distance_28 (lv_at hl 0 rfl) ?_
        refine lv_goto (tgt := 45) hx hb dL_distance_30 (by decide) ?_
        refine lv_istore (lv' := [(6, .int (nI (k % 5))), (5, .int (nI (k % 5))), (4, .int (nI (k / 5))), (3, .int (nI k)), (2, .ref d9), (0, .int (nI (enR R))), (1, .int (nI (enR Q9)))]) hx hb dL_distance_45 hl (by decide) rfl (fun ls hl => ?_)
        refine lv_iload hx hb dL_distance_47 (lv_at hl 2 rfl) ?_
        refine m_if_le (tgt := 160) hx hb (by omega) dL_distance_49 (by decide) (fun c_49 => ?_) (fun c_49 => ?_)
        · refine lv_aload_n hx hb dL_distance_160 rfl (lv_at hl 4 rfl) ?_
          refine lv_iload_n hx hb dL_distance_161 rfl (lv_at hl 3 rfl) ?_
          refine lv_iload hx hb dL_distance_162 (lv_at hl 0 rfl) ?_
          refine m_iast hx hb hE.k hP hD hS 0 rfl (by omega) (by omega) dL_distance_164 (fun H locs hP hD hS => ?_)
          have hP : va_P K.1 vwCl ([(d9, .inl (K.2.1 0, 25, .inl (upd w k (nI (k % 5)))))]) H := hP
          have hD : va_D A ([(d9, .inl (K.2.1 0, 25, .inl (upd w k (nI (k % 5)))))]) := hD
          refine lv_iinc (v := nI (k + 1)) (lv' := [(3, .int (nI (k + 1))), (6, .int (nI (k % 5))), (5, .int (nI (k % 5))), (4, .int (nI (k / 5))), (2, .ref d9), (0, .int (nI (enR R))), (1, .int (nI (enR Q9)))]) hx hb dL_distance_165 hl (k := 3) rfl (m_inc _) (by decide) rfl (fun ls hl => ?_)
          refine lv_goto (tgt := 7) hx hb dL_distance_168 (by decide) ?_
          exact ih (k + 1) (upd w k (nI (k % 5))) _ _ ls (by omega) (by omega) (dw_up (P := fun t => t / 5 ≤ R.length ∧ t % 5 ≤ Q9.length) (f := fun t => lvD (fun i => nI (sgR R i)) (fun j => nI (sgR Q9 j)) (t / 5) (t % 5)) hw (fun _ => by rw [show k / 5 = 0 by omega, lvD_i0])) hP hD hS (lv_sub hl [0, 4, 5, 6] rfl)
        · omega
