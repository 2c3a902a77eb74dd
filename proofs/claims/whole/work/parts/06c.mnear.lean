
def okQB (x y w : Int32) : Bool := okB x 10 && (okB y 6 && okB w 3)
theorem okQB_iff {x y w : Int32} : okQB x y w = true ↔ okQ x y w := by
  unfold okQB okQ
  rw [Bool.and_eq_true, Bool.and_eq_true, okB_iff, okB_iff, okB_iff]
theorem okP_t {z : Int32} (h : ¬ z < 0) : okB z 2147483648 = true := by
  obtain ⟨j, hj, rfl⟩ := nI_of h
  exact okB_t ⟨by rw [nI_toInt hj]; omega, by rw [nI_toInt hj]; omega⟩
theorem okP_f {z : Int32} (h : z < 0) : okB z 2147483648 = false := okB_f (okN_lo h)

set_option maxHeartbeats 4000000 in
set_option maxRecDepth 100000 in
theorem kX3_isAsked (l : Launch) (K : m_K) (A : Nat → Prop) (H0 : Heap) (o : Nat) (ad : Nat → Nat) (f : Nat → Nat → Int32) (d pr ta ti la : Int32) (hP : va_P K.1 vwCl (mW K o ad f d pr ta ti la) H0) (hD : va_D A (mW K o ad f d pr ta ti la)) (fb : Nat → Nat) (hfb : ∀ l, l < 6 → f 0 l = nI (fb l) ∧ fb l < 6) (rk : Nat → Nat) (hRK : RK fb rk) (hr5 : ∀ l, l < 6 → rk l < 6) (fm : Nat → Option Frm) (hfm : ∀ k, k < 540 → mF (f 5) (f 6) (f 7) k (fm k)) (on fw : Nat → Int32) (hon : ∀ g, g < 6 → f 1 g = on g) (hfw : ∀ g, g < 6 → f 2 g = fw g) (x y z w : Int32) : Met l yX3_isAsked wsX3_isAsked ({ frames := 3, cells := 0, slots := 0, locals := 78 } : Room) (m_Pc K A H0 [.ref o, .int x, .int y, .int z, .int w]) (va_Qi (fun r H1 => ∃ ta' ti', va_P K.1 vwCl (mW K o ad f d pr ta' ti' (nI (goL (okQB x y w) (okB z 2147483648) true))) H1 ∧ va_D A (mW K o ad f d pr ta' ti' (nI (goL (okQB x y w) (okB z 2147483648) true))) ∧ r = bI (goB (okQB x y w) (okB z 2147483648) true) ∧ (goB (okQB x y w) (okB z 2147483648) true = true → ta' = oI (tellS fb on fw fm (tN x) (tN y) z (tN w)) ∧ ∀ s, tellS fb on fw fm (tN x) (tN y) z (tN w) = some s → ti' = nI (s / 9 % 6))) m_B A) 0 0 A := by
  refine m_ofW (by decide) rfl (Nat.le_of_ble_eq_true rfl) ?_
  intro p e s m args below meth c ls hx hb hr hml hown hts hlk hnm hE hsz hS hl
  have hl : lv_has ls 6 [(0, .ref o), (1, .int x), (2, .int y), (3, .int z), (4, .int w)] := hl
  refine lv_aload_n hx hb dX3_isAsked_0 rfl (lv_at hl 0 rfl) ?_
  refine lv_iload_n hx hb dX3_isAsked_1 rfl (lv_at hl 1 rfl) ?_
  refine m_cSi (rest := [.ref o]) ⟨hx, hb, hml, hown, hts⟩ hE hS (fun _ h => h) (kX3_isKey l K A _ x) (va_cwS 1 hts gX3_isAsked_X3_isKey rfl rfl rfl (by decide +kernel) ⟨Nat.le_of_ble_eq_true rfl, Nat.le_of_ble_eq_true rfl⟩) rfl rfl hl.1 rfl (Nat.le_of_ble_eq_true rfl) dX3_isAsked_2 ⟨Nat.le_of_ble_eq_true rfl, Nat.le_of_ble_eq_true rfl⟩ (fun r H1 locs hp hS hk => ?_)
  obtain ⟨rfl, rfl⟩ := hp
  refine m_if_eq_b (tgt := 27) hx hb dX3_isAsked_5 (by decide) (fun c_5 => ?_) (fun c_5 => ?_)
  · refine lv_iconst (v := nI 0) hx hb dX3_isAsked_27 (by decide) ?_
    refine lv_iload_n hx hb dX3_isAsked_28 rfl (lv_at hl 3 rfl) ?_
    refine lv_if_lt (tgt := 36) hx hb dX3_isAsked_29 (by decide) (fun c_29 => ?_) (fun c_29 => ?_)
    · have ea : okQB x y w = false := by rw [okQB, c_5]; rfl
      have eb := okP_f c_29
      refine lv_iconst (v := nI 0) hx hb dX3_isAsked_36 (by decide) ?_
      refine lv_iconst (v := nI 1) hx hb dX3_isAsked_37 (by decide) ?_
      refine m_cVi (rest := []) ⟨hx, hb, hml, hown, hts⟩ hE hS (fun _ h => h) (kX3_goes l K A _ o ad f d pr ta ti la hP hD false false true) (cwV 3 hts gX3_isAsked_X3_goes rfl rfl rfl (by decide +kernel) ⟨Nat.le_of_ble_eq_true rfl, Nat.le_of_ble_eq_true rfl⟩) (va_recv hE.k hP (ci := 4) (q0 := 0) rfl rfl) rfl rfl hl.1 rfl (Nat.le_of_ble_eq_true rfl) dX3_isAsked_38 ⟨Nat.le_of_ble_eq_true rfl, Nat.le_of_ble_eq_true rfl⟩ (fun r H locs hp hS hk => ?_)
      obtain ⟨rfl, hP, hD⟩ := hp
      refine lv_istore (lv' := [(5, .int (bI false)), (0, .ref o), (1, .int x), (2, .int y), (3, .int z), (4, .int w)]) hx hb dX3_isAsked_41 hl (by decide) rfl (fun ls hl => ?_)
      refine lv_iload hx hb dX3_isAsked_43 (lv_at hl 0 rfl) ?_
      refine m_if_eq_b (tgt := 57) hx hb dX3_isAsked_45 (by decide) (fun c_45 => ?_) (fun c_45 => ?_)
      · refine lv_iload hx hb dX3_isAsked_57 (lv_at hl 0 rfl) ?_
        exact m_zret hx hb hr hlk hS (Nat.le_of_ble_eq_true rfl) (Nat.le_of_ble_eq_true rfl) dX3_isAsked_59 (⟨_, _, by rw [ea, eb]; exact hP, by rw [ea, eb]; exact hD, by rw [ea, eb]; rfl, fun z9 => by rw [ea, eb] at z9; exact absurd z9 (by decide)⟩)
      · exact absurd c_45 (by decide)
    · have ea : okQB x y w = false := by rw [okQB, c_5]; rfl
      have eb := okP_t c_29
      refine lv_iconst (v := nI 1) hx hb dX3_isAsked_32 (by decide) ?_
      refine lv_goto (tgt := 37) hx hb dX3_isAsked_33 (by decide) ?_
      refine lv_iconst (v := nI 1) hx hb dX3_isAsked_37 (by decide) ?_
      refine m_cVi (rest := []) ⟨hx, hb, hml, hown, hts⟩ hE hS (fun _ h => h) (kX3_goes l K A _ o ad f d pr ta ti la hP hD false true true) (cwV 3 hts gX3_isAsked_X3_goes rfl rfl rfl (by decide +kernel) ⟨Nat.le_of_ble_eq_true rfl, Nat.le_of_ble_eq_true rfl⟩) (va_recv hE.k hP (ci := 4) (q0 := 0) rfl rfl) rfl rfl hl.1 rfl (Nat.le_of_ble_eq_true rfl) dX3_isAsked_38 ⟨Nat.le_of_ble_eq_true rfl, Nat.le_of_ble_eq_true rfl⟩ (fun r H locs hp hS hk => ?_)
      obtain ⟨rfl, hP, hD⟩ := hp
      refine lv_istore (lv' := [(5, .int (bI false)), (0, .ref o), (1, .int x), (2, .int y), (3, .int z), (4, .int w)]) hx hb dX3_isAsked_41 hl (by decide) rfl (fun ls hl => ?_)
      refine lv_iload hx hb dX3_isAsked_43 (lv_at hl 0 rfl) ?_
      refine m_if_eq_b (tgt := 57) hx hb dX3_isAsked_45 (by decide) (fun c_45 => ?_) (fun c_45 => ?_)
      · refine lv_iload hx hb dX3_isAsked_57 (lv_at hl 0 rfl) ?_
        exact m_zret hx hb hr hlk hS (Nat.le_of_ble_eq_true rfl) (Nat.le_of_ble_eq_true rfl) dX3_isAsked_59 (⟨_, _, by rw [ea, eb]; exact hP, by rw [ea, eb]; exact hD, by rw [ea, eb]; rfl, fun z9 => by rw [ea, eb] at z9; exact absurd z9 (by decide)⟩)
      · exact absurd c_45 (by decide)
  · refine lv_iload_n hx hb dX3_isAsked_8 rfl (lv_at hl 2 rfl) ?_
    refine m_cSi (rest := [.ref o]) ⟨hx, hb, hml, hown, hts⟩ hE hS (fun _ h => h) (kX3_isLanguage l K A _ y) (va_cwS 1 hts gX3_isAsked_X3_isLanguage rfl rfl rfl (by decide +kernel) ⟨Nat.le_of_ble_eq_true rfl, Nat.le_of_ble_eq_true rfl⟩) rfl rfl hl.1 rfl (Nat.le_of_ble_eq_true rfl) dX3_isAsked_9 ⟨Nat.le_of_ble_eq_true rfl, Nat.le_of_ble_eq_true rfl⟩ (fun r H1 locs hp hS hk => ?_)
    obtain ⟨rfl, rfl⟩ := hp
    refine m_if_eq_b (tgt := 27) hx hb dX3_isAsked_12 (by decide) (fun c_12 => ?_) (fun c_12 => ?_)
    · refine lv_iconst (v := nI 0) hx hb dX3_isAsked_27 (by decide) ?_
      refine lv_iload_n hx hb dX3_isAsked_28 rfl (lv_at hl 3 rfl) ?_
      refine lv_if_lt (tgt := 36) hx hb dX3_isAsked_29 (by decide) (fun c_29 => ?_) (fun c_29 => ?_)
      · have ea : okQB x y w = false := by rw [okQB, c_5, c_12]; rfl
        have eb := okP_f c_29
        refine lv_iconst (v := nI 0) hx hb dX3_isAsked_36 (by decide) ?_
        refine lv_iconst (v := nI 1) hx hb dX3_isAsked_37 (by decide) ?_
        refine m_cVi (rest := []) ⟨hx, hb, hml, hown, hts⟩ hE hS (fun _ h => h) (kX3_goes l K A _ o ad f d pr ta ti la hP hD false false true) (cwV 3 hts gX3_isAsked_X3_goes rfl rfl rfl (by decide +kernel) ⟨Nat.le_of_ble_eq_true rfl, Nat.le_of_ble_eq_true rfl⟩) (va_recv hE.k hP (ci := 4) (q0 := 0) rfl rfl) rfl rfl hl.1 rfl (Nat.le_of_ble_eq_true rfl) dX3_isAsked_38 ⟨Nat.le_of_ble_eq_true rfl, Nat.le_of_ble_eq_true rfl⟩ (fun r H locs hp hS hk => ?_)
        obtain ⟨rfl, hP, hD⟩ := hp
        refine lv_istore (lv' := [(5, .int (bI false)), (0, .ref o), (1, .int x), (2, .int y), (3, .int z), (4, .int w)]) hx hb dX3_isAsked_41 hl (by decide) rfl (fun ls hl => ?_)
        refine lv_iload hx hb dX3_isAsked_43 (lv_at hl 0 rfl) ?_
        refine m_if_eq_b (tgt := 57) hx hb dX3_isAsked_45 (by decide) (fun c_45 => ?_) (fun c_45 => ?_)
        · refine lv_iload hx hb dX3_isAsked_57 (lv_at hl 0 rfl) ?_
          exact m_zret hx hb hr hlk hS (Nat.le_of_ble_eq_true rfl) (Nat.le_of_ble_eq_true rfl) dX3_isAsked_59 (⟨_, _, by rw [ea, eb]; exact hP, by rw [ea, eb]; exact hD, by rw [ea, eb]; rfl, fun z9 => by rw [ea, eb] at z9; exact absurd z9 (by decide)⟩)
        · exact absurd c_45 (by decide)
      · have ea : okQB x y w = false := by rw [okQB, c_5, c_12]; rfl
        have eb := okP_t c_29
        refine lv_iconst (v := nI 1) hx hb dX3_isAsked_32 (by decide) ?_
        refine lv_goto (tgt := 37) hx hb dX3_isAsked_33 (by decide) ?_
        refine lv_iconst (v := nI 1) hx hb dX3_isAsked_37 (by decide) ?_
        refine m_cVi (rest := []) ⟨hx, hb, hml, hown, hts⟩ hE hS (fun _ h => h) (kX3_goes l K A _ o ad f d pr ta ti la hP hD false true true) (cwV 3 hts gX3_isAsked_X3_goes rfl rfl rfl (by decide +kernel) ⟨Nat.le_of_ble_eq_true rfl, Nat.le_of_ble_eq_true rfl⟩) (va_recv hE.k hP (ci := 4) (q0 := 0) rfl rfl) rfl rfl hl.1 rfl (Nat.le_of_ble_eq_true rfl) dX3_isAsked_38 ⟨Nat.le_of_ble_eq_true rfl, Nat.le_of_ble_eq_true rfl⟩ (fun r H locs hp hS hk => ?_)
        obtain ⟨rfl, hP, hD⟩ := hp
        refine lv_istore (lv' := [(5, .int (bI false)), (0, .ref o), (1, .int x), (2, .int y), (3, .int z), (4, .int w)]) hx hb dX3_isAsked_41 hl (by decide) rfl (fun ls hl => ?_)
        refine lv_iload hx hb dX3_isAsked_43 (lv_at hl 0 rfl) ?_
        refine m_if_eq_b (tgt := 57) hx hb dX3_isAsked_45 (by decide) (fun c_45 => ?_) (fun c_45 => ?_)
        · refine lv_iload hx hb dX3_isAsked_57 (lv_at hl 0 rfl) ?_
          exact m_zret hx hb hr hlk hS (Nat.le_of_ble_eq_true rfl) (Nat.le_of_ble_eq_true rfl) dX3_isAsked_59 (⟨_, _, by rw [ea, eb]; exact hP, by rw [ea, eb]; exact hD, by rw [ea, eb]; rfl, fun z9 => by rw [ea, eb] at z9; exact absurd z9 (by decide)⟩)
        · exact absurd c_45 (by decide)
    · refine lv_iload hx hb dX3_isAsked_15 (lv_at hl 4 rfl) ?_
      refine m_cSi (rest := [.ref o]) ⟨hx, hb, hml, hown, hts⟩ hE hS (fun _ h => h) (kX3_isThird l K A _ w) (va_cwS 1 hts gX3_isAsked_X3_isThird rfl rfl rfl (by decide +kernel) ⟨Nat.le_of_ble_eq_true rfl, Nat.le_of_ble_eq_true rfl⟩) rfl rfl hl.1 rfl (Nat.le_of_ble_eq_true rfl) dX3_isAsked_17 ⟨Nat.le_of_ble_eq_true rfl, Nat.le_of_ble_eq_true rfl⟩ (fun r H1 locs hp hS hk => ?_)
      obtain ⟨rfl, rfl⟩ := hp
      refine m_if_eq_b (tgt := 27) hx hb dX3_isAsked_20 (by decide) (fun c_20 => ?_) (fun c_20 => ?_)
      · refine lv_iconst (v := nI 0) hx hb dX3_isAsked_27 (by decide) ?_
        refine lv_iload_n hx hb dX3_isAsked_28 rfl (lv_at hl 3 rfl) ?_
        refine lv_if_lt (tgt := 36) hx hb dX3_isAsked_29 (by decide) (fun c_29 => ?_) (fun c_29 => ?_)
        · have ea : okQB x y w = false := by rw [okQB, c_5, c_12, c_20]; rfl
          have eb := okP_f c_29
          refine lv_iconst (v := nI 0) hx hb dX3_isAsked_36 (by decide) ?_
          refine lv_iconst (v := nI 1) hx hb dX3_isAsked_37 (by decide) ?_
          refine m_cVi (rest := []) ⟨hx, hb, hml, hown, hts⟩ hE hS (fun _ h => h) (kX3_goes l K A _ o ad f d pr ta ti la hP hD false false true) (cwV 3 hts gX3_isAsked_X3_goes rfl rfl rfl (by decide +kernel) ⟨Nat.le_of_ble_eq_true rfl, Nat.le_of_ble_eq_true rfl⟩) (va_recv hE.k hP (ci := 4) (q0 := 0) rfl rfl) rfl rfl hl.1 rfl (Nat.le_of_ble_eq_true rfl) dX3_isAsked_38 ⟨Nat.le_of_ble_eq_true rfl, Nat.le_of_ble_eq_true rfl⟩ (fun r H locs hp hS hk => ?_)
          obtain ⟨rfl, hP, hD⟩ := hp
          refine lv_istore (lv' := [(5, .int (bI false)), (0, .ref o), (1, .int x), (2, .int y), (3, .int z), (4, .int w)]) hx hb dX3_isAsked_41 hl (by decide) rfl (fun ls hl => ?_)
          refine lv_iload hx hb dX3_isAsked_43 (lv_at hl 0 rfl) ?_
          refine m_if_eq_b (tgt := 57) hx hb dX3_isAsked_45 (by decide) (fun c_45 => ?_) (fun c_45 => ?_)
          · refine lv_iload hx hb dX3_isAsked_57 (lv_at hl 0 rfl) ?_
            exact m_zret hx hb hr hlk hS (Nat.le_of_ble_eq_true rfl) (Nat.le_of_ble_eq_true rfl) dX3_isAsked_59 (⟨_, _, by rw [ea, eb]; exact hP, by rw [ea, eb]; exact hD, by rw [ea, eb]; rfl, fun z9 => by rw [ea, eb] at z9; exact absurd z9 (by decide)⟩)
          · exact absurd c_45 (by decide)
        · have ea : okQB x y w = false := by rw [okQB, c_5, c_12, c_20]; rfl
          have eb := okP_t c_29
          refine lv_iconst (v := nI 1) hx hb dX3_isAsked_32 (by decide) ?_
          refine lv_goto (tgt := 37) hx hb dX3_isAsked_33 (by decide) ?_
          refine lv_iconst (v := nI 1) hx hb dX3_isAsked_37 (by decide) ?_
          refine m_cVi (rest := []) ⟨hx, hb, hml, hown, hts⟩ hE hS (fun _ h => h) (kX3_goes l K A _ o ad f d pr ta ti la hP hD false true true) (cwV 3 hts gX3_isAsked_X3_goes rfl rfl rfl (by decide +kernel) ⟨Nat.le_of_ble_eq_true rfl, Nat.le_of_ble_eq_true rfl⟩) (va_recv hE.k hP (ci := 4) (q0 := 0) rfl rfl) rfl rfl hl.1 rfl (Nat.le_of_ble_eq_true rfl) dX3_isAsked_38 ⟨Nat.le_of_ble_eq_true rfl, Nat.le_of_ble_eq_true rfl⟩ (fun r H locs hp hS hk => ?_)
          obtain ⟨rfl, hP, hD⟩ := hp
          refine lv_istore (lv' := [(5, .int (bI false)), (0, .ref o), (1, .int x), (2, .int y), (3, .int z), (4, .int w)]) hx hb dX3_isAsked_41 hl (by decide) rfl (fun ls hl => ?_)
          refine lv_iload hx hb dX3_isAsked_43 (lv_at hl 0 rfl) ?_
          refine m_if_eq_b (tgt := 57) hx hb dX3_isAsked_45 (by decide) (fun c_45 => ?_) (fun c_45 => ?_)
          · refine lv_iload hx hb dX3_isAsked_57 (lv_at hl 0 rfl) ?_
            exact m_zret hx hb hr hlk hS (Nat.le_of_ble_eq_true rfl) (Nat.le_of_ble_eq_true rfl) dX3_isAsked_59 (⟨_, _, by rw [ea, eb]; exact hP, by rw [ea, eb]; exact hD, by rw [ea, eb]; rfl, fun z9 => by rw [ea, eb] at z9; exact absurd z9 (by decide)⟩)
          · exact absurd c_45 (by decide)
      · refine lv_iconst (v := nI 1) hx hb dX3_isAsked_23 (by decide) ?_
        refine lv_goto (tgt := 28) hx hb dX3_isAsked_24 (by decide) ?_
        refine lv_iload_n hx hb dX3_isAsked_28 rfl (lv_at hl 3 rfl) ?_
        refine lv_if_lt (tgt := 36) hx hb dX3_isAsked_29 (by decide) (fun c_29 => ?_) (fun c_29 => ?_)
        · have ea : okQB x y w = true := by rw [okQB, c_5, c_12, c_20]; rfl
          have eb := okP_f c_29
          refine lv_iconst (v := nI 0) hx hb dX3_isAsked_36 (by decide) ?_
          refine lv_iconst (v := nI 1) hx hb dX3_isAsked_37 (by decide) ?_
          refine m_cVi (rest := []) ⟨hx, hb, hml, hown, hts⟩ hE hS (fun _ h => h) (kX3_goes l K A _ o ad f d pr ta ti la hP hD true false true) (cwV 3 hts gX3_isAsked_X3_goes rfl rfl rfl (by decide +kernel) ⟨Nat.le_of_ble_eq_true rfl, Nat.le_of_ble_eq_true rfl⟩) (va_recv hE.k hP (ci := 4) (q0 := 0) rfl rfl) rfl rfl hl.1 rfl (Nat.le_of_ble_eq_true rfl) dX3_isAsked_38 ⟨Nat.le_of_ble_eq_true rfl, Nat.le_of_ble_eq_true rfl⟩ (fun r H locs hp hS hk => ?_)
          obtain ⟨rfl, hP, hD⟩ := hp
          refine lv_istore (lv' := [(5, .int (bI false)), (0, .ref o), (1, .int x), (2, .int y), (3, .int z), (4, .int w)]) hx hb dX3_isAsked_41 hl (by decide) rfl (fun ls hl => ?_)
          refine lv_iload hx hb dX3_isAsked_43 (lv_at hl 0 rfl) ?_
          refine m_if_eq_b (tgt := 57) hx hb dX3_isAsked_45 (by decide) (fun c_45 => ?_) (fun c_45 => ?_)
          · refine lv_iload hx hb dX3_isAsked_57 (lv_at hl 0 rfl) ?_
            exact m_zret hx hb hr hlk hS (Nat.le_of_ble_eq_true rfl) (Nat.le_of_ble_eq_true rfl) dX3_isAsked_59 (⟨_, _, by rw [ea, eb]; exact hP, by rw [ea, eb]; exact hD, by rw [ea, eb]; rfl, fun z9 => by rw [ea, eb] at z9; exact absurd z9 (by decide)⟩)
          · exact absurd c_45 (by decide)
        · have ea : okQB x y w = true := by rw [okQB, c_5, c_12, c_20]; rfl
          have eb := okP_t c_29
          refine lv_iconst (v := nI 1) hx hb dX3_isAsked_32 (by decide) ?_
          refine lv_goto (tgt := 37) hx hb dX3_isAsked_33 (by decide) ?_
          refine lv_iconst (v := nI 1) hx hb dX3_isAsked_37 (by decide) ?_
          refine m_cVi (rest := []) ⟨hx, hb, hml, hown, hts⟩ hE hS (fun _ h => h) (kX3_goes l K A _ o ad f d pr ta ti la hP hD true true true) (cwV 3 hts gX3_isAsked_X3_goes rfl rfl rfl (by decide +kernel) ⟨Nat.le_of_ble_eq_true rfl, Nat.le_of_ble_eq_true rfl⟩) (va_recv hE.k hP (ci := 4) (q0 := 0) rfl rfl) rfl rfl hl.1 rfl (Nat.le_of_ble_eq_true rfl) dX3_isAsked_38 ⟨Nat.le_of_ble_eq_true rfl, Nat.le_of_ble_eq_true rfl⟩ (fun r H locs hp hS hk => ?_)
          obtain ⟨rfl, hP, hD⟩ := hp
          refine lv_istore (lv' := [(5, .int (bI true)), (0, .ref o), (1, .int x), (2, .int y), (3, .int z), (4, .int w)]) hx hb dX3_isAsked_41 hl (by decide) rfl (fun ls hl => ?_)
          refine lv_iload hx hb dX3_isAsked_43 (lv_at hl 0 rfl) ?_
          refine m_if_eq_b (tgt := 57) hx hb dX3_isAsked_45 (by decide) (fun c_45 => ?_) (fun c_45 => ?_)
          · exact absurd c_45 (by decide)
          · refine lv_aload_n hx hb dX3_isAsked_48 rfl (lv_at hl 1 rfl) ?_
            refine lv_iload_n hx hb dX3_isAsked_49 rfl (lv_at hl 2 rfl) ?_
            refine lv_iload_n hx hb dX3_isAsked_50 rfl (lv_at hl 3 rfl) ?_
            refine lv_iload_n hx hb dX3_isAsked_51 rfl (lv_at hl 4 rfl) ?_
            refine lv_iload hx hb dX3_isAsked_52 (lv_at hl 5 rfl) ?_
            have hk1 := okB_iff.mp c_5
            have hk2 := okB_iff.mp c_12
            have hk3 := okB_iff.mp c_20
            obtain ⟨k, hk_k, rfl⟩ := okN_of hk1 (by decide)
            obtain ⟨g, hk_g, rfl⟩ := okN_of hk2 (by decide)
            obtain ⟨u, hk_u, rfl⟩ := okN_of hk3 (by decide)
            have hl : lv_has ls 6 [(5, .int (bI true)), (0, .ref o), (1, .int (nI k)), (2, .int (nI g)), (3, .int z), (4, .int (nI u))] := hl
            refine m_cVv (rest := []) ⟨hx, hb, hml, hown, hts⟩ hE hS (fun _ h => h) (kX3_tells l K A _ o ad f d pr ta ti (nI (goL true true true)) hP hD fb hfb rk hRK hr5 fm hfm on fw hon hfw k g z u hk_k hk_g hk_u) (cwV 4 hts gX3_isAsked_X3_tells rfl rfl rfl (by decide +kernel) ⟨Nat.le_of_ble_eq_true rfl, Nat.le_of_ble_eq_true rfl⟩) (va_recv hE.k hP (ci := 4) (q0 := 0) rfl rfl) rfl rfl hl.1 rfl (Nat.le_of_ble_eq_true rfl) dX3_isAsked_54 ⟨Nat.le_of_ble_eq_true rfl, Nat.le_of_ble_eq_true rfl⟩ (fun H locs hp hS hk => ?_)
            obtain ⟨t9, hP, hD, htl⟩ := hp
            refine lv_iload hx hb dX3_isAsked_57 (lv_at hl 0 rfl) ?_
            exact m_zret hx hb hr hlk hS (Nat.le_of_ble_eq_true rfl) (Nat.le_of_ble_eq_true rfl) dX3_isAsked_59 (⟨_, _, by rw [ea, eb]; exact hP, by rw [ea, eb]; exact hD, by rw [ea, eb]; rfl, fun _ => ⟨by rw [tN_nI (by omega), tN_nI (by omega), tN_nI (by omega)]; rfl, by rw [tN_nI (by omega), tN_nI (by omega), tN_nI (by omega)]; exact fun s hs => congrArg nI (htl s hs).symm⟩⟩)

theorem row_cp {w1 w2 : Nat → Int32} {j : Nat} (h : ∀ t, t < j → w1 t = w2 t) : ∀ t, t < j + 1 → upd w1 j (w2 j) t = w2 t := fun t ht => by
  unfold upd
  split
  · rename_i e; rw [e]
  · exact h t (by omega)

set_option maxHeartbeats 4000000 in
set_option maxRecDepth 100000 in
theorem kX3_distance (l : Launch) (K : m_K) (A : Nat → Prop) (H0 : Heap) (o : Nat) (ad : Nat → Nat) (f : Nat → Nat → Int32) (w1 w2 : Nat → Int32) (d pr ta ti la : Int32) (hP : va_P K.1 vwCl (mW K o ad (va_up (va_up f 16 w1) 17 w2) d pr ta ti la) H0) (hD : va_D A (mW K o ad (va_up (va_up f 16 w1) 17 w2) d pr ta ti la)) (fm : Nat → Option Frm) (hfm : ∀ k, k < 540 → mF (f 5) (f 6) (f 7) k (fm k)) (ps : List Pr) (hps : mPs (f 10) (f 11) (f 12) (f 13) (f 14) ps) (p9 x : Nat) (P : Pr) (F : Frm) (hx9 : x < 540) (hPi : ps[p9]? = some P) (hF : fm x = some F) : Met l yX3_distance wsX3_distance ({ frames := 0, cells := 0, slots := 0, locals := 0 } : Room) (m_Pc K A H0 [.ref o, .int (nI p9), .int (nI x)]) (va_Qi (fun r H1 => r = nI (dst P.2.1.1 F.1) ∧ ∃ w1 w2, va_P K.1 vwCl (mW K o ad (va_up (va_up f 16 w1) 17 w2) d pr ta ti la) H1 ∧ va_D A (mW K o ad (va_up (va_up f 16 w1) 17 w2) d pr ta ti la)) m_B A) 0 0 A := by
  refine m_ofW (by decide) rfl (Nat.le_of_ble_eq_true rfl) ?_
  intro p e s m args below meth c ls hx hb hr hml hown hts hlk hnm hE hsz hS hl
  have hl : lv_has ls 6 [(0, .ref o), (1, .int (nI p9)), (2, .int (nI x))] := hl
  obtain ⟨hlen, hl8, hq9⟩ := hfm x hx9
  rw [hF] at hlen hl8
  have hlen : f 5 x = nI F.1.length := hlen
  have hl8 : F.1.length ≤ 8 := hl8
  have hsg := (hq9 F hF).2.2
  obtain ⟨-, ⟨ho1, ho8⟩, hn8, -, hol, -, hos, -⟩ := hps.2 p9 P hPi
  have hp20 : p9 < ps.length := (List.getElem?_eq_some_iff.mp hPi).1
  have hpl := hps.1
  have iX3 : ∀ w ∈ wsX30, w ∈ wsX3_distance := by decide +kernel
  have f22 := hts (.fieldLink RX3 22 "PhraseCatalogueModel" "lengths" "[I") (by decide +kernel)
  have f41 := hts (.fieldLink RX3 41 "PhraseCatalogueModel" "oldLengths" "[I") (by decide +kernel)
  have f56 := hts (.fieldLink RX3 56 "PhraseCatalogueModel" "row" "[I") (by decide +kernel)
  have f53 := hts (.fieldLink RX3 53 "PhraseCatalogueModel" "above" "[I") (by decide +kernel)
  have f29 := hts (.fieldLink RX3 29 "PhraseCatalogueModel" "signs" "[I") (by decide +kernel)
  have f47 := hts (.fieldLink RX3 47 "PhraseCatalogueModel" "olds" "[I") (by decide +kernel)
  refine lv_iconst (v := nI 0) hx hb dX3_distance_0 (by decide) ?_
  refine lv_istore_n (lv' := [(3, .int (nI 0)), (0, .ref o), (1, .int (nI p9)), (2, .int (nI x))]) hx hb dX3_distance_1 rfl hl (by decide) rfl (fun ls hl => ?_)
  refine (?_ : ∀ (n9a : Nat) (k : Nat) (w1 : Nat → Int32) (w2 : Nat → Int32) (H : Heap) (locs : List Loc) (ls : Array Slot), k ≤ F.1.length + 1 → F.1.length + 1 < k + n9a → (∀ t, t < k → w2 t = nI t) → va_P K.1 vwCl (mW K o ad (va_up (va_up f 16 w1) 17 w2) d pr ta ti la) H → va_D A (mW K o ad (va_up (va_up f 16 w1) 17 w2) d pr ta ti la) → va_S A s.heap H locs → lv_has ls 6 [(3, .int (nI k)), (0, .ref o), (1, .int (nI p9)), (2, .int (nI x))] → W p l e _ s m args below meth c H locs 0 0 _ (F0 m 2 ls [])) (F.1.length + 1 + 1) 0 w1 w2 _ _ ls (by omega) (by omega) (fun t ht => absurd ht (Nat.not_lt_zero t)) hP hD hS (lv_sub hl [0, 1, 2, 3] rfl)
  clear hS hl hP hD
  intro n9a
  induction n9a with
  | zero => intro k w1 w2 H locs ls hi9 hn9; exact absurd hn9 (by omega)
  | succ n9a iha =>
    intro k w1 w2 H locs ls hi9a hn9a hw hP hD hS hl
    refine lv_iload_n hx hb dX3_distance_2 rfl (lv_at hl 0 rfl) ?_
    refine lv_aload_n hx hb dX3_distance_3 rfl (lv_at hl 1 rfl) ?_
    refine va_get (D := K.1) (ci := 4) (v := .ref (ad 5)) (C := RX3) (T := TX3) (N := 21) hx hb hts iX3 hown hE.k hP 0 rfl rfl 5 (by decide) f22 (fun _ h9 => h9) rfl dX3_distance_4 ?_
    refine lv_iload_n hx hb dX3_distance_7 rfl (lv_at hl 3 rfl) ?_
    refine m_iald hx hb hE.k hP 5 rfl (by omega) (by omega) hlen dX3_distance_8 ?_
    refine m_icmp_gt (tgt := 25) hx hb (by omega) (by omega) dX3_distance_9 (by decide) (fun c_9 => ?_) (fun c_9 => ?_)
    · refine lv_iconst (v := nI 1) hx hb dX3_distance_25 (by decide) ?_
      refine lv_istore_n (lv' := [(3, .int (nI 1)), (0, .ref o), (1, .int (nI p9)), (2, .int (nI x))]) hx hb dX3_distance_26 rfl hl (by decide) rfl (fun ls hl => ?_)
      refine (?_ : ∀ (n9b : Nat) (j : Nat) (w1 : Nat → Int32) (w2 : Nat → Int32) (H : Heap) (locs : List Loc) (ls : Array Slot), j ≤ P.2.1.1.length → P.2.1.1.length < j + n9b → (∀ t, t ≤ F.1.length → w2 t = nI (lvD (fun i => P.2.1.1.getD i 0) (fun j => F.1.getD j 0) j t)) → va_P K.1 vwCl (mW K o ad (va_up (va_up f 16 w1) 17 w2) d pr ta ti la) H → va_D A (mW K o ad (va_up (va_up f 16 w1) 17 w2) d pr ta ti la) → va_S A s.heap H locs → lv_has ls 6 [(3, .int (nI (j + 1))), (0, .ref o), (1, .int (nI p9)), (2, .int (nI x))] → W p l e _ s m args below meth c H locs 0 0 _ (F0 m 27 ls [])) (P.2.1.1.length + 1) 0 w1 w2 _ _ ls (by omega) (by omega) (fun t ht => hw t (by omega)) hP hD hS (lv_sub hl [0, 1, 2, 3] rfl)
      clear hS hl hP hD
      intro n9b
      induction n9b with
      | zero => intro j w1 w2 H locs ls hi9 hn9; exact absurd hn9 (by omega)
      | succ n9b ihb =>
        intro j w1 w2 H locs ls hi9b hn9b hw hP hD hS hl
        refine lv_iload_n hx hb dX3_distance_27 rfl (lv_at hl 0 rfl) ?_
        refine lv_aload_n hx hb dX3_distance_28 rfl (lv_at hl 1 rfl) ?_
        refine va_get (D := K.1) (ci := 4) (v := .ref (ad 11)) (C := RX3) (T := TX3) (N := 21) hx hb hts iX3 hown hE.k hP 0 rfl rfl 11 (by decide) f41 (fun _ h9 => h9) rfl dX3_distance_29 ?_
        refine lv_iload_n hx hb dX3_distance_32 rfl (lv_at hl 2 rfl) ?_
        refine m_iald hx hb hE.k hP 11 rfl (by omega) (by omega) hol dX3_distance_33 ?_
        refine m_icmp_gt (tgt := 220) hx hb (by omega) (by omega) dX3_distance_34 (by decide) (fun c_34 => ?_) (fun c_34 => ?_)
        · refine lv_aload_n hx hb dX3_distance_220 rfl (lv_at hl 1 rfl) ?_
          refine va_get (D := K.1) (ci := 4) (v := .ref (ad 17)) (C := RX3) (T := TX3) (N := 21) hx hb hts iX3 hown hE.k hP 0 rfl rfl 17 (by decide) f56 (fun _ h9 => h9) rfl dX3_distance_221 ?_
          refine lv_aload_n hx hb dX3_distance_224 rfl (lv_at hl 1 rfl) ?_
          refine va_get (D := K.1) (ci := 4) (v := .ref (ad 5)) (C := RX3) (T := TX3) (N := 21) hx hb hts iX3 hown hE.k hP 0 rfl rfl 5 (by decide) f22 (fun _ h9 => h9) rfl dX3_distance_225 ?_
          refine lv_iload_n hx hb dX3_distance_228 rfl (lv_at hl 3 rfl) ?_
          refine m_iald hx hb hE.k hP 5 rfl (by omega) (by omega) hlen dX3_distance_229 ?_
          refine m_iald hx hb hE.k hP 16 rfl (by omega) (by omega) (hw _ (Nat.le_refl _)) dX3_distance_230 ?_
          exact m_iret hx hb hr hlk hS (Nat.le_of_ble_eq_true rfl) (Nat.le_of_ble_eq_true rfl) dX3_distance_231 (⟨by rw [dst, show P.2.1.1.length = j by omega], w1, w2, hP, hD⟩)
        · refine lv_iconst (v := nI 0) hx hb dX3_distance_37 (by decide) ?_
          refine lv_istore (lv' := [(4, .int (nI 0)), (3, .int (nI (j + 1))), (0, .ref o), (1, .int (nI p9)), (2, .int (nI x))]) hx hb dX3_distance_38 hl (by decide) rfl (fun ls hl => ?_)
          have hl := lv_sub (l' := [(3, .int (nI (j + 1))), (0, .ref o), (1, .int (nI p9)), (2, .int (nI x)), (4, .int (nI 0))]) hl [1, 2, 3, 4, 0] rfl
          refine (?_ : ∀ (n9c : Nat) (k : Nat) (w1 : Nat → Int32) (H : Heap) (locs : List Loc) (ls : Array Slot), k ≤ F.1.length + 1 → F.1.length + 1 < k + n9c → (∀ t, t < k → w1 t = w2 t) → va_P K.1 vwCl (mW K o ad (va_up (va_up f 16 w1) 17 w2) d pr ta ti la) H → va_D A (mW K o ad (va_up (va_up f 16 w1) 17 w2) d pr ta ti la) → va_S A s.heap H locs → lv_has ls 6 [(4, .int (nI k)), (3, .int (nI (j + 1))), (0, .ref o), (1, .int (nI p9)), (2, .int (nI x))] → W p l e _ s m args below meth c H locs 0 0 _ (F0 m 40 ls [])) (F.1.length + 1 + 1) 0 w1 _ _ ls (by omega) (by omega) (fun t ht => absurd ht (Nat.not_lt_zero t)) hP hD hS (lv_sub hl [4, 0, 1, 2, 3] rfl)
          clear hS hl hP hD
          intro n9c
          induction n9c with
          | zero => intro k w1 H locs ls hi9 hn9; exact absurd hn9 (by omega)
          | succ n9c ihc =>
            intro k w1 H locs ls hi9c hn9c hc9 hP hD hS hl
            refine lv_iload hx hb dX3_distance_40 (lv_at hl 0 rfl) ?_
            refine lv_aload_n hx hb dX3_distance_42 rfl (lv_at hl 2 rfl) ?_
            refine va_get (D := K.1) (ci := 4) (v := .ref (ad 5)) (C := RX3) (T := TX3) (N := 21) hx hb hts iX3 hown hE.k hP 0 rfl rfl 5 (by decide) f22 (fun _ h9 => h9) rfl dX3_distance_43 ?_
            refine lv_iload_n hx hb dX3_distance_46 rfl (lv_at hl 4 rfl) ?_
            refine m_iald hx hb hE.k hP 5 rfl (by omega) (by omega) hlen dX3_distance_47 ?_
            refine m_icmp_gt (tgt := 71) hx hb (by omega) (by omega) dX3_distance_48 (by decide) (fun c_48 => ?_) (fun c_48 => ?_)
            · refine lv_aload_n hx hb dX3_distance_71 rfl (lv_at hl 2 rfl) ?_
              refine va_get (D := K.1) (ci := 4) (v := .ref (ad 17)) (C := RX3) (T := TX3) (N := 21) hx hb hts iX3 hown hE.k hP 0 rfl rfl 17 (by decide) f56 (fun _ h9 => h9) rfl dX3_distance_72 ?_
              refine lv_iconst (v := nI 0) hx hb dX3_distance_75 (by decide) ?_
              refine lv_iload_n hx hb dX3_distance_76 rfl (lv_at hl 1 rfl) ?_
              refine m_iast hx hb hE.k hP hD hS 16 rfl (by omega) (by omega) dX3_distance_77 (fun H locs hP hD hS => ?_)
              have hP : va_P K.1 vwCl (mW K o ad (va_up (va_up f 16 w1) 17 (upd w2 0 (nI (j + 1)))) d pr ta ti la) H := hP
              have hD : va_D A (mW K o ad (va_up (va_up f 16 w1) 17 (upd w2 0 (nI (j + 1)))) d pr ta ti la) := hD
              refine lv_iconst (v := nI 1) hx hb dX3_distance_78 (by decide) ?_
              refine lv_istore (lv' := [(4, .int (nI 1)), (3, .int (nI (j + 1))), (0, .ref o), (1, .int (nI p9)), (2, .int (nI x))]) hx hb dX3_distance_79 hl (by decide) rfl (fun ls hl => ?_)
              have hl := lv_sub (l' := [(3, .int (nI (j + 1))), (0, .ref o), (1, .int (nI p9)), (2, .int (nI x)), (4, .int (nI 1))]) hl [1, 2, 3, 4, 0] rfl
              have hab : ∀ t, t ≤ F.1.length → w1 t = nI (lvD (fun i => P.2.1.1.getD i 0) (fun j => F.1.getD j 0) j t) := fun t ht => (hc9 t (by omega)).trans (hw t ht)
              refine (?_ : ∀ (n9d : Nat) (k : Nat) (w2 : Nat → Int32) (H : Heap) (locs : List Loc) (ls : Array Slot), k ≤ F.1.length → F.1.length < k + n9d → (∀ t, t ≤ k → w2 t = nI (lvD (fun i => P.2.1.1.getD i 0) (fun j => F.1.getD j 0) (j + 1) t)) → va_P K.1 vwCl (mW K o ad (va_up (va_up f 16 w1) 17 w2) d pr ta ti la) H → va_D A (mW K o ad (va_up (va_up f 16 w1) 17 w2) d pr ta ti la) → va_S A s.heap H locs → lv_has ls 6 [(4, .int (nI (k + 1))), (3, .int (nI (j + 1))), (0, .ref o), (1, .int (nI p9)), (2, .int (nI x))] → W p l e _ s m args below meth c H locs 0 0 _ (F0 m 81 ls [])) (F.1.length + 1) 0 (upd w2 0 (nI (j + 1))) _ _ ls (by omega) (by omega) (fun t ht => by rw [show t = 0 by omega, lvD_0]; rfl) hP hD hS (lv_sub hl [4, 0, 1, 2, 3] rfl)
              clear hS hl hP hD
              intro n9d
              induction n9d with
              | zero => intro k w2 H locs ls hi9 hn9; exact absurd hn9 (by omega)
              | succ n9d ihd =>
                intro k w2 H locs ls hi9d hn9d hw1 hP hD hS hl
                refine lv_iload hx hb dX3_distance_81 (lv_at hl 0 rfl) ?_
                refine lv_aload_n hx hb dX3_distance_83 rfl (lv_at hl 2 rfl) ?_
                refine va_get (D := K.1) (ci := 4) (v := .ref (ad 5)) (C := RX3) (T := TX3) (N := 21) hx hb hts iX3 hown hE.k hP 0 rfl rfl 5 (by decide) f22 (fun _ h9 => h9) rfl dX3_distance_84 ?_
                refine lv_iload_n hx hb dX3_distance_87 rfl (lv_at hl 4 rfl) ?_
                refine m_iald hx hb hE.k hP 5 rfl (by omega) (by omega) hlen dX3_distance_88 ?_
                refine m_icmp_gt (tgt := 214) hx hb (by omega) (by omega) dX3_distance_89 (by decide) (fun c_89 => ?_) (fun c_89 => ?_)
                · refine lv_iinc (v := nI ((j + 1) + 1)) (lv' := [(3, .int (nI ((j + 1) + 1))), (4, .int (nI (k + 1))), (0, .ref o), (1, .int (nI p9)), (2, .int (nI x))]) hx hb dX3_distance_214 hl (k := 1) rfl (m_inc _) (by decide) rfl (fun ls hl => ?_)
                  refine lv_goto (tgt := 27) hx hb dX3_distance_217 (by decide) ?_
                  exact ihb (j + 1) w1 w2 _ _ ls (by omega) (by omega) (fun t ht => hw1 t (by omega)) hP hD hS (lv_sub hl [0, 2, 3, 4] rfl)
                · refine lv_aload_n hx hb dX3_distance_92 rfl (lv_at hl 2 rfl) ?_
                  refine va_get (D := K.1) (ci := 4) (v := .ref (ad 16)) (C := RX3) (T := TX3) (N := 21) hx hb hts iX3 hown hE.k hP 0 rfl rfl 16 (by decide) f53 (fun _ h9 => h9) rfl dX3_distance_93 ?_
                  refine lv_iload hx hb dX3_distance_96 (lv_at hl 0 rfl) ?_
                  refine lv_iconst (v := nI 1) hx hb dX3_distance_98 (by decide) ?_
                  refine m_isub hx hb (by omega) dX3_distance_99 ?_
                  refine m_iald hx hb hE.k hP 15 rfl (by omega) (by omega) (hab k (by omega)) dX3_distance_100 ?_
                  refine lv_aload_n hx hb dX3_distance_101 rfl (lv_at hl 2 rfl) ?_
                  refine va_get (D := K.1) (ci := 4) (v := .ref (ad 7)) (C := RX3) (T := TX3) (N := 21) hx hb hts iX3 hown hE.k hP 0 rfl rfl 7 (by decide) f29 (fun _ h9 => h9) rfl dX3_distance_102 ?_
                  refine lv_bipush (v := nI 8) hx hb dX3_distance_105 (by decide) ?_
                  refine lv_iload_n hx hb dX3_distance_107 rfl (lv_at hl 4 rfl) ?_
                  refine m_imul hx hb dX3_distance_108 ?_
                  refine lv_iload hx hb dX3_distance_109 (lv_at hl 0 rfl) ?_
                  refine m_iadd hx hb dX3_distance_111 ?_
                  refine lv_iconst (v := nI 1) hx hb dX3_distance_112 (by decide) ?_
                  refine m_isub hx hb (by omega) dX3_distance_113 ?_
                  have h7 : f 7 (8 * x + (k + 1) - 1) = F.1.getD k 0 := by rw [show 8 * x + (k + 1) - 1 = 8 * x + k by omega]; exact hsg k (by omega)
                  refine m_iald hx hb hE.k hP 7 rfl (by omega) (by omega) h7 dX3_distance_114 ?_
                  refine lv_aload_n hx hb dX3_distance_115 rfl (lv_at hl 2 rfl) ?_
                  refine va_get (D := K.1) (ci := 4) (v := .ref (ad 13)) (C := RX3) (T := TX3) (N := 21) hx hb hts iX3 hown hE.k hP 0 rfl rfl 13 (by decide) f47 (fun _ h9 => h9) rfl dX3_distance_116 ?_
                  refine lv_bipush (v := nI 8) hx hb dX3_distance_119 (by decide) ?_
                  refine lv_iload_n hx hb dX3_distance_121 rfl (lv_at hl 3 rfl) ?_
                  refine m_imul hx hb dX3_distance_122 ?_
                  refine lv_iload_n hx hb dX3_distance_123 rfl (lv_at hl 1 rfl) ?_
                  refine m_iadd hx hb dX3_distance_124 ?_
                  refine lv_iconst (v := nI 1) hx hb dX3_distance_125 (by decide) ?_
                  refine m_isub hx hb (by omega) dX3_distance_126 ?_
                  have h13 : f 13 (8 * p9 + (j + 1) - 1) = P.2.1.1.getD j 0 := by rw [show 8 * p9 + (j + 1) - 1 = 8 * p9 + j by omega]; exact hos j (by omega)
                  refine m_iald hx hb hE.k hP 13 rfl (by omega) (by omega) h13 dX3_distance_127 ?_
                  refine lv_icmp_ne (tgt := 135) hx hb dX3_distance_128 (by decide) (fun c_128 => ?_) (fun c_128 => ?_)
                  · have b1 := lvD_le (fun i => P.2.1.1.getD i 0) (fun j => F.1.getD j 0) j k
                    have b2 := lvD_le (fun i => P.2.1.1.getD i 0) (fun j => F.1.getD j 0) j (k + 1)
                    have b3 := lvD_le (fun i => P.2.1.1.getD i 0) (fun j => F.1.getD j 0) (j + 1) k
                    have hv := lvD_n (x := (fun i => P.2.1.1.getD i 0)) (y := (fun j => F.1.getD j 0)) (i := j) (j := k) (fun z => c_128 z.symm)
                    refine lv_iconst (v := nI 1) hx hb dX3_distance_135 (by decide) ?_
                    refine m_iadd hx hb dX3_distance_136 ?_
                    refine lv_istore (lv' := [(5, .int (nI ((lvD (fun i => P.2.1.1.getD i 0) (fun j => F.1.getD j 0) j k) + 1))), (4, .int (nI (k + 1))), (3, .int (nI (j + 1))), (0, .ref o), (1, .int (nI p9)), (2, .int (nI x))]) hx hb dX3_distance_137 hl (by decide) rfl (fun ls hl => ?_)
                    refine lv_aload_n hx hb dX3_distance_139 rfl (lv_at hl 3 rfl) ?_
                    refine va_get (D := K.1) (ci := 4) (v := .ref (ad 16)) (C := RX3) (T := TX3) (N := 21) hx hb hts iX3 hown hE.k hP 0 rfl rfl 16 (by decide) f53 (fun _ h9 => h9) rfl dX3_distance_140 ?_
                    refine lv_iload hx hb dX3_distance_143 (lv_at hl 1 rfl) ?_
                    refine m_iald hx hb hE.k hP 15 rfl (by omega) (by omega) (hab (k + 1) (by omega)) dX3_distance_145 ?_
                    refine lv_iconst (v := nI 1) hx hb dX3_distance_146 (by decide) ?_
                    refine m_iadd hx hb dX3_distance_147 ?_
                    refine lv_iload hx hb dX3_distance_148 (lv_at hl 0 rfl) ?_
                    refine m_icmp_ge (tgt := 165) hx hb (by omega) (by omega) dX3_distance_150 (by decide) (fun c_150 => ?_) (fun c_150 => ?_)
                    · refine lv_iload hx hb dX3_distance_165 (lv_at hl 0 rfl) ?_
                      refine lv_istore (lv' := [(5, .int (nI ((lvD (fun i => P.2.1.1.getD i 0) (fun j => F.1.getD j 0) j k) + 1))), (4, .int (nI (k + 1))), (3, .int (nI (j + 1))), (0, .ref o), (1, .int (nI p9)), (2, .int (nI x))]) hx hb dX3_distance_167 hl (by decide) rfl (fun ls hl => ?_)
                      refine lv_aload_n hx hb dX3_distance_169 rfl (lv_at hl 3 rfl) ?_
                      refine va_get (D := K.1) (ci := 4) (v := .ref (ad 17)) (C := RX3) (T := TX3) (N := 21) hx hb hts iX3 hown hE.k hP 0 rfl rfl 17 (by decide) f56 (fun _ h9 => h9) rfl dX3_distance_170 ?_
                      refine lv_iload hx hb dX3_distance_173 (lv_at hl 1 rfl) ?_
                      refine lv_aload_n hx hb dX3_distance_175 rfl (lv_at hl 3 rfl) ?_
                      refine va_get (D := K.1) (ci := 4) (v := .ref (ad 17)) (C := RX3) (T := TX3) (N := 21) hx hb hts iX3 hown hE.k hP 0 rfl rfl 17 (by decide) f56 (fun _ h9 => h9) rfl dX3_distance_176 ?_
                      refine lv_iload hx hb dX3_distance_179 (lv_at hl 1 rfl) ?_
                      refine lv_iconst (v := nI 1) hx hb dX3_distance_181 (by decide) ?_
                      refine m_isub hx hb (by omega) dX3_distance_182 ?_
                      refine m_iald hx hb hE.k hP 16 rfl (by omega) (by omega) (hw1 k (Nat.le_refl _)) dX3_distance_183 ?_
                      refine lv_iconst (v := nI 1) hx hb dX3_distance_184 (by decide) ?_
                      refine m_iadd hx hb dX3_distance_185 ?_
                      refine lv_iload hx hb dX3_distance_186 (lv_at hl 0 rfl) ?_
                      refine m_icmp_ge (tgt := 205) hx hb (by omega) (by omega) dX3_distance_188 (by decide) (fun c_188 => ?_) (fun c_188 => ?_)
                      · refine lv_iload hx hb dX3_distance_205 (lv_at hl 0 rfl) ?_
                        have hv9 : (lvD (fun i => P.2.1.1.getD i 0) (fun j => F.1.getD j 0) j k) + 1 = lvD (fun i => P.2.1.1.getD i 0) (fun j => F.1.getD j 0) (j + 1) (k + 1) := by rw [← hv]; omega
                        rw [hv9]
                        refine m_iast hx hb hE.k hP hD hS 16 rfl (by omega) (by omega) dX3_distance_207 (fun H locs hP hD hS => ?_)
                        have hP : va_P K.1 vwCl (mW K o ad (va_up (va_up f 16 w1) 17 (upd w2 (k + 1) (nI (lvD (fun i => P.2.1.1.getD i 0) (fun j => F.1.getD j 0) (j + 1) (k + 1))))) d pr ta ti la) H := hP
                        have hD : va_D A (mW K o ad (va_up (va_up f 16 w1) 17 (upd w2 (k + 1) (nI (lvD (fun i => P.2.1.1.getD i 0) (fun j => F.1.getD j 0) (j + 1) (k + 1))))) d pr ta ti la) := hD
                        refine lv_iinc (v := nI ((k + 1) + 1)) (lv' := [(4, .int (nI ((k + 1) + 1))), (5, .int (nI ((lvD (fun i => P.2.1.1.getD i 0) (fun j => F.1.getD j 0) j k) + 1))), (3, .int (nI (j + 1))), (0, .ref o), (1, .int (nI p9)), (2, .int (nI x))]) hx hb dX3_distance_208 hl (k := 1) rfl (m_inc _) (by decide) rfl (fun ls hl => ?_)
                        refine lv_goto (tgt := 81) hx hb dX3_distance_211 (by decide) ?_
                        exact ihd (k + 1) (upd w2 (k + 1) (nI (lvD (fun i => P.2.1.1.getD i 0) (fun j => F.1.getD j 0) (j + 1) (k + 1)))) _ _ ls (by omega) (by omega) (fun t ht => row_up2 hw1 t ht) hP hD hS (lv_sub hl [0, 2, 3, 4, 5] rfl)
                      · refine lv_aload_n hx hb dX3_distance_191 rfl (lv_at hl 3 rfl) ?_
                        refine va_get (D := K.1) (ci := 4) (v := .ref (ad 17)) (C := RX3) (T := TX3) (N := 21) hx hb hts iX3 hown hE.k hP 0 rfl rfl 17 (by decide) f56 (fun _ h9 => h9) rfl dX3_distance_192 ?_
                        refine lv_iload hx hb dX3_distance_195 (lv_at hl 1 rfl) ?_
                        refine lv_iconst (v := nI 1) hx hb dX3_distance_197 (by decide) ?_
                        refine m_isub hx hb (by omega) dX3_distance_198 ?_
                        refine m_iald hx hb hE.k hP 16 rfl (by omega) (by omega) (hw1 k (Nat.le_refl _)) dX3_distance_199 ?_
                        refine lv_iconst (v := nI 1) hx hb dX3_distance_200 (by decide) ?_
                        refine m_iadd hx hb dX3_distance_201 ?_
                        refine lv_goto (tgt := 207) hx hb dX3_distance_202 (by decide) ?_
                        have hv9 : (lvD (fun i => P.2.1.1.getD i 0) (fun j => F.1.getD j 0) (j + 1) k) + 1 = lvD (fun i => P.2.1.1.getD i 0) (fun j => F.1.getD j 0) (j + 1) (k + 1) := by rw [← hv]; omega
                        rw [hv9]
                        refine m_iast hx hb hE.k hP hD hS 16 rfl (by omega) (by omega) dX3_distance_207 (fun H locs hP hD hS => ?_)
                        have hP : va_P K.1 vwCl (mW K o ad (va_up (va_up f 16 w1) 17 (upd w2 (k + 1) (nI (lvD (fun i => P.2.1.1.getD i 0) (fun j => F.1.getD j 0) (j + 1) (k + 1))))) d pr ta ti la) H := hP
                        have hD : va_D A (mW K o ad (va_up (va_up f 16 w1) 17 (upd w2 (k + 1) (nI (lvD (fun i => P.2.1.1.getD i 0) (fun j => F.1.getD j 0) (j + 1) (k + 1))))) d pr ta ti la) := hD
                        refine lv_iinc (v := nI ((k + 1) + 1)) (lv' := [(4, .int (nI ((k + 1) + 1))), (5, .int (nI ((lvD (fun i => P.2.1.1.getD i 0) (fun j => F.1.getD j 0) j k) + 1))), (3, .int (nI (j + 1))), (0, .ref o), (1, .int (nI p9)), (2, .int (nI x))]) hx hb dX3_distance_208 hl (k := 1) rfl (m_inc _) (by decide) rfl (fun ls hl => ?_)
                        refine lv_goto (tgt := 81) hx hb dX3_distance_211 (by decide) ?_
                        exact ihd (k + 1) (upd w2 (k + 1) (nI (lvD (fun i => P.2.1.1.getD i 0) (fun j => F.1.getD j 0) (j + 1) (k + 1)))) _ _ ls (by omega) (by omega) (fun t ht => row_up2 hw1 t ht) hP hD hS (lv_sub hl [0, 2, 3, 4, 5] rfl)
                    · refine lv_aload_n hx hb dX3_distance_153 rfl (lv_at hl 3 rfl) ?_
                      refine va_get (D := K.1) (ci := 4) (v := .ref (ad 16)) (C := RX3) (T := TX3) (N := 21) hx hb hts iX3 hown hE.k hP 0 rfl rfl 16 (by decide) f53 (fun _ h9 => h9) rfl dX3_distance_154 ?_
                      refine lv_iload hx hb dX3_distance_157 (lv_at hl 1 rfl) ?_
                      refine m_iald hx hb hE.k hP 15 rfl (by omega) (by omega) (hab (k + 1) (by omega)) dX3_distance_159 ?_
                      refine lv_iconst (v := nI 1) hx hb dX3_distance_160 (by decide) ?_
                      refine m_iadd hx hb dX3_distance_161 ?_
                      refine lv_goto (tgt := 167) hx hb dX3_distance_162 (by decide) ?_
                      refine lv_istore (lv' := [(5, .int (nI ((lvD (fun i => P.2.1.1.getD i 0) (fun j => F.1.getD j 0) j (k + 1)) + 1))), (4, .int (nI (k + 1))), (3, .int (nI (j + 1))), (0, .ref o), (1, .int (nI p9)), (2, .int (nI x))]) hx hb dX3_distance_167 hl (by decide) rfl (fun ls hl => ?_)
                      refine lv_aload_n hx hb dX3_distance_169 rfl (lv_at hl 3 rfl) ?_
                      refine va_get (D := K.1) (ci := 4) (v := .ref (ad 17)) (C := RX3) (T := TX3) (N := 21) hx hb hts iX3 hown hE.k hP 0 rfl rfl 17 (by decide) f56 (fun _ h9 => h9) rfl dX3_distance_170 ?_
                      refine lv_iload hx hb dX3_distance_173 (lv_at hl 1 rfl) ?_
                      refine lv_aload_n hx hb dX3_distance_175 rfl (lv_at hl 3 rfl) ?_
                      refine va_get (D := K.1) (ci := 4) (v := .ref (ad 17)) (C := RX3) (T := TX3) (N := 21) hx hb hts iX3 hown hE.k hP 0 rfl rfl 17 (by decide) f56 (fun _ h9 => h9) rfl dX3_distance_176 ?_
                      refine lv_iload hx hb dX3_distance_179 (lv_at hl 1 rfl) ?_
                      refine lv_iconst (v := nI 1) hx hb dX3_distance_181 (by decide) ?_
                      refine m_isub hx hb (by omega) dX3_distance_182 ?_
                      refine m_iald hx hb hE.k hP 16 rfl (by omega) (by omega) (hw1 k (Nat.le_refl _)) dX3_distance_183 ?_
                      refine lv_iconst (v := nI 1) hx hb dX3_distance_184 (by decide) ?_
                      refine m_iadd hx hb dX3_distance_185 ?_
                      refine lv_iload hx hb dX3_distance_186 (lv_at hl 0 rfl) ?_
                      refine m_icmp_ge (tgt := 205) hx hb (by omega) (by omega) dX3_distance_188 (by decide) (fun c_188 => ?_) (fun c_188 => ?_)
                      · refine lv_iload hx hb dX3_distance_205 (lv_at hl 0 rfl) ?_
                        have hv9 : (lvD (fun i => P.2.1.1.getD i 0) (fun j => F.1.getD j 0) j (k + 1)) + 1 = lvD (fun i => P.2.1.1.getD i 0) (fun j => F.1.getD j 0) (j + 1) (k + 1) := by rw [← hv]; omega
                        rw [hv9]
                        refine m_iast hx hb hE.k hP hD hS 16 rfl (by omega) (by omega) dX3_distance_207 (fun H locs hP hD hS => ?_)
                        have hP : va_P K.1 vwCl (mW K o ad (va_up (va_up f 16 w1) 17 (upd w2 (k + 1) (nI (lvD (fun i => P.2.1.1.getD i 0) (fun j => F.1.getD j 0) (j + 1) (k + 1))))) d pr ta ti la) H := hP
                        have hD : va_D A (mW K o ad (va_up (va_up f 16 w1) 17 (upd w2 (k + 1) (nI (lvD (fun i => P.2.1.1.getD i 0) (fun j => F.1.getD j 0) (j + 1) (k + 1))))) d pr ta ti la) := hD
                        refine lv_iinc (v := nI ((k + 1) + 1)) (lv' := [(4, .int (nI ((k + 1) + 1))), (5, .int (nI ((lvD (fun i => P.2.1.1.getD i 0) (fun j => F.1.getD j 0) j (k + 1)) + 1))), (3, .int (nI (j + 1))), (0, .ref o), (1, .int (nI p9)), (2, .int (nI x))]) hx hb dX3_distance_208 hl (k := 1) rfl (m_inc _) (by decide) rfl (fun ls hl => ?_)
                        refine lv_goto (tgt := 81) hx hb dX3_distance_211 (by decide) ?_
                        exact ihd (k + 1) (upd w2 (k + 1) (nI (lvD (fun i => P.2.1.1.getD i 0) (fun j => F.1.getD j 0) (j + 1) (k + 1)))) _ _ ls (by omega) (by omega) (fun t ht => row_up2 hw1 t ht) hP hD hS (lv_sub hl [0, 2, 3, 4, 5] rfl)
                      · refine lv_aload_n hx hb dX3_distance_191 rfl (lv_at hl 3 rfl) ?_
                        refine va_get (D := K.1) (ci := 4) (v := .ref (ad 17)) (C := RX3) (T := TX3) (N := 21) hx hb hts iX3 hown hE.k hP 0 rfl rfl 17 (by decide) f56 (fun _ h9 => h9) rfl dX3_distance_192 ?_
                        refine lv_iload hx hb dX3_distance_195 (lv_at hl 1 rfl) ?_
                        refine lv_iconst (v := nI 1) hx hb dX3_distance_197 (by decide) ?_
                        refine m_isub hx hb (by omega) dX3_distance_198 ?_
                        refine m_iald hx hb hE.k hP 16 rfl (by omega) (by omega) (hw1 k (Nat.le_refl _)) dX3_distance_199 ?_
                        refine lv_iconst (v := nI 1) hx hb dX3_distance_200 (by decide) ?_
                        refine m_iadd hx hb dX3_distance_201 ?_
                        refine lv_goto (tgt := 207) hx hb dX3_distance_202 (by decide) ?_
                        have hv9 : (lvD (fun i => P.2.1.1.getD i 0) (fun j => F.1.getD j 0) (j + 1) k) + 1 = lvD (fun i => P.2.1.1.getD i 0) (fun j => F.1.getD j 0) (j + 1) (k + 1) := by rw [← hv]; omega
                        rw [hv9]
                        refine m_iast hx hb hE.k hP hD hS 16 rfl (by omega) (by omega) dX3_distance_207 (fun H locs hP hD hS => ?_)
                        have hP : va_P K.1 vwCl (mW K o ad (va_up (va_up f 16 w1) 17 (upd w2 (k + 1) (nI (lvD (fun i => P.2.1.1.getD i 0) (fun j => F.1.getD j 0) (j + 1) (k + 1))))) d pr ta ti la) H := hP
                        have hD : va_D A (mW K o ad (va_up (va_up f 16 w1) 17 (upd w2 (k + 1) (nI (lvD (fun i => P.2.1.1.getD i 0) (fun j => F.1.getD j 0) (j + 1) (k + 1))))) d pr ta ti la) := hD
                        refine lv_iinc (v := nI ((k + 1) + 1)) (lv' := [(4, .int (nI ((k + 1) + 1))), (5, .int (nI ((lvD (fun i => P.2.1.1.getD i 0) (fun j => F.1.getD j 0) j (k + 1)) + 1))), (3, .int (nI (j + 1))), (0, .ref o), (1, .int (nI p9)), (2, .int (nI x))]) hx hb dX3_distance_208 hl (k := 1) rfl (m_inc _) (by decide) rfl (fun ls hl => ?_)
                        refine lv_goto (tgt := 81) hx hb dX3_distance_211 (by decide) ?_
                        exact ihd (k + 1) (upd w2 (k + 1) (nI (lvD (fun i => P.2.1.1.getD i 0) (fun j => F.1.getD j 0) (j + 1) (k + 1)))) _ _ ls (by omega) (by omega) (fun t ht => row_up2 hw1 t ht) hP hD hS (lv_sub hl [0, 2, 3, 4, 5] rfl)
                  · have b1 := lvD_le (fun i => P.2.1.1.getD i 0) (fun j => F.1.getD j 0) j k
                    have b2 := lvD_le (fun i => P.2.1.1.getD i 0) (fun j => F.1.getD j 0) j (k + 1)
                    have b3 := lvD_le (fun i => P.2.1.1.getD i 0) (fun j => F.1.getD j 0) (j + 1) k
                    have hv := lvD_y (x := (fun i => P.2.1.1.getD i 0)) (y := (fun j => F.1.getD j 0)) (i := j) (j := k) c_128.symm
                    refine lv_iconst (v := nI 0) hx hb dX3_distance_131 (by decide) ?_
                    refine lv_goto (tgt := 136) hx hb dX3_distance_132 (by decide) ?_
                    refine m_iadd hx hb dX3_distance_136 ?_
                    refine lv_istore (lv' := [(5, .int (nI ((lvD (fun i => P.2.1.1.getD i 0) (fun j => F.1.getD j 0) j k) + 0))), (4, .int (nI (k + 1))), (3, .int (nI (j + 1))), (0, .ref o), (1, .int (nI p9)), (2, .int (nI x))]) hx hb dX3_distance_137 hl (by decide) rfl (fun ls hl => ?_)
                    refine lv_aload_n hx hb dX3_distance_139 rfl (lv_at hl 3 rfl) ?_
                    refine va_get (D := K.1) (ci := 4) (v := .ref (ad 16)) (C := RX3) (T := TX3) (N := 21) hx hb hts iX3 hown hE.k hP 0 rfl rfl 16 (by decide) f53 (fun _ h9 => h9) rfl dX3_distance_140 ?_
                    refine lv_iload hx hb dX3_distance_143 (lv_at hl 1 rfl) ?_
                    refine m_iald hx hb hE.k hP 15 rfl (by omega) (by omega) (hab (k + 1) (by omega)) dX3_distance_145 ?_
                    refine lv_iconst (v := nI 1) hx hb dX3_distance_146 (by decide) ?_
                    refine m_iadd hx hb dX3_distance_147 ?_
                    refine lv_iload hx hb dX3_distance_148 (lv_at hl 0 rfl) ?_
                    refine m_icmp_ge (tgt := 165) hx hb (by omega) (by omega) dX3_distance_150 (by decide) (fun c_150 => ?_) (fun c_150 => ?_)
                    · refine lv_iload hx hb dX3_distance_165 (lv_at hl 0 rfl) ?_
                      refine lv_istore (lv' := [(5, .int (nI ((lvD (fun i => P.2.1.1.getD i 0) (fun j => F.1.getD j 0) j k) + 0))), (4, .int (nI (k + 1))), (3, .int (nI (j + 1))), (0, .ref o), (1, .int (nI p9)), (2, .int (nI x))]) hx hb dX3_distance_167 hl (by decide) rfl (fun ls hl => ?_)
                      refine lv_aload_n hx hb dX3_distance_169 rfl (lv_at hl 3 rfl) ?_
                      refine va_get (D := K.1) (ci := 4) (v := .ref (ad 17)) (C := RX3) (T := TX3) (N := 21) hx hb hts iX3 hown hE.k hP 0 rfl rfl 17 (by decide) f56 (fun _ h9 => h9) rfl dX3_distance_170 ?_
                      refine lv_iload hx hb dX3_distance_173 (lv_at hl 1 rfl) ?_
                      refine lv_aload_n hx hb dX3_distance_175 rfl (lv_at hl 3 rfl) ?_
                      refine va_get (D := K.1) (ci := 4) (v := .ref (ad 17)) (C := RX3) (T := TX3) (N := 21) hx hb hts iX3 hown hE.k hP 0 rfl rfl 17 (by decide) f56 (fun _ h9 => h9) rfl dX3_distance_176 ?_
                      refine lv_iload hx hb dX3_distance_179 (lv_at hl 1 rfl) ?_
                      refine lv_iconst (v := nI 1) hx hb dX3_distance_181 (by decide) ?_
                      refine m_isub hx hb (by omega) dX3_distance_182 ?_
                      refine m_iald hx hb hE.k hP 16 rfl (by omega) (by omega) (hw1 k (Nat.le_refl _)) dX3_distance_183 ?_
                      refine lv_iconst (v := nI 1) hx hb dX3_distance_184 (by decide) ?_
                      refine m_iadd hx hb dX3_distance_185 ?_
                      refine lv_iload hx hb dX3_distance_186 (lv_at hl 0 rfl) ?_
                      refine m_icmp_ge (tgt := 205) hx hb (by omega) (by omega) dX3_distance_188 (by decide) (fun c_188 => ?_) (fun c_188 => ?_)
                      · refine lv_iload hx hb dX3_distance_205 (lv_at hl 0 rfl) ?_
                        have hv9 : (lvD (fun i => P.2.1.1.getD i 0) (fun j => F.1.getD j 0) j k) + 0 = lvD (fun i => P.2.1.1.getD i 0) (fun j => F.1.getD j 0) (j + 1) (k + 1) := by rw [← hv]; omega
                        rw [hv9]
                        refine m_iast hx hb hE.k hP hD hS 16 rfl (by omega) (by omega) dX3_distance_207 (fun H locs hP hD hS => ?_)
                        have hP : va_P K.1 vwCl (mW K o ad (va_up (va_up f 16 w1) 17 (upd w2 (k + 1) (nI (lvD (fun i => P.2.1.1.getD i 0) (fun j => F.1.getD j 0) (j + 1) (k + 1))))) d pr ta ti la) H := hP
                        have hD : va_D A (mW K o ad (va_up (va_up f 16 w1) 17 (upd w2 (k + 1) (nI (lvD (fun i => P.2.1.1.getD i 0) (fun j => F.1.getD j 0) (j + 1) (k + 1))))) d pr ta ti la) := hD
                        refine lv_iinc (v := nI ((k + 1) + 1)) (lv' := [(4, .int (nI ((k + 1) + 1))), (5, .int (nI ((lvD (fun i => P.2.1.1.getD i 0) (fun j => F.1.getD j 0) j k) + 0))), (3, .int (nI (j + 1))), (0, .ref o), (1, .int (nI p9)), (2, .int (nI x))]) hx hb dX3_distance_208 hl (k := 1) rfl (m_inc _) (by decide) rfl (fun ls hl => ?_)
                        refine lv_goto (tgt := 81) hx hb dX3_distance_211 (by decide) ?_
                        exact ihd (k + 1) (upd w2 (k + 1) (nI (lvD (fun i => P.2.1.1.getD i 0) (fun j => F.1.getD j 0) (j + 1) (k + 1)))) _ _ ls (by omega) (by omega) (fun t ht => row_up2 hw1 t ht) hP hD hS (lv_sub hl [0, 2, 3, 4, 5] rfl)
                      · refine lv_aload_n hx hb dX3_distance_191 rfl (lv_at hl 3 rfl) ?_
                        refine va_get (D := K.1) (ci := 4) (v := .ref (ad 17)) (C := RX3) (T := TX3) (N := 21) hx hb hts iX3 hown hE.k hP 0 rfl rfl 17 (by decide) f56 (fun _ h9 => h9) rfl dX3_distance_192 ?_
                        refine lv_iload hx hb dX3_distance_195 (lv_at hl 1 rfl) ?_
                        refine lv_iconst (v := nI 1) hx hb dX3_distance_197 (by decide) ?_
                        refine m_isub hx hb (by omega) dX3_distance_198 ?_
                        refine m_iald hx hb hE.k hP 16 rfl (by omega) (by omega) (hw1 k (Nat.le_refl _)) dX3_distance_199 ?_
                        refine lv_iconst (v := nI 1) hx hb dX3_distance_200 (by decide) ?_
                        refine m_iadd hx hb dX3_distance_201 ?_
                        refine lv_goto (tgt := 207) hx hb dX3_distance_202 (by decide) ?_
                        have hv9 : (lvD (fun i => P.2.1.1.getD i 0) (fun j => F.1.getD j 0) (j + 1) k) + 1 = lvD (fun i => P.2.1.1.getD i 0) (fun j => F.1.getD j 0) (j + 1) (k + 1) := by rw [← hv]; omega
                        rw [hv9]
                        refine m_iast hx hb hE.k hP hD hS 16 rfl (by omega) (by omega) dX3_distance_207 (fun H locs hP hD hS => ?_)
                        have hP : va_P K.1 vwCl (mW K o ad (va_up (va_up f 16 w1) 17 (upd w2 (k + 1) (nI (lvD (fun i => P.2.1.1.getD i 0) (fun j => F.1.getD j 0) (j + 1) (k + 1))))) d pr ta ti la) H := hP
                        have hD : va_D A (mW K o ad (va_up (va_up f 16 w1) 17 (upd w2 (k + 1) (nI (lvD (fun i => P.2.1.1.getD i 0) (fun j => F.1.getD j 0) (j + 1) (k + 1))))) d pr ta ti la) := hD
                        refine lv_iinc (v := nI ((k + 1) + 1)) (lv' := [(4, .int (nI ((k + 1) + 1))), (5, .int (nI ((lvD (fun i => P.2.1.1.getD i 0) (fun j => F.1.getD j 0) j k) + 0))), (3, .int (nI (j + 1))), (0, .ref o), (1, .int (nI p9)), (2, .int (nI x))]) hx hb dX3_distance_208 hl (k := 1) rfl (m_inc _) (by decide) rfl (fun ls hl => ?_)
                        refine lv_goto (tgt := 81) hx hb dX3_distance_211 (by decide) ?_
                        exact ihd (k + 1) (upd w2 (k + 1) (nI (lvD (fun i => P.2.1.1.getD i 0) (fun j => F.1.getD j 0) (j + 1) (k + 1)))) _ _ ls (by omega) (by omega) (fun t ht => row_up2 hw1 t ht) hP hD hS (lv_sub hl [0, 2, 3, 4, 5] rfl)
                    · refine lv_aload_n hx hb dX3_distance_153 rfl (lv_at hl 3 rfl) ?_
                      refine va_get (D := K.1) (ci := 4) (v := .ref (ad 16)) (C := RX3) (T := TX3) (N := 21) hx hb hts iX3 hown hE.k hP 0 rfl rfl 16 (by decide) f53 (fun _ h9 => h9) rfl dX3_distance_154 ?_
                      refine lv_iload hx hb dX3_distance_157 (lv_at hl 1 rfl) ?_
                      refine m_iald hx hb hE.k hP 15 rfl (by omega) (by omega) (hab (k + 1) (by omega)) dX3_distance_159 ?_
                      refine lv_iconst (v := nI 1) hx hb dX3_distance_160 (by decide) ?_
                      refine m_iadd hx hb dX3_distance_161 ?_
                      refine lv_goto (tgt := 167) hx hb dX3_distance_162 (by decide) ?_
                      refine lv_istore (lv' := [(5, .int (nI ((lvD (fun i => P.2.1.1.getD i 0) (fun j => F.1.getD j 0) j (k + 1)) + 1))), (4, .int (nI (k + 1))), (3, .int (nI (j + 1))), (0, .ref o), (1, .int (nI p9)), (2, .int (nI x))]) hx hb dX3_distance_167 hl (by decide) rfl (fun ls hl => ?_)
                      refine lv_aload_n hx hb dX3_distance_169 rfl (lv_at hl 3 rfl) ?_
                      refine va_get (D := K.1) (ci := 4) (v := .ref (ad 17)) (C := RX3) (T := TX3) (N := 21) hx hb hts iX3 hown hE.k hP 0 rfl rfl 17 (by decide) f56 (fun _ h9 => h9) rfl dX3_distance_170 ?_
                      refine lv_iload hx hb dX3_distance_173 (lv_at hl 1 rfl) ?_
                      refine lv_aload_n hx hb dX3_distance_175 rfl (lv_at hl 3 rfl) ?_
                      refine va_get (D := K.1) (ci := 4) (v := .ref (ad 17)) (C := RX3) (T := TX3) (N := 21) hx hb hts iX3 hown hE.k hP 0 rfl rfl 17 (by decide) f56 (fun _ h9 => h9) rfl dX3_distance_176 ?_
                      refine lv_iload hx hb dX3_distance_179 (lv_at hl 1 rfl) ?_
                      refine lv_iconst (v := nI 1) hx hb dX3_distance_181 (by decide) ?_
                      refine m_isub hx hb (by omega) dX3_distance_182 ?_
                      refine m_iald hx hb hE.k hP 16 rfl (by omega) (by omega) (hw1 k (Nat.le_refl _)) dX3_distance_183 ?_
                      refine lv_iconst (v := nI 1) hx hb dX3_distance_184 (by decide) ?_
                      refine m_iadd hx hb dX3_distance_185 ?_
                      refine lv_iload hx hb dX3_distance_186 (lv_at hl 0 rfl) ?_
                      refine m_icmp_ge (tgt := 205) hx hb (by omega) (by omega) dX3_distance_188 (by decide) (fun c_188 => ?_) (fun c_188 => ?_)
                      · refine lv_iload hx hb dX3_distance_205 (lv_at hl 0 rfl) ?_
                        have hv9 : (lvD (fun i => P.2.1.1.getD i 0) (fun j => F.1.getD j 0) j (k + 1)) + 1 = lvD (fun i => P.2.1.1.getD i 0) (fun j => F.1.getD j 0) (j + 1) (k + 1) := by rw [← hv]; omega
                        rw [hv9]
                        refine m_iast hx hb hE.k hP hD hS 16 rfl (by omega) (by omega) dX3_distance_207 (fun H locs hP hD hS => ?_)
                        have hP : va_P K.1 vwCl (mW K o ad (va_up (va_up f 16 w1) 17 (upd w2 (k + 1) (nI (lvD (fun i => P.2.1.1.getD i 0) (fun j => F.1.getD j 0) (j + 1) (k + 1))))) d pr ta ti la) H := hP
                        have hD : va_D A (mW K o ad (va_up (va_up f 16 w1) 17 (upd w2 (k + 1) (nI (lvD (fun i => P.2.1.1.getD i 0) (fun j => F.1.getD j 0) (j + 1) (k + 1))))) d pr ta ti la) := hD
                        refine lv_iinc (v := nI ((k + 1) + 1)) (lv' := [(4, .int (nI ((k + 1) + 1))), (5, .int (nI ((lvD (fun i => P.2.1.1.getD i 0) (fun j => F.1.getD j 0) j (k + 1)) + 1))), (3, .int (nI (j + 1))), (0, .ref o), (1, .int (nI p9)), (2, .int (nI x))]) hx hb dX3_distance_208 hl (k := 1) rfl (m_inc _) (by decide) rfl (fun ls hl => ?_)
                        refine lv_goto (tgt := 81) hx hb dX3_distance_211 (by decide) ?_
                        exact ihd (k + 1) (upd w2 (k + 1) (nI (lvD (fun i => P.2.1.1.getD i 0) (fun j => F.1.getD j 0) (j + 1) (k + 1)))) _ _ ls (by omega) (by omega) (fun t ht => row_up2 hw1 t ht) hP hD hS (lv_sub hl [0, 2, 3, 4, 5] rfl)
                      · refine lv_aload_n hx hb dX3_distance_191 rfl (lv_at hl 3 rfl) ?_
                        refine va_get (D := K.1) (ci := 4) (v := .ref (ad 17)) (C := RX3) (T := TX3) (N := 21) hx hb hts iX3 hown hE.k hP 0 rfl rfl 17 (by decide) f56 (fun _ h9 => h9) rfl dX3_distance_192 ?_
                        refine lv_iload hx hb dX3_distance_195 (lv_at hl 1 rfl) ?_
                        refine lv_iconst (v := nI 1) hx hb dX3_distance_197 (by decide) ?_
                        refine m_isub hx hb (by omega) dX3_distance_198 ?_
                        refine m_iald hx hb hE.k hP 16 rfl (by omega) (by omega) (hw1 k (Nat.le_refl _)) dX3_distance_199 ?_
                        refine lv_iconst (v := nI 1) hx hb dX3_distance_200 (by decide) ?_
                        refine m_iadd hx hb dX3_distance_201 ?_
                        refine lv_goto (tgt := 207) hx hb dX3_distance_202 (by decide) ?_
                        have hv9 : (lvD (fun i => P.2.1.1.getD i 0) (fun j => F.1.getD j 0) (j + 1) k) + 1 = lvD (fun i => P.2.1.1.getD i 0) (fun j => F.1.getD j 0) (j + 1) (k + 1) := by rw [← hv]; omega
                        rw [hv9]
                        refine m_iast hx hb hE.k hP hD hS 16 rfl (by omega) (by omega) dX3_distance_207 (fun H locs hP hD hS => ?_)
                        have hP : va_P K.1 vwCl (mW K o ad (va_up (va_up f 16 w1) 17 (upd w2 (k + 1) (nI (lvD (fun i => P.2.1.1.getD i 0) (fun j => F.1.getD j 0) (j + 1) (k + 1))))) d pr ta ti la) H := hP
                        have hD : va_D A (mW K o ad (va_up (va_up f 16 w1) 17 (upd w2 (k + 1) (nI (lvD (fun i => P.2.1.1.getD i 0) (fun j => F.1.getD j 0) (j + 1) (k + 1))))) d pr ta ti la) := hD
                        refine lv_iinc (v := nI ((k + 1) + 1)) (lv' := [(4, .int (nI ((k + 1) + 1))), (5, .int (nI ((lvD (fun i => P.2.1.1.getD i 0) (fun j => F.1.getD j 0) j (k + 1)) + 1))), (3, .int (nI (j + 1))), (0, .ref o), (1, .int (nI p9)), (2, .int (nI x))]) hx hb dX3_distance_208 hl (k := 1) rfl (m_inc _) (by decide) rfl (fun ls hl => ?_)
                        refine lv_goto (tgt := 81) hx hb dX3_distance_211 (by decide) ?_
                        exact ihd (k + 1) (upd w2 (k + 1) (nI (lvD (fun i => P.2.1.1.getD i 0) (fun j => F.1.getD j 0) (j + 1) (k + 1)))) _ _ ls (by omega) (by omega) (fun t ht => row_up2 hw1 t ht) hP hD hS (lv_sub hl [0, 2, 3, 4, 5] rfl)
            · refine lv_aload_n hx hb dX3_distance_51 rfl (lv_at hl 2 rfl) ?_
              refine va_get (D := K.1) (ci := 4) (v := .ref (ad 16)) (C := RX3) (T := TX3) (N := 21) hx hb hts iX3 hown hE.k hP 0 rfl rfl 16 (by decide) f53 (fun _ h9 => h9) rfl dX3_distance_52 ?_
              refine lv_iload hx hb dX3_distance_55 (lv_at hl 0 rfl) ?_
              refine lv_aload_n hx hb dX3_distance_57 rfl (lv_at hl 2 rfl) ?_
              refine va_get (D := K.1) (ci := 4) (v := .ref (ad 17)) (C := RX3) (T := TX3) (N := 21) hx hb hts iX3 hown hE.k hP 0 rfl rfl 17 (by decide) f56 (fun _ h9 => h9) rfl dX3_distance_58 ?_
              refine lv_iload hx hb dX3_distance_61 (lv_at hl 0 rfl) ?_
              refine m_iald hx hb hE.k hP 16 rfl (by omega) (by omega) rfl dX3_distance_63 ?_
              refine m_iast hx hb hE.k hP hD hS 15 rfl (by omega) (by omega) dX3_distance_64 (fun H locs hP hD hS => ?_)
              have hP : va_P K.1 vwCl (mW K o ad (va_up (va_up f 16 (upd w1 k (w2 k))) 17 w2) d pr ta ti la) H := hP
              have hD : va_D A (mW K o ad (va_up (va_up f 16 (upd w1 k (w2 k))) 17 w2) d pr ta ti la) := hD
              refine lv_iinc (v := nI (k + 1)) (lv' := [(4, .int (nI (k + 1))), (3, .int (nI (j + 1))), (0, .ref o), (1, .int (nI p9)), (2, .int (nI x))]) hx hb dX3_distance_65 hl (k := 0) rfl (m_inc _) (by decide) rfl (fun ls hl => ?_)
              refine lv_goto (tgt := 40) hx hb dX3_distance_68 (by decide) ?_
              exact ihc (k + 1) (upd w1 k (w2 k)) _ _ ls (by omega) (by omega) (fun t ht => row_cp hc9 t ht) hP hD hS (lv_sub hl [0, 1, 2, 3, 4] rfl)
    · refine lv_aload_n hx hb dX3_distance_12 rfl (lv_at hl 1 rfl) ?_
      refine va_get (D := K.1) (ci := 4) (v := .ref (ad 17)) (C := RX3) (T := TX3) (N := 21) hx hb hts iX3 hown hE.k hP 0 rfl rfl 17 (by decide) f56 (fun _ h9 => h9) rfl dX3_distance_13 ?_
      refine lv_iload_n hx hb dX3_distance_16 rfl (lv_at hl 0 rfl) ?_
      refine lv_iload_n hx hb dX3_distance_17 rfl (lv_at hl 0 rfl) ?_
      refine m_iast hx hb hE.k hP hD hS 16 rfl (by omega) (by omega) dX3_distance_18 (fun H locs hP hD hS => ?_)
      have hP : va_P K.1 vwCl (mW K o ad (va_up (va_up f 16 w1) 17 (upd w2 k (nI k))) d pr ta ti la) H := hP
      have hD : va_D A (mW K o ad (va_up (va_up f 16 w1) 17 (upd w2 k (nI k))) d pr ta ti la) := hD
      refine lv_iinc (v := nI (k + 1)) (lv' := [(3, .int (nI (k + 1))), (0, .ref o), (1, .int (nI p9)), (2, .int (nI x))]) hx hb dX3_distance_19 hl (k := 0) rfl (m_inc _) (by decide) rfl (fun ls hl => ?_)
      refine lv_goto (tgt := 2) hx hb dX3_distance_22 (by decide) ?_
      exact iha (k + 1) w1 (upd w2 k (nI k)) _ _ ls (by omega) (by omega) (fun t ht => row_up1 hw t ht) hP hD hS (lv_sub hl [0, 1, 2, 3] rfl)

theorem near_k {ps : List Pr} {g i : Nat} {L : List Int32} {P : Pr} (h : ps[i]? = some P) (n : ¬ (P.1 = g ∧ dst P.2.1.1 L ≤ (nearN ps g L i).2)) : nearN ps g L (i + 1) = nearN ps g L i := by
  rw [nearN, h]
  exact if_neg n
theorem near_y {ps : List Pr} {g i : Nat} {L : List Int32} {P : Pr} (h : ps[i]? = some P) (n : P.1 = g ∧ dst P.2.1.1 L ≤ (nearN ps g L i).2) : nearN ps g L (i + 1) = (some P, dst P.2.1.1 L) := by
  rw [nearN, h]
  exact if_pos n

theorem dst_le (L M : List Int32) : dst L M ≤ L.length + M.length := lvD_le _ _ _ _

set_option maxHeartbeats 4000000 in
set_option maxRecDepth 100000 in
theorem kX3_near (l : Launch) (K : m_K) (A : Nat → Prop) (H0 : Heap) (o : Nat) (ad : Nat → Nat) (f : Nat → Nat → Int32) (d ta ti la : Int32) (fm : Nat → Option Frm) (hfm : ∀ k, k < 540 → mF (f 5) (f 6) (f 7) k (fm k)) (ps : List Pr) (hps : mPs (f 10) (f 11) (f 12) (f 13) (f 14) ps) (hP : va_P K.1 vwCl (mW K o ad f d (nI ps.length) ta ti la) H0) (hD : va_D A (mW K o ad f d (nI ps.length) ta ti la)) (k g i u : Nat) (hk9 : k < 10) (hg9 : g < 6) (hi9a : i < 3) (hu9 : u < 3) : Met l yX3_near wsX3_near ({ frames := 1, cells := 0, slots := 0, locals := 25 } : Room) (m_Pc K A H0 [.ref o, .int (nI k), .int (nI g), .int (nI i), .int (nI u)]) (va_Qi (fun r H1 => ∃ bo, r = oI bo ∧ (bo = none → nearF (fm (54 * k + 3 * i + u)) ps g = none) ∧ (∀ b9, bo = some b9 → ∃ P F, fm (54 * k + 3 * i + u) = some F ∧ ps[b9]? = some P ∧ nearF (fm (54 * k + 3 * i + u)) ps g = some P) ∧ ∃ w1 w2, va_P K.1 vwCl (mW K o ad (va_up (va_up f 16 w1) 17 w2) d (nI ps.length) ta ti la) H1 ∧ va_D A (mW K o ad (va_up (va_up f 16 w1) 17 w2) d (nI ps.length) ta ti la)) m_B A) 0 0 A := by
  refine m_ofW (by decide) rfl (Nat.le_of_ble_eq_true rfl) ?_
  intro p e s m args below meth c ls hx hb hr hml hown hts hlk hnm hE hsz hS hl
  have hl : lv_has ls 9 [(0, .ref o), (1, .int (nI k)), (2, .int (nI g)), (3, .int (nI i)), (4, .int (nI u))] := hl
  have hps20 := hps.1
  have iX3 : ∀ w ∈ wsX30, w ∈ wsX3_near := by decide +kernel
  have f88 := hts (.fieldLink RX3 88 "PhraseCatalogueModel" "pairs" "I") (by decide +kernel)
  have f22 := hts (.fieldLink RX3 22 "PhraseCatalogueModel" "lengths" "[I") (by decide +kernel)
  have f38 := hts (.fieldLink RX3 38 "PhraseCatalogueModel" "pairLanguages" "[I") (by decide +kernel)
  refine lv_iload_n hx hb dX3_near_0 rfl (lv_at hl 1 rfl) ?_
  refine lv_iconst (v := nI 0) hx hb dX3_near_1 (by decide) ?_
  refine lv_iload_n hx hb dX3_near_2 rfl (lv_at hl 3 rfl) ?_
  refine lv_iload hx hb dX3_near_3 (lv_at hl 4 rfl) ?_
  refine m_cSi (rest := []) ⟨hx, hb, hml, hown, hts⟩ hE hS (fun _ h => h) (kX3_at l K A _ k 0 i u) (va_cwS 4 hts gX3_near_X3_at rfl rfl rfl (by decide +kernel) ⟨Nat.le_of_ble_eq_true rfl, Nat.le_of_ble_eq_true rfl⟩) rfl rfl hl.1 rfl (Nat.le_of_ble_eq_true rfl) dX3_near_5 ⟨Nat.le_of_ble_eq_true rfl, Nat.le_of_ble_eq_true rfl⟩ (fun r H1 locs hp hS hk => ?_)
  obtain ⟨rfl, rfl⟩ := hp
  rw [show 54 * k + 9 * 0 + 3 * i + u = 54 * k + 3 * i + u by omega]
  refine lv_istore (lv' := [(5, .int (nI (54 * k + 3 * i + u))), (0, .ref o), (1, .int (nI k)), (2, .int (nI g)), (3, .int (nI i)), (4, .int (nI u))]) hx hb dX3_near_8 hl (by decide) rfl (fun ls hl => ?_)
  refine lv_iconst (v := (-1)) hx hb dX3_near_10 (by decide) ?_
  refine lv_istore (lv' := [(6, .int (-1)), (5, .int (nI (54 * k + 3 * i + u))), (0, .ref o), (1, .int (nI k)), (2, .int (nI g)), (3, .int (nI i)), (4, .int (nI u))]) hx hb dX3_near_11 hl (by decide) rfl (fun ls hl => ?_)
  refine lv_iconst (v := nI 0) hx hb dX3_near_13 (by decide) ?_
  refine lv_istore (lv' := [(7, .int (nI 0)), (6, .int (-1)), (5, .int (nI (54 * k + 3 * i + u))), (0, .ref o), (1, .int (nI k)), (2, .int (nI g)), (3, .int (nI i)), (4, .int (nI u))]) hx hb dX3_near_14 hl (by decide) rfl (fun ls hl => ?_)
  cases hF : fm (54 * k + 3 * i + u) with
  | none =>
    have hlen : f 5 (54 * k + 3 * i + u) = nI 0 := by have h := (hfm (54 * k + 3 * i + u) (by omega)).1; rw [hF] at h; exact h
    refine lv_iload hx hb dX3_near_16 (lv_at hl 0 rfl) ?_
    refine lv_aload_n hx hb dX3_near_18 rfl (lv_at hl 3 rfl) ?_
    refine va_get (D := K.1) (ci := 4) (v := .int (nI ps.length)) (C := RX3) (T := TX3) (N := 21) hx hb hts iX3 hown hE.k hP 0 rfl rfl 15 (by decide) f88 (fun _ h9 => h9) rfl dX3_near_19 ?_
    refine m_icmp_ge (tgt := 118) hx hb (by omega) (by omega) dX3_near_22 (by decide) (fun c_22 => ?_) (fun c_22 => ?_)
    · refine lv_iload hx hb dX3_near_118 (lv_at hl 1 rfl) ?_
      exact m_iret hx hb hr hlk hS (Nat.le_of_ble_eq_true rfl) (Nat.le_of_ble_eq_true rfl) dX3_near_120 (⟨none, rfl, fun _ => rfl, (fun b9 z => by cases z), f 16, f 17, hP, hD⟩)
    · refine lv_aload_n hx hb dX3_near_25 rfl (lv_at hl 3 rfl) ?_
      refine va_get (D := K.1) (ci := 4) (v := .ref (ad 5)) (C := RX3) (T := TX3) (N := 21) hx hb hts iX3 hown hE.k hP 0 rfl rfl 5 (by decide) f22 (fun _ h9 => h9) rfl dX3_near_26 ?_
      refine lv_iload hx hb dX3_near_29 (lv_at hl 2 rfl) ?_
      refine m_iald hx hb hE.k hP 5 rfl (by omega) (by omega) hlen dX3_near_31 ?_
      refine m_if_le (tgt := 118) hx hb (by omega) dX3_near_32 (by decide) (fun c_32 => ?_) (fun c_32 => ?_)
      · refine lv_iload hx hb dX3_near_118 (lv_at hl 1 rfl) ?_
        exact m_iret hx hb hr hlk hS (Nat.le_of_ble_eq_true rfl) (Nat.le_of_ble_eq_true rfl) dX3_near_120 (⟨none, rfl, fun _ => rfl, (fun b9 z => by cases z), f 16, f 17, hP, hD⟩)
      · exact absurd c_32 (by decide)
  | some F =>
    obtain ⟨hlen, hl8, hq9⟩ := hfm (54 * k + 3 * i + u) (by omega)
    rw [hF] at hlen hl8
    have hlen : f 5 (54 * k + 3 * i + u) = nI F.1.length := hlen
    have hl8 : F.1.length ≤ 8 := hl8
    have hl1 := (hq9 F hF).1
    have hP : va_P K.1 vwCl (mW K o ad (va_up (va_up f 16 (f 16)) 17 (f 17)) d (nI ps.length) ta ti la) _ := hP
    have hD : va_D A (mW K o ad (va_up (va_up f 16 (f 16)) 17 (f 17)) d (nI ps.length) ta ti la) := hD
    refine (?_ : ∀ (n9 : Nat) (i9 : Nat) (w1 : Nat → Int32) (w2 : Nat → Int32) (bo : Option Nat) (H : Heap) (locs : List Loc) (ls : Array Slot), i9 ≤ ps.length → ps.length < i9 + n9 → (bo = none → nearN ps g F.1 i9 = (none, F.1.length / 2)) → (∀ b9, bo = some b9 → ∃ Q, ps[b9]? = some Q ∧ nearN ps g F.1 i9 = (some Q, dst Q.2.1.1 F.1)) → va_P K.1 vwCl (mW K o ad (va_up (va_up f 16 w1) 17 w2) d (nI ps.length) ta ti la) H → va_D A (mW K o ad (va_up (va_up f 16 w1) 17 w2) d (nI ps.length) ta ti la) → va_S A s.heap H locs → lv_has ls 9 [(7, .int (nI i9)), (6, .int (oI bo)), (5, .int (nI (54 * k + 3 * i + u))), (0, .ref o), (1, .int (nI k)), (2, .int (nI g)), (3, .int (nI i)), (4, .int (nI u))] → W p l e _ s m args below meth c H locs 0 0 _ (F0 m 16 ls [])) (ps.length + 1) 0 (f 16) (f 17) none _ _ ls (by omega) (by omega) (fun _ => rfl) (fun b9 z => by cases z) hP hD hS (lv_sub hl [0, 1, 2, 3, 4, 5, 6, 7] rfl)
    clear hS hl hP hD
    intro n9
    induction n9 with
    | zero => intro i9 w1 w2 bo H locs ls hi9 hn9; exact absurd hn9 (by omega)
    | succ n9 ih =>
      intro i9 w1 w2 bo H locs ls hi9 hn9 hb0 hb1 hP hD hS hl
      refine lv_iload hx hb dX3_near_16 (lv_at hl 0 rfl) ?_
      refine lv_aload_n hx hb dX3_near_18 rfl (lv_at hl 3 rfl) ?_
      refine va_get (D := K.1) (ci := 4) (v := .int (nI ps.length)) (C := RX3) (T := TX3) (N := 21) hx hb hts iX3 hown hE.k hP 0 rfl rfl 15 (by decide) f88 (fun _ h9 => h9) rfl dX3_near_19 ?_
      refine m_icmp_ge (tgt := 118) hx hb (by omega) (by omega) dX3_near_22 (by decide) (fun c_22 => ?_) (fun c_22 => ?_)
      · refine lv_iload hx hb dX3_near_118 (lv_at hl 1 rfl) ?_
        exact m_iret hx hb hr hlk hS (Nat.le_of_ble_eq_true rfl) (Nat.le_of_ble_eq_true rfl) dX3_near_120 (⟨bo, rfl, (fun z => by rw [nearF, show ps.length = i9 by omega, hb0 z]), (fun b9 z => by obtain ⟨Q, h1, h2⟩ := hb1 b9 z; exact ⟨Q, F, rfl, h1, by rw [nearF, show ps.length = i9 by omega, h2]⟩), w1, w2, hP, hD⟩)
      · have hPi := List.getElem?_eq_getElem (show i9 < ps.length by omega)
        generalize ps[i9] = P at hPi
        obtain ⟨hg6, -, -, hP0, -, -, -, -⟩ := hps.2 i9 P hPi
        have hpl := hps.1
        refine lv_aload_n hx hb dX3_near_25 rfl (lv_at hl 3 rfl) ?_
        refine va_get (D := K.1) (ci := 4) (v := .ref (ad 5)) (C := RX3) (T := TX3) (N := 21) hx hb hts iX3 hown hE.k hP 0 rfl rfl 5 (by decide) f22 (fun _ h9 => h9) rfl dX3_near_26 ?_
        refine lv_iload hx hb dX3_near_29 (lv_at hl 2 rfl) ?_
        refine m_iald hx hb hE.k hP 5 rfl (by omega) (by omega) hlen dX3_near_31 ?_
        refine m_if_le (tgt := 118) hx hb (by omega) dX3_near_32 (by decide) (fun c_32 => ?_) (fun c_32 => ?_)
        · exact absurd c_32 (by omega)
        · refine lv_aload_n hx hb dX3_near_35 rfl (lv_at hl 3 rfl) ?_
          refine va_get (D := K.1) (ci := 4) (v := .ref (ad 10)) (C := RX3) (T := TX3) (N := 21) hx hb hts iX3 hown hE.k hP 0 rfl rfl 10 (by decide) f38 (fun _ h9 => h9) rfl dX3_near_36 ?_
          refine lv_iload hx hb dX3_near_39 (lv_at hl 0 rfl) ?_
          refine m_iald hx hb hE.k hP 10 rfl (by omega) (by omega) hP0 dX3_near_41 ?_
          refine lv_iload_n hx hb dX3_near_42 rfl (lv_at hl 5 rfl) ?_
          refine m_icmp_ne (tgt := 70) hx hb (by omega) (by omega) dX3_near_43 (by decide) (fun c_43 => ?_) (fun c_43 => ?_)
          · have hkp := near_k (g := g) (L := F.1) hPi (fun z => c_43 z.1)
            refine lv_iconst (v := nI 0) hx hb dX3_near_70 (by decide) ?_
            refine lv_istore (lv' := [(8, .int (nI 0)), (7, .int (nI i9)), (6, .int (oI bo)), (5, .int (nI (54 * k + 3 * i + u))), (0, .ref o), (1, .int (nI k)), (2, .int (nI g)), (3, .int (nI i)), (4, .int (nI u))]) hx hb dX3_near_71 hl (by decide) rfl (fun ls hl => ?_)
            refine lv_iload hx hb dX3_near_73 (lv_at hl 0 rfl) ?_
            refine m_if_eq (tgt := 108) hx hb (by omega) dX3_near_75 (by decide) (fun c_75 => ?_) (fun c_75 => ?_)
            · refine lv_iload hx hb dX3_near_108 (lv_at hl 2 rfl) ?_
              refine lv_istore (lv' := [(6, .int (oI bo)), (8, .int (nI 0)), (7, .int (nI i9)), (5, .int (nI (54 * k + 3 * i + u))), (0, .ref o), (1, .int (nI k)), (2, .int (nI g)), (3, .int (nI i)), (4, .int (nI u))]) hx hb dX3_near_110 hl (by decide) rfl (fun ls hl => ?_)
              refine lv_iinc (v := nI (i9 + 1)) (lv' := [(7, .int (nI (i9 + 1))), (6, .int (oI bo)), (8, .int (nI 0)), (5, .int (nI (54 * k + 3 * i + u))), (0, .ref o), (1, .int (nI k)), (2, .int (nI g)), (3, .int (nI i)), (4, .int (nI u))]) hx hb dX3_near_112 hl (k := 2) rfl (m_inc _) (by decide) rfl (fun ls hl => ?_)
              refine lv_goto (tgt := 16) hx hb dX3_near_115 (by decide) ?_
              exact ih (i9 + 1) w1 w2 bo _ _ ls (by omega) (by omega) (fun z => hkp.trans (hb0 z)) (fun b9 z => by obtain ⟨Q, h1, h2⟩ := hb1 b9 z; exact ⟨Q, h1, hkp.trans h2⟩) hP hD hS (lv_sub hl [0, 1, 3, 4, 5, 6, 7, 8] rfl)
            · exact absurd c_75 (by decide)
          · refine lv_aload_n hx hb dX3_near_46 rfl (lv_at hl 3 rfl) ?_
            refine lv_iload hx hb dX3_near_47 (lv_at hl 0 rfl) ?_
            refine lv_iload hx hb dX3_near_49 (lv_at hl 2 rfl) ?_
            refine m_cVi (rest := []) ⟨hx, hb, hml, hown, hts⟩ hE hS (fun _ h => h) (kX3_distance l K A _ o ad f w1 w2 d (nI ps.length) ta ti la hP hD fm hfm ps hps i9 (54 * k + 3 * i + u) P F (by omega) hPi hF) (cwV 2 hts gX3_near_X3_distance rfl rfl rfl (by decide +kernel) ⟨Nat.le_of_ble_eq_true rfl, Nat.le_of_ble_eq_true rfl⟩) (va_recv hE.k hP (ci := 4) (q0 := 0) rfl rfl) rfl rfl hl.1 rfl (Nat.le_of_ble_eq_true rfl) dX3_near_51 ⟨Nat.le_of_ble_eq_true rfl, Nat.le_of_ble_eq_true rfl⟩ (fun r H locs hp hS hk => ?_)
            obtain ⟨rfl, w1a, w2a, hP, hD⟩ := hp
            have hbda := dst_le P.2.1.1 F.1
            have hbla := (hps.2 _ P hPi).2.1.2
            refine lv_aload_n hx hb dX3_near_54 rfl (lv_at hl 3 rfl) ?_
            refine va_get (D := K.1) (ci := 4) (v := .ref (ad 5)) (C := RX3) (T := TX3) (N := 21) hx hb hts iX3 hown hE.k hP 0 rfl rfl 5 (by decide) f22 (fun _ h9 => h9) rfl dX3_near_55 ?_
            refine lv_iload hx hb dX3_near_58 (lv_at hl 2 rfl) ?_
            refine m_iald hx hb hE.k hP 5 rfl (by omega) (by omega) hlen dX3_near_60 ?_
            refine lv_iconst (v := nI 2) hx hb dX3_near_61 (by decide) ?_
            refine m_idiv hx hb (by omega) (by omega) (by omega) dX3_near_62 ?_
            refine m_icmp_gt (tgt := 70) hx hb (by omega) (by omega) dX3_near_63 (by decide) (fun c_63 => ?_) (fun c_63 => ?_)
            · have hkp := near_k (g := g) (L := F.1) hPi (fun z => by have := nearN_le ps g F.1 i9; omega)
              refine lv_iconst (v := nI 0) hx hb dX3_near_70 (by decide) ?_
              refine lv_istore (lv' := [(8, .int (nI 0)), (7, .int (nI i9)), (6, .int (oI bo)), (5, .int (nI (54 * k + 3 * i + u))), (0, .ref o), (1, .int (nI k)), (2, .int (nI g)), (3, .int (nI i)), (4, .int (nI u))]) hx hb dX3_near_71 hl (by decide) rfl (fun ls hl => ?_)
              refine lv_iload hx hb dX3_near_73 (lv_at hl 0 rfl) ?_
              refine m_if_eq (tgt := 108) hx hb (by omega) dX3_near_75 (by decide) (fun c_75 => ?_) (fun c_75 => ?_)
              · refine lv_iload hx hb dX3_near_108 (lv_at hl 2 rfl) ?_
                refine lv_istore (lv' := [(6, .int (oI bo)), (8, .int (nI 0)), (7, .int (nI i9)), (5, .int (nI (54 * k + 3 * i + u))), (0, .ref o), (1, .int (nI k)), (2, .int (nI g)), (3, .int (nI i)), (4, .int (nI u))]) hx hb dX3_near_110 hl (by decide) rfl (fun ls hl => ?_)
                refine lv_iinc (v := nI (i9 + 1)) (lv' := [(7, .int (nI (i9 + 1))), (6, .int (oI bo)), (8, .int (nI 0)), (5, .int (nI (54 * k + 3 * i + u))), (0, .ref o), (1, .int (nI k)), (2, .int (nI g)), (3, .int (nI i)), (4, .int (nI u))]) hx hb dX3_near_112 hl (k := 2) rfl (m_inc _) (by decide) rfl (fun ls hl => ?_)
                refine lv_goto (tgt := 16) hx hb dX3_near_115 (by decide) ?_
                exact ih (i9 + 1) w1a w2a bo _ _ ls (by omega) (by omega) (fun z => hkp.trans (hb0 z)) (fun b9 z => by obtain ⟨Q, h1, h2⟩ := hb1 b9 z; exact ⟨Q, h1, hkp.trans h2⟩) hP hD hS (lv_sub hl [0, 1, 3, 4, 5, 6, 7, 8] rfl)
              · exact absurd c_75 (by decide)
            · refine lv_iconst (v := nI 1) hx hb dX3_near_66 (by decide) ?_
              refine lv_goto (tgt := 71) hx hb dX3_near_67 (by decide) ?_
              refine lv_istore (lv' := [(8, .int (nI 1)), (7, .int (nI i9)), (6, .int (oI bo)), (5, .int (nI (54 * k + 3 * i + u))), (0, .ref o), (1, .int (nI k)), (2, .int (nI g)), (3, .int (nI i)), (4, .int (nI u))]) hx hb dX3_near_71 hl (by decide) rfl (fun ls hl => ?_)
              refine lv_iload hx hb dX3_near_73 (lv_at hl 0 rfl) ?_
              refine m_if_eq (tgt := 108) hx hb (by omega) dX3_near_75 (by decide) (fun c_75 => ?_) (fun c_75 => ?_)
              · exact absurd c_75 (by decide)
              · refine lv_iload hx hb dX3_near_78 (lv_at hl 2 rfl) ?_
                refine lv_iconst (v := (-1)) hx hb dX3_near_80 (by decide) ?_
                refine m_icmp_eq_o (tgt := 103) hx hb (fun z hz => by obtain ⟨Q, h1, -⟩ := hb1 z hz; have := (List.getElem?_eq_some_iff.mp h1).1; omega) dX3_near_81 (by decide) (fun c_81 => ?_) (fun k_81 c_81 => ?_)
                · have hkp := near_y (g := g) (L := F.1) hPi ⟨c_43, by rw [hb0 c_81]; show _ ≤ F.1.length / 2; omega⟩
                  refine lv_iload hx hb dX3_near_103 (lv_at hl 1 rfl) ?_
                  refine lv_goto (tgt := 110) hx hb dX3_near_105 (by decide) ?_
                  refine lv_istore (lv' := [(6, .int (nI i9)), (8, .int (nI 1)), (7, .int (nI i9)), (5, .int (nI (54 * k + 3 * i + u))), (0, .ref o), (1, .int (nI k)), (2, .int (nI g)), (3, .int (nI i)), (4, .int (nI u))]) hx hb dX3_near_110 hl (by decide) rfl (fun ls hl => ?_)
                  refine lv_iinc (v := nI (i9 + 1)) (lv' := [(7, .int (nI (i9 + 1))), (6, .int (nI i9)), (8, .int (nI 1)), (5, .int (nI (54 * k + 3 * i + u))), (0, .ref o), (1, .int (nI k)), (2, .int (nI g)), (3, .int (nI i)), (4, .int (nI u))]) hx hb dX3_near_112 hl (k := 2) rfl (m_inc _) (by decide) rfl (fun ls hl => ?_)
                  refine lv_goto (tgt := 16) hx hb dX3_near_115 (by decide) ?_
                  exact ih (i9 + 1) w1a w2a (some i9) _ _ ls (by omega) (by omega) (fun z => by cases z) (fun b9 z => by cases z; exact ⟨P, hPi, hkp⟩) hP hD hS (lv_sub hl [0, 1, 3, 4, 5, 6, 7, 8] rfl)
                · obtain ⟨Q, hQ, hnq⟩ := hb1 k_81 c_81
                  have hbl := (List.getElem?_eq_some_iff.mp hQ).1
                  rw [c_81] at hl
                  have hl : lv_has ls 9 [(8, .int (nI 1)), (7, .int (nI i9)), (6, .int (nI k_81)), (5, .int (nI (54 * k + 3 * i + u))), (0, .ref o), (1, .int (nI k)), (2, .int (nI g)), (3, .int (nI i)), (4, .int (nI u))] := hl
                  refine lv_aload_n hx hb dX3_near_84 rfl (lv_at hl 4 rfl) ?_
                  refine lv_iload hx hb dX3_near_85 (lv_at hl 1 rfl) ?_
                  refine lv_iload hx hb dX3_near_87 (lv_at hl 3 rfl) ?_
                  refine m_cVi (rest := []) ⟨hx, hb, hml, hown, hts⟩ hE hS (fun _ h => h) (kX3_distance l K A _ o ad f w1a w2a d (nI ps.length) ta ti la hP hD fm hfm ps hps i9 (54 * k + 3 * i + u) P F (by omega) hPi hF) (cwV 2 hts gX3_near_X3_distance rfl rfl rfl (by decide +kernel) ⟨Nat.le_of_ble_eq_true rfl, Nat.le_of_ble_eq_true rfl⟩) (va_recv hE.k hP (ci := 4) (q0 := 0) rfl rfl) rfl rfl hl.1 rfl (Nat.le_of_ble_eq_true rfl) dX3_near_89 ⟨Nat.le_of_ble_eq_true rfl, Nat.le_of_ble_eq_true rfl⟩ (fun r H locs hp hS hk => ?_)
                  obtain ⟨rfl, w1b, w2b, hP, hD⟩ := hp
                  have hbdb := dst_le P.2.1.1 F.1
                  have hblb := (hps.2 _ P hPi).2.1.2
                  refine lv_aload_n hx hb dX3_near_92 rfl (lv_at hl 4 rfl) ?_
                  refine lv_iload hx hb dX3_near_93 (lv_at hl 2 rfl) ?_
                  refine lv_iload hx hb dX3_near_95 (lv_at hl 3 rfl) ?_
                  refine m_cVi (rest := [.int (nI (dst P.2.1.1 F.1))]) ⟨hx, hb, hml, hown, hts⟩ hE hS (fun _ h => h) (kX3_distance l K A _ o ad f w1b w2b d (nI ps.length) ta ti la hP hD fm hfm ps hps k_81 (54 * k + 3 * i + u) Q F (by omega) hQ hF) (cwV 2 hts gX3_near_X3_distance rfl rfl rfl (by decide +kernel) ⟨Nat.le_of_ble_eq_true rfl, Nat.le_of_ble_eq_true rfl⟩) (va_recv hE.k hP (ci := 4) (q0 := 0) rfl rfl) rfl rfl hl.1 rfl (Nat.le_of_ble_eq_true rfl) dX3_near_97 ⟨Nat.le_of_ble_eq_true rfl, Nat.le_of_ble_eq_true rfl⟩ (fun r H locs hp hS hk => ?_)
                  obtain ⟨rfl, w1c, w2c, hP, hD⟩ := hp
                  have hbdc := dst_le Q.2.1.1 F.1
                  have hblc := (hps.2 _ Q hQ).2.1.2
                  refine m_icmp_gt (tgt := 108) hx hb (by omega) (by omega) dX3_near_100 (by decide) (fun c_100 => ?_) (fun c_100 => ?_)
                  · have hkp := near_k (g := g) (L := F.1) hPi (fun z => absurd z.2 (by rw [hnq]; show ¬ _ ≤ dst Q.2.1.1 F.1; omega))
                    refine lv_iload hx hb dX3_near_108 (lv_at hl 2 rfl) ?_
                    refine lv_istore (lv' := [(6, .int (nI k_81)), (8, .int (nI 1)), (7, .int (nI i9)), (5, .int (nI (54 * k + 3 * i + u))), (0, .ref o), (1, .int (nI k)), (2, .int (nI g)), (3, .int (nI i)), (4, .int (nI u))]) hx hb dX3_near_110 hl (by decide) rfl (fun ls hl => ?_)
                    refine lv_iinc (v := nI (i9 + 1)) (lv' := [(7, .int (nI (i9 + 1))), (6, .int (nI k_81)), (8, .int (nI 1)), (5, .int (nI (54 * k + 3 * i + u))), (0, .ref o), (1, .int (nI k)), (2, .int (nI g)), (3, .int (nI i)), (4, .int (nI u))]) hx hb dX3_near_112 hl (k := 2) rfl (m_inc _) (by decide) rfl (fun ls hl => ?_)
                    refine lv_goto (tgt := 16) hx hb dX3_near_115 (by decide) ?_
                    exact ih (i9 + 1) w1c w2c (some k_81) _ _ ls (by omega) (by omega) (fun z => by cases z) (fun b9 z => by cases z; exact ⟨Q, hQ, hkp.trans hnq⟩) hP hD hS (lv_sub hl [0, 1, 3, 4, 5, 6, 7, 8] rfl)
                  · have hkp := near_y (g := g) (L := F.1) hPi ⟨c_43, by rw [hnq]; show _ ≤ dst Q.2.1.1 F.1; omega⟩
                    refine lv_iload hx hb dX3_near_103 (lv_at hl 1 rfl) ?_
                    refine lv_goto (tgt := 110) hx hb dX3_near_105 (by decide) ?_
                    refine lv_istore (lv' := [(6, .int (nI i9)), (8, .int (nI 1)), (7, .int (nI i9)), (5, .int (nI (54 * k + 3 * i + u))), (0, .ref o), (1, .int (nI k)), (2, .int (nI g)), (3, .int (nI i)), (4, .int (nI u))]) hx hb dX3_near_110 hl (by decide) rfl (fun ls hl => ?_)
                    refine lv_iinc (v := nI (i9 + 1)) (lv' := [(7, .int (nI (i9 + 1))), (6, .int (nI i9)), (8, .int (nI 1)), (5, .int (nI (54 * k + 3 * i + u))), (0, .ref o), (1, .int (nI k)), (2, .int (nI g)), (3, .int (nI i)), (4, .int (nI u))]) hx hb dX3_near_112 hl (k := 2) rfl (m_inc _) (by decide) rfl (fun ls hl => ?_)
                    refine lv_goto (tgt := 16) hx hb dX3_near_115 (by decide) ?_
                    exact ih (i9 + 1) w1c w2c (some i9) _ _ ls (by omega) (by omega) (fun z => by cases z) (fun b9 z => by cases z; exact ⟨P, hPi, hkp⟩) hP hD hS (lv_sub hl [0, 1, 3, 4, 5, 6, 7, 8] rfl)
