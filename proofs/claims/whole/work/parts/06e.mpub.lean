
/-- the model's state as a whole -/
def mRep (f : Nat → Nat → Int32) (d pr : Int32) (fb : Nat → Nat) (on fw : Nat → Int32) (dr : List Int32) (fm : Nat → Option Frm) (vs ch : Nat → Int32) (ps : List Pr) : Prop :=
  (∀ i, i < 6 → f 0 i = nI (fb i) ∧ fb i < 6) ∧ (∀ g, g < 6 → f 1 g = on g) ∧ (∀ g, g < 6 → f 2 g = fw g) ∧ (d = nI dr.length ∧ dr.length ≤ 8 ∧ ∀ j, j < dr.length → f 3 j = dr.getD j 0) ∧ (∀ k, k < 540 → mF (f 5) (f 6) (f 7) k (fm k)) ∧
  (∀ k, k < 10 → f 8 k = vs k) ∧ (∀ t, t < 60 → f 9 t = ch t) ∧ (pr = nI ps.length ∧ mPs (f 10) (f 11) (f 12) (f 13) (f 14) ps) ∧ (∃ rk, RK fb rk ∧ ∀ l, l < 6 → rk l < 6) ∧ ∀ k, k < 10 → ch (6 * k) = vs k
def mOK (K : m_K) (A : Nat → Prop) (H : Heap) (o : Nat) (ad : Nat → Nat) (fb : Nat → Nat) (on fw : Nat → Int32) (dr : List Int32) (fm : Nat → Option Frm) (vs ch : Nat → Int32) (ps : List Pr) (la : Int32) : Prop :=
  ∃ (f : Nat → Nat → Int32) (d pr ta ti : Int32), va_P K.1 vwCl (mW K o ad f d pr ta ti la) H ∧ va_D A (mW K o ad f d pr ta ti la) ∧ mRep f d pr fb on fw dr fm vs ch ps
/-- an answer by its kind: done, refused for the first reason, for the second -/
def R3 (P1 P2 : Prop) (k : Int32) (S S0 : Prop) : Prop := (k = nI 0 ∧ P1 ∧ P2 ∧ S) ∨ (k = nI 1 ∧ ¬ P1 ∧ S0) ∨ (k = nI 2 ∧ P1 ∧ ¬ P2 ∧ S0)
theorem r3_0 {P1 P2 S S0 : Prop} (h1 : P1) (h2 : P2) (s : S) : R3 P1 P2 (nI 0) S S0 := Or.inl ⟨rfl, h1, h2, s⟩
theorem r3_1 {P1 P2 S S0 : Prop} (h1 : ¬ P1) (s : S0) : R3 P1 P2 (nI 1) S S0 := Or.inr (Or.inl ⟨rfl, h1, s⟩)
theorem r3_2 {P1 P2 S S0 : Prop} (h1 : P1) (h2 : ¬ P2) (s : S0) : R3 P1 P2 (nI 2) S S0 := Or.inr (Or.inr ⟨rfl, h1, h2, s⟩)
theorem nB {b : Bool} {P : Prop} (h : b = true ↔ P) (e : b = false) : ¬ P := fun z => by rw [h.mpr z] at e; cases e
theorem inB_1 {x : Int32} : inB x (nI 1) (nI 5) = true ↔ okN x 6 ∧ ¬ x = nI 0 := by
  unfold inB okN
  rw [decide_eq_true_iff]
  constructor
  · rintro ⟨h1, h2⟩
    have k1 := Int32.le_iff_toInt_le.mp h1
    have k2 := Int32.le_iff_toInt_le.mp h2
    rw [nI_toInt (by decide)] at k1 k2
    refine ⟨⟨by omega, by omega⟩, fun e => ?_⟩
    rw [e, nI_toInt (by decide)] at k1
    omega
  · rintro ⟨⟨h1, h2⟩, h3⟩
    have h4 : ¬ x.toInt = 0 := fun e => h3 (Int32.toInt_inj.mp (by rw [e, nI_toInt (by decide)]; rfl))
    refine ⟨Int32.le_iff_toInt_le.mpr ?_, Int32.le_iff_toInt_le.mpr ?_⟩ <;> rw [nI_toInt (by decide)] <;> omega
theorem inB_0 {x : Int32} {n : Nat} (hn : n + 1 < 2147483648) : inB x (nI 0) (nI n) = true ↔ okN x (n + 1) := by
  rw [inB_ok hn]
  exact okB_iff
/-! ranks -/
theorem chP_st {fb : Nat → Nat} {b : Nat} : ∀ {n l s s' : Nat}, (chP fb b n l s).isSome = (chP fb b n l s').isSome
  | 0, _, _, _ => rfl
  | n + 1, l, s, s' => by
    unfold chP
    split
    · rfl
    · split
      · rfl
      · exact chP_st
theorem chP_fuel {fb rk : Nat → Nat} {b : Nat} (hfb : ∀ l, l < 6 → fb l < 6) (hRK : RK fb rk) : ∀ {n l s : Nat}, l < 6 → rk l < n → (chP fb b n l s).isSome = (chP fb b (n + 1) l s).isSome
  | 0, _, _, _, h => absurd h (Nat.not_lt_zero _)
  | n + 1, l, s, hl, h => by
    unfold chP
    split
    · rfl
    · split
      · rfl
      · rename_i h1 h2
        exact chP_fuel hfb hRK (hfb l hl) (by have := hRK l hl h2; omega)
theorem cntN_mono {p q : Nat → Bool} : ∀ {n : Nat}, (∀ j, j < n → p j = true → q j = true) → cntN p n ≤ cntN q n
  | 0, _ => Nat.le_refl _
  | n + 1, h => by
    have h1 := cntN_mono (n := n) (fun j hj => h j (by omega))
    have h2 := h n (by omega)
    unfold cntN
    cases e : p n with
    | false => simp; omega
    | true => rw [h2 e]; simp; omega
theorem cntN_lt {p q : Nat → Bool} {j0 : Nat} (hp : p j0 = false) (hq : q j0 = true) : ∀ {n : Nat}, j0 < n → (∀ j, j < n → p j = true → q j = true) → cntN p n < cntN q n
  | 0, h0, _ => absurd h0 (Nat.not_lt_zero _)
  | n + 1, h0, h => by
    have h2 := h n (by omega)
    unfold cntN
    by_cases e0 : j0 = n
    · subst e0
      have h1 := cntN_mono (n := j0) (fun j hj => h j (by omega))
      rw [hp, hq]
      simp
      omega
    · have h1 := cntN_lt hp hq (n := n) (by omega) (fun j hj => h j (by omega))
      cases e : p n with
      | false => simp; omega
      | true => rw [h2 e]; simp; omega
theorem RK_low {fb r : Nat → Nat} (hfb : ∀ l, l < 6 → fb l < 6) (h : RK fb r) : ∃ rk, RK fb rk ∧ ∀ l, l < 6 → rk l < 6 := by
  refine ⟨fun l => cntN (fun j => decide (r j < r l)) 6, fun l hl h0 => ?_, fun l hl => ?_⟩
  · have h1 := h l hl h0
    exact cntN_lt (j0 := fb l) (decide_eq_false (Nat.lt_irrefl _)) (decide_eq_true h1) (hfb l hl) (fun j _ hj => decide_eq_true (Nat.lt_trans (of_decide_eq_true hj) h1))
  · exact cntN_lt (q := fun _ => true) (j0 := l) (decide_eq_false (Nat.lt_irrefl _)) rfl hl (fun _ _ _ => rfl)
theorem RK_set {fb rk : Nat → Nat} {x y : Nat} (hfb : ∀ l, l < 6 → fb l < 6) (hRK : RK fb rk) (hr5 : ∀ l, l < 6 → rk l < 6) (hx : x < 6) (hx0 : ¬ x = 0) (hy : y < 6) (hc : chP fb x 6 y 0 = none) : ∃ rk', RK (va_up fb x y) rk' ∧ ∀ l, l < 6 → rk' l < 6 := by
  refine RK_low (r := fun l => if (chP fb x 6 l 0).isSome then rk l + rk y + 1 else rk l) (fun l hl => ?_) (fun l hl h0 => ?_)
  · unfold va_up
    split
    · exact hy
    · exact hfb l hl
  · show (if (chP fb x 6 (va_up fb x y l) 0).isSome then _ else _) < (if (chP fb x 6 l 0).isSome then rk l + rk y + 1 else rk l)
    by_cases e : l = x
    · subst e
      rw [va_up_self, hc, show (chP fb l 6 l 0).isSome = true by rw [chP, if_pos rfl]; rfl]
      simp
      omega
    · rw [va_up_ne _ _ e]
      have h1 := hRK l hl h0
      have h2 : (chP fb x 6 l 0).isSome = (chP fb x 6 (fb l) 0).isSome := by
        have h3 := hr5 l hl
        rw [chP, if_neg e, if_neg h0, chP_st (s' := 0)]
        exact chP_fuel hfb hRK (hfb l hl) (by omega)
      rw [h2]
      split <;> omega
theorem chP_n {fb : Nat → Nat} {b n l s : Nat} (h : (chP fb b n l s).isSome = false) : chP fb b n l s = none := by
  cases e : chP fb b n l s with
  | none => rfl
  | some z => rw [e] at h; cases h
theorem chP_y {fb : Nat → Nat} {b n l s : Nat} (h : (chP fb b n l s).isSome = true) : ¬ chP fb b n l s = none := fun e => by rw [e] at h; cases h
theorem vsC_at {f8 f8' vs : Nat → Int32} {k g : Nat} (hk : k < 10) (h : ∀ i, i < 10 → f8 i = vs i) (e : f8' = if g = 0 then upd f8 k (f8 k + nI 1) else f8) : ∀ i, i < 10 → f8' i = vsC vs k g i := fun i hi => by
  rw [e]
  unfold vsC
  split
  · unfold upd va_up
    split
    · rw [h k hk]
    · exact h i hi
  · exact h i hi
theorem mRep_chg {f f' : Nat → Nat → Int32} {d pr : Int32} {fb : Nat → Nat} {on fw : Nat → Int32} {dr : List Int32} {fm : Nat → Option Frm} {vs ch : Nat → Int32} {ps ps9 : List Pr} {k g : Nat} (h : mRep f d pr fb on fw dr fm vs ch ps) (hk : k < 10) (hg : g < 6) (hs : f' 0 = f 0 ∧ f' 1 = f 1 ∧ f' 2 = f 2 ∧ f' 3 = f 3 ∧ f' 5 = f 5 ∧ f' 6 = f 6 ∧ f' 7 = f 7) (hm : mPs (f' 10) (f' 11) (f' 12) (f' 13) (f' 14) ps9) (h8 : f' 8 = if g = 0 then upd (f 8) k (f 8 k + nI 1) else f 8) (h9 : f' 9 = upd (f 9) (6 * k + g) (f' 8 k)) : mRep f' d (nI ps9.length) fb on fw dr fm (vsC vs k g) (chC ch vs k g) ps9 := by
  obtain ⟨a1, a2, a3, a4, a5, a6, a7, a8, a9, b1⟩ := h
  obtain ⟨s0, s1, s2, s3, s5, s6, s7⟩ := hs
  have hv := vsC_at hk a6 h8
  refine ⟨by rw [s0]; exact a1, by rw [s1]; exact a2, by rw [s2]; exact a3, by rw [s3]; exact a4, by rw [s5, s6, s7]; exact a5, hv, fun t ht => ?_, ⟨rfl, hm⟩, a9, fun i hi => ?_⟩
  · rw [h9]
    unfold upd chC va_up
    split
    · exact hv k hk
    · exact a7 t ht
  · unfold chC va_up
    split
    · rename_i e
      rw [show i = k by omega]
    · rename_i e
      rw [b1 i hi]
      unfold vsC
      split
      · rw [va_up_ne _ _ (by omega)]
      · rfl
theorem mF_set {g5 g6 g7 g7' : Nat → Int32} {fm : Nat → Option Frm} {s : Nat} {dr : List Int32} {b : Bool} (h : ∀ k, k < 540 → mF g5 g6 g7 k (fm k)) (hd : 1 ≤ dr.length ∧ dr.length ≤ 8) (h1 : ∀ t, t < 8 → t < dr.length → g7' (8 * s + t) = dr.getD t 0) (h2 : ∀ t, t < 8 * s ∨ 8 * s + 8 ≤ t → g7' t = g7 t) : ∀ k, k < 540 → mF (upd g5 s (nI dr.length)) (upd g6 s (bI b)) g7' k (va_up fm s (some (dr, b)) k) := fun k hk => by
  by_cases e : k = s
  · subst e
    rw [va_up_self]
    exact ⟨upd_at, hd.2, fun F hF => by cases hF; exact ⟨hd.1, upd_at, fun j hj => h1 j (Nat.lt_of_lt_of_le hj hd.2) hj⟩⟩
  · rw [va_up_ne _ _ e]
    obtain ⟨a1, a2, a3⟩ := h k hk
    refine ⟨(upd_ne e).trans a1, a2, fun F hF => ?_⟩
    obtain ⟨b1, b2, b3⟩ := a3 F hF
    have hl : F.1.length ≤ 8 := by rw [hF] at a2; exact a2
    exact ⟨b1, (upd_ne e).trans b2, fun j hj => (h2 _ (by omega)).trans (b3 j hj)⟩
theorem mF_rem {g5 g6 g7 : Nat → Int32} {fm : Nat → Option Frm} {s : Nat} (h : ∀ k, k < 540 → mF g5 g6 g7 k (fm k)) : ∀ k, k < 540 → mF (upd g5 s (nI 0)) g6 g7 k (va_up fm s none k) := fun k hk => by
  by_cases e : k = s
  · subst e
    rw [va_up_self]
    exact ⟨upd_at, Nat.zero_le _, fun F hF => by cases hF⟩
  · rw [va_up_ne _ _ e]
    obtain ⟨a1, a2, a3⟩ := h k hk
    exact ⟨(upd_ne e).trans a1, a2, a3⟩
theorem tellN_fit {fb : Nat → Nat} {on fw : Nat → Int32} {fm : Nat → Option Frm} {k u : Nat} {x : Int32} : ∀ {n g s : Nat}, tellN fb (fun g => inLang fm k g (kindF on fw g x) u) n g = some s → fitF fm k (fm s) = true
  | 0, _, _, h => by cases h
  | n + 1, g, s, h => by
    unfold tellN at h
    split at h
    · rename_i s9 e
      cases h
      have key : ∀ {i : Nat}, inCls fm k g i u = some s → fitF fm k (fm s) = true := fun h => by
        unfold inCls at h
        split at h
        · rename_i c; cases h; exact c
        · split at h
          · rename_i c; cases h; exact c
          · cases h
      have e2 : inLang fm k g (kindF on fw g x) u = some s := e
      unfold inLang at e2
      split at e2
      · rename_i e3; cases e2; exact key e3
      · exact key e2
    · split at h
      · cases h
      · exact tellN_fit h
theorem fit_len {fm : Nat → Option Frm} {k : Nat} {fo : Option Frm} (h : fitF fm k fo = true) : ∃ F, fo = some F := by
  cases fo with
  | none => cases h
  | some F => exact ⟨F, rfl⟩

set_option maxHeartbeats 4000000 in
set_option maxRecDepth 100000 in
theorem kX3_setNumbers (l : Launch) (K : m_K) (A : Nat → Prop) (H0 : Heap) (o : Nat) (ad : Nat → Nat) (fb : Nat → Nat) (on fw : Nat → Int32) (dr : List Int32) (fm : Nat → Option Frm) (vs ch : Nat → Int32) (ps : List Pr) (la : Int32) (hm9 : mOK K A H0 o ad fb on fw dr fm vs ch ps la) (x y z : Int32) : Met l yX3_setNumbers wsX3_setNumbers ({ frames := 2, cells := 0, slots := 0, locals := 42 } : Room) (m_Pc K A H0 [.ref o, .int x, .int y, .int z]) (va_Qv (fun H1 => ∃ k9, R3 (okN x 6) (okN y 101 ∧ okN z 101) k9 (mOK K A H1 o ad fb (va_up on (tN x) y) (va_up fw (tN x) z) dr fm vs ch ps k9) (mOK K A H1 o ad fb on fw dr fm vs ch ps k9)) m_B A) 0 0 A := by
  refine m_ofW (by decide) rfl (Nat.le_of_ble_eq_true rfl) ?_
  intro p e s m args below meth c ls hx hb hr hml hown hts hlk hnm hE hsz hS hl
  have hl : lv_has ls 4 [(0, .ref o), (1, .int x), (2, .int y), (3, .int z)] := hl
  obtain ⟨f, d, pr, ta, ti, hP, hD, hR⟩ := hm9
  obtain ⟨hfb, hon, hfw, ⟨rfl, hdl, hdj⟩, hfm, hvs, hch, ⟨rfl, hps⟩, ⟨rk, hRK, hr5⟩, hin⟩ := id hR
  have hps20 := hps.1
  have iX3 : ∀ w ∈ wsX30, w ∈ wsX3_setNumbers := by decide +kernel
  have f13 := hts (.fieldLink RX3 13 "PhraseCatalogueModel" "ones" "[I") (by decide +kernel)
  have f16 := hts (.fieldLink RX3 16 "PhraseCatalogueModel" "fews" "[I") (by decide +kernel)
  refine lv_aload_n hx hb dX3_setNumbers_0 rfl (lv_at hl 0 rfl) ?_
  refine lv_iload_n hx hb dX3_setNumbers_1 rfl (lv_at hl 1 rfl) ?_
  refine m_cSi (rest := [.ref o]) ⟨hx, hb, hml, hown, hts⟩ hE hS (fun _ h => h) (kX3_isLanguage l K A _ x) (va_cwS 1 hts gX3_setNumbers_X3_isLanguage rfl rfl rfl (by decide +kernel) ⟨Nat.le_of_ble_eq_true rfl, Nat.le_of_ble_eq_true rfl⟩) rfl rfl hl.1 rfl (Nat.le_of_ble_eq_true rfl) dX3_setNumbers_2 ⟨Nat.le_of_ble_eq_true rfl, Nat.le_of_ble_eq_true rfl⟩ (fun r H1 locs hp hS hk => ?_)
  obtain ⟨rfl, rfl⟩ := hp
  cases e_2 : okB x 6 with
  | true =>
    have h1 := (okB_iff (x := x) (n := 6)).mp e_2
    refine lv_iload_n hx hb dX3_setNumbers_5 rfl (lv_at hl 2 rfl) ?_
    refine lv_iconst (v := nI 0) hx hb dX3_setNumbers_6 (by decide) ?_
    refine lv_bipush (v := nI 100) hx hb dX3_setNumbers_7 (by decide) ?_
    refine m_cSi (rest := [.int (bI true), .ref o]) ⟨hx, hb, hml, hown, hts⟩ hE hS (fun _ h => h) (kX3_in l K A _ y (nI 0) (nI 100)) (va_cwS 3 hts gX3_setNumbers_X3_in rfl rfl rfl (by decide +kernel) ⟨Nat.le_of_ble_eq_true rfl, Nat.le_of_ble_eq_true rfl⟩) rfl rfl hl.1 rfl (Nat.le_of_ble_eq_true rfl) dX3_setNumbers_9 ⟨Nat.le_of_ble_eq_true rfl, Nat.le_of_ble_eq_true rfl⟩ (fun r H1 locs hp hS hk => ?_)
    obtain ⟨rfl, rfl⟩ := hp
    cases e_9 : inB y (nI 0) (nI 100) with
    | true =>
      have h2 := (inB_0 (x := y) (n := 100) (by decide)).mp e_9
      refine m_if_eq_b (tgt := 29) hx hb dX3_setNumbers_12 (by decide) (fun c_12 => ?_) (fun c_12 => ?_)
      · exact absurd c_12 (by decide)
      · refine lv_iload_n hx hb dX3_setNumbers_15 rfl (lv_at hl 3 rfl) ?_
        refine lv_iconst (v := nI 0) hx hb dX3_setNumbers_16 (by decide) ?_
        refine lv_bipush (v := nI 100) hx hb dX3_setNumbers_17 (by decide) ?_
        refine m_cSi (rest := [.int (bI true), .ref o]) ⟨hx, hb, hml, hown, hts⟩ hE hS (fun _ h => h) (kX3_in l K A _ z (nI 0) (nI 100)) (va_cwS 3 hts gX3_setNumbers_X3_in rfl rfl rfl (by decide +kernel) ⟨Nat.le_of_ble_eq_true rfl, Nat.le_of_ble_eq_true rfl⟩) rfl rfl hl.1 rfl (Nat.le_of_ble_eq_true rfl) dX3_setNumbers_19 ⟨Nat.le_of_ble_eq_true rfl, Nat.le_of_ble_eq_true rfl⟩ (fun r H1 locs hp hS hk => ?_)
        obtain ⟨rfl, rfl⟩ := hp
        cases e_19 : inB z (nI 0) (nI 100) with
        | true =>
          have h3 := (inB_0 (x := z) (n := 100) (by decide)).mp e_19
          refine m_if_eq_b (tgt := 29) hx hb dX3_setNumbers_22 (by decide) (fun c_22 => ?_) (fun c_22 => ?_)
          · exact absurd c_22 (by decide)
          · refine lv_iconst (v := nI 1) hx hb dX3_setNumbers_25 (by decide) ?_
            refine lv_goto (tgt := 30) hx hb dX3_setNumbers_26 (by decide) ?_
            refine lv_iconst (v := nI 1) hx hb dX3_setNumbers_30 (by decide) ?_
            refine m_cVi (rest := []) ⟨hx, hb, hml, hown, hts⟩ hE hS (fun _ h => h) (kX3_goes l K A _ o ad f (nI dr.length) (nI ps.length) ta ti la hP hD true true true) (cwV 3 hts gX3_setNumbers_X3_goes rfl rfl rfl (by decide +kernel) ⟨Nat.le_of_ble_eq_true rfl, Nat.le_of_ble_eq_true rfl⟩) (va_recv hE.k hP (ci := 4) (q0 := 0) rfl rfl) rfl rfl hl.1 rfl (Nat.le_of_ble_eq_true rfl) dX3_setNumbers_31 ⟨Nat.le_of_ble_eq_true rfl, Nat.le_of_ble_eq_true rfl⟩ (fun r H locs hp hS hk => ?_)
            obtain ⟨rfl, hP, hD⟩ := hp
            refine m_if_eq_b (tgt := 51) hx hb dX3_setNumbers_34 (by decide) (fun c_34 => ?_) (fun c_34 => ?_)
            · exact absurd c_34 (by decide)
            · obtain ⟨g, hk_g, rfl⟩ := okN_of h1 (by decide)
              have hl : lv_has ls 4 [(0, .ref o), (1, .int (nI g)), (2, .int y), (3, .int z)] := hl
              refine lv_aload_n hx hb dX3_setNumbers_37 rfl (lv_at hl 0 rfl) ?_
              refine va_get (D := K.1) (ci := 4) (v := .ref (ad 1)) (C := RX3) (T := TX3) (N := 21) hx hb hts iX3 hown hE.k hP 0 rfl rfl 1 (by decide) f13 (fun _ h9 => h9) rfl dX3_setNumbers_38 ?_
              refine lv_iload_n hx hb dX3_setNumbers_41 rfl (lv_at hl 1 rfl) ?_
              refine lv_iload_n hx hb dX3_setNumbers_42 rfl (lv_at hl 2 rfl) ?_
              refine m_iast hx hb hE.k hP hD hS 2 rfl (by omega) (by omega) dX3_setNumbers_43 (fun H locs hP hD hS => ?_)
              have hP : va_P K.1 vwCl (mW K o ad (va_up f 1 (upd (f 1) g y)) (nI dr.length) (nI ps.length) ta ti (nI (goL true true true))) H := hP
              have hD : va_D A (mW K o ad (va_up f 1 (upd (f 1) g y)) (nI dr.length) (nI ps.length) ta ti (nI (goL true true true))) := hD
              refine lv_aload_n hx hb dX3_setNumbers_44 rfl (lv_at hl 0 rfl) ?_
              refine va_get (D := K.1) (ci := 4) (v := .ref (ad 2)) (C := RX3) (T := TX3) (N := 21) hx hb hts iX3 hown hE.k hP 0 rfl rfl 2 (by decide) f16 (fun _ h9 => h9) rfl dX3_setNumbers_45 ?_
              refine lv_iload_n hx hb dX3_setNumbers_48 rfl (lv_at hl 1 rfl) ?_
              refine lv_iload_n hx hb dX3_setNumbers_49 rfl (lv_at hl 3 rfl) ?_
              refine m_iast hx hb hE.k hP hD hS 3 rfl (by omega) (by omega) dX3_setNumbers_50 (fun H locs hP hD hS => ?_)
              have hP : va_P K.1 vwCl (mW K o ad (va_up (va_up f 1 (upd (f 1) g y)) 2 (upd (f 2) g z)) (nI dr.length) (nI ps.length) ta ti (nI (goL true true true))) H := hP
              have hD : va_D A (mW K o ad (va_up (va_up f 1 (upd (f 1) g y)) 2 (upd (f 2) g z)) (nI dr.length) (nI ps.length) ta ti (nI (goL true true true))) := hD
              exact m_vret hx hb hr hlk hS (Nat.le_of_ble_eq_true rfl) (Nat.le_of_ble_eq_true rfl) dX3_setNumbers_51 (⟨_, r3_0 (h1) (⟨h2, h3⟩) ⟨_, _, _, _, _, hP, hD, hfb, fun n hn => by rw [tN_nI (by omega)]; exact upd_up hon n hn, fun n hn => by rw [tN_nI (by omega)]; exact upd_up hfw n hn, ⟨rfl, hdl, hdj⟩, hfm, hvs, hch, ⟨rfl, hps⟩, ⟨rk, hRK, hr5⟩, hin⟩⟩)
        | false =>
          have h3 := nB (inB_0 (x := z) (n := 100) (by decide)) e_19
          refine m_if_eq_b (tgt := 29) hx hb dX3_setNumbers_22 (by decide) (fun c_22 => ?_) (fun c_22 => ?_)
          · refine lv_iconst (v := nI 0) hx hb dX3_setNumbers_29 (by decide) ?_
            refine lv_iconst (v := nI 1) hx hb dX3_setNumbers_30 (by decide) ?_
            refine m_cVi (rest := []) ⟨hx, hb, hml, hown, hts⟩ hE hS (fun _ h => h) (kX3_goes l K A _ o ad f (nI dr.length) (nI ps.length) ta ti la hP hD true false true) (cwV 3 hts gX3_setNumbers_X3_goes rfl rfl rfl (by decide +kernel) ⟨Nat.le_of_ble_eq_true rfl, Nat.le_of_ble_eq_true rfl⟩) (va_recv hE.k hP (ci := 4) (q0 := 0) rfl rfl) rfl rfl hl.1 rfl (Nat.le_of_ble_eq_true rfl) dX3_setNumbers_31 ⟨Nat.le_of_ble_eq_true rfl, Nat.le_of_ble_eq_true rfl⟩ (fun r H locs hp hS hk => ?_)
            obtain ⟨rfl, hP, hD⟩ := hp
            refine m_if_eq_b (tgt := 51) hx hb dX3_setNumbers_34 (by decide) (fun c_34 => ?_) (fun c_34 => ?_)
            · exact m_vret hx hb hr hlk hS (Nat.le_of_ble_eq_true rfl) (Nat.le_of_ble_eq_true rfl) dX3_setNumbers_51 (⟨_, r3_2 (h1) ((by first | exact fun q => h2 q.1 | exact fun q => h3 q.2)) ⟨f, _, _, _, _, hP, hD, hR⟩⟩)
            · exact absurd c_34 (by decide)
          · exact absurd c_22 (by decide)
    | false =>
      have h2 := nB (inB_0 (x := y) (n := 100) (by decide)) e_9
      refine m_if_eq_b (tgt := 29) hx hb dX3_setNumbers_12 (by decide) (fun c_12 => ?_) (fun c_12 => ?_)
      · refine lv_iconst (v := nI 0) hx hb dX3_setNumbers_29 (by decide) ?_
        refine lv_iconst (v := nI 1) hx hb dX3_setNumbers_30 (by decide) ?_
        refine m_cVi (rest := []) ⟨hx, hb, hml, hown, hts⟩ hE hS (fun _ h => h) (kX3_goes l K A _ o ad f (nI dr.length) (nI ps.length) ta ti la hP hD true false true) (cwV 3 hts gX3_setNumbers_X3_goes rfl rfl rfl (by decide +kernel) ⟨Nat.le_of_ble_eq_true rfl, Nat.le_of_ble_eq_true rfl⟩) (va_recv hE.k hP (ci := 4) (q0 := 0) rfl rfl) rfl rfl hl.1 rfl (Nat.le_of_ble_eq_true rfl) dX3_setNumbers_31 ⟨Nat.le_of_ble_eq_true rfl, Nat.le_of_ble_eq_true rfl⟩ (fun r H locs hp hS hk => ?_)
        obtain ⟨rfl, hP, hD⟩ := hp
        refine m_if_eq_b (tgt := 51) hx hb dX3_setNumbers_34 (by decide) (fun c_34 => ?_) (fun c_34 => ?_)
        · exact m_vret hx hb hr hlk hS (Nat.le_of_ble_eq_true rfl) (Nat.le_of_ble_eq_true rfl) dX3_setNumbers_51 (⟨_, r3_2 (h1) ((by first | exact fun q => h2 q.1 | exact fun q => h3 q.2)) ⟨f, _, _, _, _, hP, hD, hR⟩⟩)
        · exact absurd c_34 (by decide)
      · exact absurd c_12 (by decide)
  | false =>
    have h1 := nB (okB_iff (x := x) (n := 6)) e_2
    refine lv_iload_n hx hb dX3_setNumbers_5 rfl (lv_at hl 2 rfl) ?_
    refine lv_iconst (v := nI 0) hx hb dX3_setNumbers_6 (by decide) ?_
    refine lv_bipush (v := nI 100) hx hb dX3_setNumbers_7 (by decide) ?_
    refine m_cSi (rest := [.int (bI false), .ref o]) ⟨hx, hb, hml, hown, hts⟩ hE hS (fun _ h => h) (kX3_in l K A _ y (nI 0) (nI 100)) (va_cwS 3 hts gX3_setNumbers_X3_in rfl rfl rfl (by decide +kernel) ⟨Nat.le_of_ble_eq_true rfl, Nat.le_of_ble_eq_true rfl⟩) rfl rfl hl.1 rfl (Nat.le_of_ble_eq_true rfl) dX3_setNumbers_9 ⟨Nat.le_of_ble_eq_true rfl, Nat.le_of_ble_eq_true rfl⟩ (fun r H1 locs hp hS hk => ?_)
    obtain ⟨rfl, rfl⟩ := hp
    cases e_9 : inB y (nI 0) (nI 100) with
    | true =>
      have h2 := (inB_0 (x := y) (n := 100) (by decide)).mp e_9
      refine m_if_eq_b (tgt := 29) hx hb dX3_setNumbers_12 (by decide) (fun c_12 => ?_) (fun c_12 => ?_)
      · exact absurd c_12 (by decide)
      · refine lv_iload_n hx hb dX3_setNumbers_15 rfl (lv_at hl 3 rfl) ?_
        refine lv_iconst (v := nI 0) hx hb dX3_setNumbers_16 (by decide) ?_
        refine lv_bipush (v := nI 100) hx hb dX3_setNumbers_17 (by decide) ?_
        refine m_cSi (rest := [.int (bI false), .ref o]) ⟨hx, hb, hml, hown, hts⟩ hE hS (fun _ h => h) (kX3_in l K A _ z (nI 0) (nI 100)) (va_cwS 3 hts gX3_setNumbers_X3_in rfl rfl rfl (by decide +kernel) ⟨Nat.le_of_ble_eq_true rfl, Nat.le_of_ble_eq_true rfl⟩) rfl rfl hl.1 rfl (Nat.le_of_ble_eq_true rfl) dX3_setNumbers_19 ⟨Nat.le_of_ble_eq_true rfl, Nat.le_of_ble_eq_true rfl⟩ (fun r H1 locs hp hS hk => ?_)
        obtain ⟨rfl, rfl⟩ := hp
        cases e_19 : inB z (nI 0) (nI 100) with
        | true =>
          have h3 := (inB_0 (x := z) (n := 100) (by decide)).mp e_19
          refine m_if_eq_b (tgt := 29) hx hb dX3_setNumbers_22 (by decide) (fun c_22 => ?_) (fun c_22 => ?_)
          · exact absurd c_22 (by decide)
          · refine lv_iconst (v := nI 1) hx hb dX3_setNumbers_25 (by decide) ?_
            refine lv_goto (tgt := 30) hx hb dX3_setNumbers_26 (by decide) ?_
            refine lv_iconst (v := nI 1) hx hb dX3_setNumbers_30 (by decide) ?_
            refine m_cVi (rest := []) ⟨hx, hb, hml, hown, hts⟩ hE hS (fun _ h => h) (kX3_goes l K A _ o ad f (nI dr.length) (nI ps.length) ta ti la hP hD false true true) (cwV 3 hts gX3_setNumbers_X3_goes rfl rfl rfl (by decide +kernel) ⟨Nat.le_of_ble_eq_true rfl, Nat.le_of_ble_eq_true rfl⟩) (va_recv hE.k hP (ci := 4) (q0 := 0) rfl rfl) rfl rfl hl.1 rfl (Nat.le_of_ble_eq_true rfl) dX3_setNumbers_31 ⟨Nat.le_of_ble_eq_true rfl, Nat.le_of_ble_eq_true rfl⟩ (fun r H locs hp hS hk => ?_)
            obtain ⟨rfl, hP, hD⟩ := hp
            refine m_if_eq_b (tgt := 51) hx hb dX3_setNumbers_34 (by decide) (fun c_34 => ?_) (fun c_34 => ?_)
            · exact m_vret hx hb hr hlk hS (Nat.le_of_ble_eq_true rfl) (Nat.le_of_ble_eq_true rfl) dX3_setNumbers_51 (⟨_, r3_1 (h1) ⟨f, _, _, _, _, hP, hD, hR⟩⟩)
            · exact absurd c_34 (by decide)
        | false =>
          have h3 := nB (inB_0 (x := z) (n := 100) (by decide)) e_19
          refine m_if_eq_b (tgt := 29) hx hb dX3_setNumbers_22 (by decide) (fun c_22 => ?_) (fun c_22 => ?_)
          · refine lv_iconst (v := nI 0) hx hb dX3_setNumbers_29 (by decide) ?_
            refine lv_iconst (v := nI 1) hx hb dX3_setNumbers_30 (by decide) ?_
            refine m_cVi (rest := []) ⟨hx, hb, hml, hown, hts⟩ hE hS (fun _ h => h) (kX3_goes l K A _ o ad f (nI dr.length) (nI ps.length) ta ti la hP hD false false true) (cwV 3 hts gX3_setNumbers_X3_goes rfl rfl rfl (by decide +kernel) ⟨Nat.le_of_ble_eq_true rfl, Nat.le_of_ble_eq_true rfl⟩) (va_recv hE.k hP (ci := 4) (q0 := 0) rfl rfl) rfl rfl hl.1 rfl (Nat.le_of_ble_eq_true rfl) dX3_setNumbers_31 ⟨Nat.le_of_ble_eq_true rfl, Nat.le_of_ble_eq_true rfl⟩ (fun r H locs hp hS hk => ?_)
            obtain ⟨rfl, hP, hD⟩ := hp
            refine m_if_eq_b (tgt := 51) hx hb dX3_setNumbers_34 (by decide) (fun c_34 => ?_) (fun c_34 => ?_)
            · exact m_vret hx hb hr hlk hS (Nat.le_of_ble_eq_true rfl) (Nat.le_of_ble_eq_true rfl) dX3_setNumbers_51 (⟨_, r3_1 (h1) ⟨f, _, _, _, _, hP, hD, hR⟩⟩)
            · exact absurd c_34 (by decide)
          · exact absurd c_22 (by decide)
    | false =>
      have h2 := nB (inB_0 (x := y) (n := 100) (by decide)) e_9
      refine m_if_eq_b (tgt := 29) hx hb dX3_setNumbers_12 (by decide) (fun c_12 => ?_) (fun c_12 => ?_)
      · refine lv_iconst (v := nI 0) hx hb dX3_setNumbers_29 (by decide) ?_
        refine lv_iconst (v := nI 1) hx hb dX3_setNumbers_30 (by decide) ?_
        refine m_cVi (rest := []) ⟨hx, hb, hml, hown, hts⟩ hE hS (fun _ h => h) (kX3_goes l K A _ o ad f (nI dr.length) (nI ps.length) ta ti la hP hD false false true) (cwV 3 hts gX3_setNumbers_X3_goes rfl rfl rfl (by decide +kernel) ⟨Nat.le_of_ble_eq_true rfl, Nat.le_of_ble_eq_true rfl⟩) (va_recv hE.k hP (ci := 4) (q0 := 0) rfl rfl) rfl rfl hl.1 rfl (Nat.le_of_ble_eq_true rfl) dX3_setNumbers_31 ⟨Nat.le_of_ble_eq_true rfl, Nat.le_of_ble_eq_true rfl⟩ (fun r H locs hp hS hk => ?_)
        obtain ⟨rfl, hP, hD⟩ := hp
        refine m_if_eq_b (tgt := 51) hx hb dX3_setNumbers_34 (by decide) (fun c_34 => ?_) (fun c_34 => ?_)
        · exact m_vret hx hb hr hlk hS (Nat.le_of_ble_eq_true rfl) (Nat.le_of_ble_eq_true rfl) dX3_setNumbers_51 (⟨_, r3_1 (h1) ⟨f, _, _, _, _, hP, hD, hR⟩⟩)
        · exact absurd c_34 (by decide)
      · exact absurd c_12 (by decide)

set_option maxHeartbeats 4000000 in
set_option maxRecDepth 100000 in
theorem kX3_setFallback (l : Launch) (K : m_K) (A : Nat → Prop) (H0 : Heap) (o : Nat) (ad : Nat → Nat) (fb : Nat → Nat) (on fw : Nat → Int32) (dr : List Int32) (fm : Nat → Option Frm) (vs ch : Nat → Int32) (ps : List Pr) (la : Int32) (hm9 : mOK K A H0 o ad fb on fw dr fm vs ch ps la) (x y : Int32) : Met l yX3_setFallback wsX3_setFallback ({ frames := 2, cells := 0, slots := 0, locals := 42 } : Room) (m_Pc K A H0 [.ref o, .int x, .int y]) (va_Qi (fun r H1 => ∃ k9, R3 (okN x 6 ∧ okN y 6 ∧ ¬ x = nI 0) (chP fb (tN x) 6 (tN y) 0 = none) k9 (r = nI (fb (tN x)) ∧ mOK K A H1 o ad (va_up fb (tN x) (tN y)) on fw dr fm vs ch ps k9) (mOK K A H1 o ad fb on fw dr fm vs ch ps k9)) m_B A) 0 0 A := by
  refine m_ofW (by decide) rfl (Nat.le_of_ble_eq_true rfl) ?_
  intro p e s m args below meth c ls hx hb hr hml hown hts hlk hnm hE hsz hS hl
  have hl : lv_has ls 5 [(0, .ref o), (1, .int x), (2, .int y)] := hl
  obtain ⟨f, d, pr, ta, ti, hP, hD, hR⟩ := hm9
  obtain ⟨hfb, hon, hfw, ⟨rfl, hdl, hdj⟩, hfm, hvs, hch, ⟨rfl, hps⟩, ⟨rk, hRK, hr5⟩, hin⟩ := id hR
  have hps20 := hps.1
  have iX3 : ∀ w ∈ wsX30, w ∈ wsX3_setFallback := by decide +kernel
  have f7 := hts (.fieldLink RX3 7 "PhraseCatalogueModel" "fallbacks" "[I") (by decide +kernel)
  refine lv_iload_n hx hb dX3_setFallback_0 rfl (lv_at hl 1 rfl) ?_
  refine lv_iconst (v := nI 1) hx hb dX3_setFallback_1 (by decide) ?_
  refine lv_iconst (v := nI 5) hx hb dX3_setFallback_2 (by decide) ?_
  refine m_cSi (rest := []) ⟨hx, hb, hml, hown, hts⟩ hE hS (fun _ h => h) (kX3_in l K A _ x (nI 1) (nI 5)) (va_cwS 3 hts gX3_setFallback_X3_in rfl rfl rfl (by decide +kernel) ⟨Nat.le_of_ble_eq_true rfl, Nat.le_of_ble_eq_true rfl⟩) rfl rfl hl.1 rfl (Nat.le_of_ble_eq_true rfl) dX3_setFallback_3 ⟨Nat.le_of_ble_eq_true rfl, Nat.le_of_ble_eq_true rfl⟩ (fun r H1 locs hp hS hk => ?_)
  obtain ⟨rfl, rfl⟩ := hp
  cases e_3 : inB x (nI 1) (nI 5) with
  | true =>
    have h1 := (inB_1 (x := x)).mp e_3
    refine m_if_eq_b (tgt := 20) hx hb dX3_setFallback_6 (by decide) (fun c_6 => ?_) (fun c_6 => ?_)
    · exact absurd c_6 (by decide)
    · refine lv_iload_n hx hb dX3_setFallback_9 rfl (lv_at hl 2 rfl) ?_
      refine m_cSi (rest := []) ⟨hx, hb, hml, hown, hts⟩ hE hS (fun _ h => h) (kX3_isLanguage l K A _ y) (va_cwS 1 hts gX3_setFallback_X3_isLanguage rfl rfl rfl (by decide +kernel) ⟨Nat.le_of_ble_eq_true rfl, Nat.le_of_ble_eq_true rfl⟩) rfl rfl hl.1 rfl (Nat.le_of_ble_eq_true rfl) dX3_setFallback_10 ⟨Nat.le_of_ble_eq_true rfl, Nat.le_of_ble_eq_true rfl⟩ (fun r H1 locs hp hS hk => ?_)
      obtain ⟨rfl, rfl⟩ := hp
      cases e_10 : okB y 6 with
      | true =>
        have h2 := (okB_iff (x := y) (n := 6)).mp e_10
        refine m_if_eq_b (tgt := 20) hx hb dX3_setFallback_13 (by decide) (fun c_13 => ?_) (fun c_13 => ?_)
        · exact absurd c_13 (by decide)
        · refine lv_iconst (v := nI 1) hx hb dX3_setFallback_16 (by decide) ?_
          refine lv_goto (tgt := 21) hx hb dX3_setFallback_17 (by decide) ?_
          refine lv_istore_n (lv' := [(3, .int (nI 1)), (0, .ref o), (1, .int x), (2, .int y)]) hx hb dX3_setFallback_21 rfl hl (by decide) rfl (fun ls hl => ?_)
          refine lv_aload_n hx hb dX3_setFallback_22 rfl (lv_at hl 1 rfl) ?_
          refine lv_iload_n hx hb dX3_setFallback_23 rfl (lv_at hl 0 rfl) ?_
          refine lv_iload_n hx hb dX3_setFallback_24 rfl (lv_at hl 0 rfl) ?_
          refine m_if_eq (tgt := 41) hx hb (by omega) dX3_setFallback_25 (by decide) (fun c_25 => ?_) (fun c_25 => ?_)
          · exact absurd c_25 (by decide)
          · refine lv_aload_n hx hb dX3_setFallback_28 rfl (lv_at hl 1 rfl) ?_
            refine lv_iload_n hx hb dX3_setFallback_29 rfl (lv_at hl 2 rfl) ?_
            refine lv_iload_n hx hb dX3_setFallback_30 rfl (lv_at hl 3 rfl) ?_
            obtain ⟨g, hk_g, rfl⟩ := okN_of h1.1 (by decide)
            obtain ⟨h9, hk_h9, rfl⟩ := okN_of h2 (by decide)
            have hl : lv_has ls 5 [(3, .int (nI 1)), (0, .ref o), (1, .int (nI g)), (2, .int (nI h9))] := hl
            refine m_cVi (rest := [.int (nI 1), .ref o]) ⟨hx, hb, hml, hown, hts⟩ hE hS (fun _ h => h) (kX3_isInChain l K A _ o ad f (nI dr.length) (nI ps.length) ta ti la hP fb hfb rk hRK hr5 g h9 hk_g hk_h9) (cwV 2 hts gX3_setFallback_X3_isInChain rfl rfl rfl (by decide +kernel) ⟨Nat.le_of_ble_eq_true rfl, Nat.le_of_ble_eq_true rfl⟩) (va_recv hE.k hP (ci := 4) (q0 := 0) rfl rfl) rfl rfl hl.1 rfl (Nat.le_of_ble_eq_true rfl) dX3_setFallback_31 ⟨Nat.le_of_ble_eq_true rfl, Nat.le_of_ble_eq_true rfl⟩ (fun r H1 locs hp hS hk => ?_)
            obtain ⟨rfl, rfl⟩ := hp
            cases e_31 : (chP fb g 6 h9 0).isSome with
            | true =>
              have h3 := (Iff.rfl).mp e_31
              refine m_if_ne_b (tgt := 41) hx hb dX3_setFallback_34 (by decide) (fun c_34 => ?_) (fun c_34 => ?_)
              · refine lv_iconst (v := nI 0) hx hb dX3_setFallback_41 (by decide) ?_
                refine lv_iconst (v := nI 1) hx hb dX3_setFallback_42 (by decide) ?_
                refine m_cVi (rest := []) ⟨hx, hb, hml, hown, hts⟩ hE hS (fun _ h => h) (kX3_goes l K A _ o ad f (nI dr.length) (nI ps.length) ta ti la hP hD true false true) (cwV 3 hts gX3_setFallback_X3_goes rfl rfl rfl (by decide +kernel) ⟨Nat.le_of_ble_eq_true rfl, Nat.le_of_ble_eq_true rfl⟩) (va_recv hE.k hP (ci := 4) (q0 := 0) rfl rfl) rfl rfl hl.1 rfl (Nat.le_of_ble_eq_true rfl) dX3_setFallback_43 ⟨Nat.le_of_ble_eq_true rfl, Nat.le_of_ble_eq_true rfl⟩ (fun r H locs hp hS hk => ?_)
                obtain ⟨rfl, hP, hD⟩ := hp
                refine m_if_ne_b (tgt := 51) hx hb dX3_setFallback_46 (by decide) (fun c_46 => ?_) (fun c_46 => ?_)
                · exact absurd c_46 (by decide)
                · refine lv_iconst (v := nI 0) hx hb dX3_setFallback_49 (by decide) ?_
                  exact m_iret hx hb hr hlk hS (Nat.le_of_ble_eq_true rfl) (Nat.le_of_ble_eq_true rfl) dX3_setFallback_50 (⟨_, r3_2 (⟨h1.1, h2, h1.2⟩) ((by rw [tN_nI (by omega), tN_nI (by omega)]; exact chP_y e_31)) ⟨f, _, _, _, _, hP, hD, hR⟩⟩)
              · exact absurd c_34 (by decide)
            | false =>
              have h3 := nB (Iff.rfl) e_31
              refine m_if_ne_b (tgt := 41) hx hb dX3_setFallback_34 (by decide) (fun c_34 => ?_) (fun c_34 => ?_)
              · exact absurd c_34 (by decide)
              · refine lv_iconst (v := nI 1) hx hb dX3_setFallback_37 (by decide) ?_
                refine lv_goto (tgt := 42) hx hb dX3_setFallback_38 (by decide) ?_
                refine lv_iconst (v := nI 1) hx hb dX3_setFallback_42 (by decide) ?_
                refine m_cVi (rest := []) ⟨hx, hb, hml, hown, hts⟩ hE hS (fun _ h => h) (kX3_goes l K A _ o ad f (nI dr.length) (nI ps.length) ta ti la hP hD true true true) (cwV 3 hts gX3_setFallback_X3_goes rfl rfl rfl (by decide +kernel) ⟨Nat.le_of_ble_eq_true rfl, Nat.le_of_ble_eq_true rfl⟩) (va_recv hE.k hP (ci := 4) (q0 := 0) rfl rfl) rfl rfl hl.1 rfl (Nat.le_of_ble_eq_true rfl) dX3_setFallback_43 ⟨Nat.le_of_ble_eq_true rfl, Nat.le_of_ble_eq_true rfl⟩ (fun r H locs hp hS hk => ?_)
                obtain ⟨rfl, hP, hD⟩ := hp
                refine m_if_ne_b (tgt := 51) hx hb dX3_setFallback_46 (by decide) (fun c_46 => ?_) (fun c_46 => ?_)
                · refine lv_aload_n hx hb dX3_setFallback_51 rfl (lv_at hl 1 rfl) ?_
                  refine va_get (D := K.1) (ci := 4) (v := .ref (ad 0)) (C := RX3) (T := TX3) (N := 21) hx hb hts iX3 hown hE.k hP 0 rfl rfl 0 (by decide) f7 (fun _ h9 => h9) rfl dX3_setFallback_52 ?_
                  refine lv_iload_n hx hb dX3_setFallback_55 rfl (lv_at hl 2 rfl) ?_
                  refine m_iald hx hb hE.k hP 1 rfl (by omega) (by omega) ((hfb _ (by omega)).1) dX3_setFallback_56 ?_
                  refine lv_istore (lv' := [(4, .int (nI (fb g))), (3, .int (nI 1)), (0, .ref o), (1, .int (nI g)), (2, .int (nI h9))]) hx hb dX3_setFallback_57 hl (by decide) rfl (fun ls hl => ?_)
                  refine lv_aload_n hx hb dX3_setFallback_59 rfl (lv_at hl 2 rfl) ?_
                  refine va_get (D := K.1) (ci := 4) (v := .ref (ad 0)) (C := RX3) (T := TX3) (N := 21) hx hb hts iX3 hown hE.k hP 0 rfl rfl 0 (by decide) f7 (fun _ h9 => h9) rfl dX3_setFallback_60 ?_
                  refine lv_iload_n hx hb dX3_setFallback_63 rfl (lv_at hl 3 rfl) ?_
                  refine lv_iload_n hx hb dX3_setFallback_64 rfl (lv_at hl 4 rfl) ?_
                  refine m_iast hx hb hE.k hP hD hS 1 rfl (by omega) (by omega) dX3_setFallback_65 (fun H locs hP hD hS => ?_)
                  have hP : va_P K.1 vwCl (mW K o ad (va_up f 0 (upd (f 0) g (nI h9))) (nI dr.length) (nI ps.length) ta ti (nI (goL true true true))) H := hP
                  have hD : va_D A (mW K o ad (va_up f 0 (upd (f 0) g (nI h9))) (nI dr.length) (nI ps.length) ta ti (nI (goL true true true))) := hD
                  refine lv_iload hx hb dX3_setFallback_66 (lv_at hl 0 rfl) ?_
                  exact m_iret hx hb hr hlk hS (Nat.le_of_ble_eq_true rfl) (Nat.le_of_ble_eq_true rfl) dX3_setFallback_68 (⟨_, r3_0 (⟨h1.1, h2, h1.2⟩) ((by rw [tN_nI (by omega), tN_nI (by omega)]; exact chP_n e_31)) ⟨by rw [tN_nI (by omega)], _, _, _, _, _, hP, hD, by rw [tN_nI (by omega), tN_nI (by omega)]; exact upd_fb hfb hk_h9, hon, hfw, ⟨rfl, hdl, hdj⟩, hfm, hvs, hch, ⟨rfl, hps⟩, by rw [tN_nI (by omega), tN_nI (by omega)]; exact RK_set (fun l hl => (hfb l hl).2) hRK hr5 hk_g (fun z => h1.2 (by rw [z])) hk_h9 (chP_n e_31), hin⟩⟩)
                · exact absurd c_46 (by decide)
      | false =>
        have h2 := nB (okB_iff (x := y) (n := 6)) e_10
        refine m_if_eq_b (tgt := 20) hx hb dX3_setFallback_13 (by decide) (fun c_13 => ?_) (fun c_13 => ?_)
        · refine lv_iconst (v := nI 0) hx hb dX3_setFallback_20 (by decide) ?_
          refine lv_istore_n (lv' := [(3, .int (nI 0)), (0, .ref o), (1, .int x), (2, .int y)]) hx hb dX3_setFallback_21 rfl hl (by decide) rfl (fun ls hl => ?_)
          refine lv_aload_n hx hb dX3_setFallback_22 rfl (lv_at hl 1 rfl) ?_
          refine lv_iload_n hx hb dX3_setFallback_23 rfl (lv_at hl 0 rfl) ?_
          refine lv_iload_n hx hb dX3_setFallback_24 rfl (lv_at hl 0 rfl) ?_
          refine m_if_eq (tgt := 41) hx hb (by omega) dX3_setFallback_25 (by decide) (fun c_25 => ?_) (fun c_25 => ?_)
          · refine lv_iconst (v := nI 0) hx hb dX3_setFallback_41 (by decide) ?_
            refine lv_iconst (v := nI 1) hx hb dX3_setFallback_42 (by decide) ?_
            refine m_cVi (rest := []) ⟨hx, hb, hml, hown, hts⟩ hE hS (fun _ h => h) (kX3_goes l K A _ o ad f (nI dr.length) (nI ps.length) ta ti la hP hD false false true) (cwV 3 hts gX3_setFallback_X3_goes rfl rfl rfl (by decide +kernel) ⟨Nat.le_of_ble_eq_true rfl, Nat.le_of_ble_eq_true rfl⟩) (va_recv hE.k hP (ci := 4) (q0 := 0) rfl rfl) rfl rfl hl.1 rfl (Nat.le_of_ble_eq_true rfl) dX3_setFallback_43 ⟨Nat.le_of_ble_eq_true rfl, Nat.le_of_ble_eq_true rfl⟩ (fun r H locs hp hS hk => ?_)
            obtain ⟨rfl, hP, hD⟩ := hp
            refine m_if_ne_b (tgt := 51) hx hb dX3_setFallback_46 (by decide) (fun c_46 => ?_) (fun c_46 => ?_)
            · exact absurd c_46 (by decide)
            · refine lv_iconst (v := nI 0) hx hb dX3_setFallback_49 (by decide) ?_
              exact m_iret hx hb hr hlk hS (Nat.le_of_ble_eq_true rfl) (Nat.le_of_ble_eq_true rfl) dX3_setFallback_50 (⟨_, r3_1 ((by first | exact fun q => h1 ⟨q.1, q.2.2⟩ | exact fun q => h2 q.2.1)) ⟨f, _, _, _, _, hP, hD, hR⟩⟩)
          · exact absurd c_25 (by decide)
        · exact absurd c_13 (by decide)
  | false =>
    have h1 := nB (inB_1 (x := x)) e_3
    refine m_if_eq_b (tgt := 20) hx hb dX3_setFallback_6 (by decide) (fun c_6 => ?_) (fun c_6 => ?_)
    · refine lv_iconst (v := nI 0) hx hb dX3_setFallback_20 (by decide) ?_
      refine lv_istore_n (lv' := [(3, .int (nI 0)), (0, .ref o), (1, .int x), (2, .int y)]) hx hb dX3_setFallback_21 rfl hl (by decide) rfl (fun ls hl => ?_)
      refine lv_aload_n hx hb dX3_setFallback_22 rfl (lv_at hl 1 rfl) ?_
      refine lv_iload_n hx hb dX3_setFallback_23 rfl (lv_at hl 0 rfl) ?_
      refine lv_iload_n hx hb dX3_setFallback_24 rfl (lv_at hl 0 rfl) ?_
      refine m_if_eq (tgt := 41) hx hb (by omega) dX3_setFallback_25 (by decide) (fun c_25 => ?_) (fun c_25 => ?_)
      · refine lv_iconst (v := nI 0) hx hb dX3_setFallback_41 (by decide) ?_
        refine lv_iconst (v := nI 1) hx hb dX3_setFallback_42 (by decide) ?_
        refine m_cVi (rest := []) ⟨hx, hb, hml, hown, hts⟩ hE hS (fun _ h => h) (kX3_goes l K A _ o ad f (nI dr.length) (nI ps.length) ta ti la hP hD false false true) (cwV 3 hts gX3_setFallback_X3_goes rfl rfl rfl (by decide +kernel) ⟨Nat.le_of_ble_eq_true rfl, Nat.le_of_ble_eq_true rfl⟩) (va_recv hE.k hP (ci := 4) (q0 := 0) rfl rfl) rfl rfl hl.1 rfl (Nat.le_of_ble_eq_true rfl) dX3_setFallback_43 ⟨Nat.le_of_ble_eq_true rfl, Nat.le_of_ble_eq_true rfl⟩ (fun r H locs hp hS hk => ?_)
        obtain ⟨rfl, hP, hD⟩ := hp
        refine m_if_ne_b (tgt := 51) hx hb dX3_setFallback_46 (by decide) (fun c_46 => ?_) (fun c_46 => ?_)
        · exact absurd c_46 (by decide)
        · refine lv_iconst (v := nI 0) hx hb dX3_setFallback_49 (by decide) ?_
          exact m_iret hx hb hr hlk hS (Nat.le_of_ble_eq_true rfl) (Nat.le_of_ble_eq_true rfl) dX3_setFallback_50 (⟨_, r3_1 ((by first | exact fun q => h1 ⟨q.1, q.2.2⟩ | exact fun q => h2 q.2.1)) ⟨f, _, _, _, _, hP, hD, hR⟩⟩)
      · exact absurd c_25 (by decide)
    · exact absurd c_6 (by decide)

set_option maxHeartbeats 4000000 in
set_option maxRecDepth 100000 in
theorem kX3_sign (l : Launch) (K : m_K) (A : Nat → Prop) (H0 : Heap) (o : Nat) (ad : Nat → Nat) (fb : Nat → Nat) (on fw : Nat → Int32) (dr : List Int32) (fm : Nat → Option Frm) (vs ch : Nat → Int32) (ps : List Pr) (la : Int32) (hm9 : mOK K A H0 o ad fb on fw dr fm vs ch ps la) (x : Int32) : Met l yX3_sign wsX3_sign ({ frames := 1, cells := 0, slots := 0, locals := 23 } : Room) (m_Pc K A H0 [.ref o, .int x]) (va_Qi (fun r H1 => ∃ k9, R3 ((isWd x = true ∨ isPh x = true)) (dr.length < 8) k9 (r = nI (dr.length + 1) ∧ mOK K A H1 o ad fb on fw (dr ++ [x]) fm vs ch ps k9) (mOK K A H1 o ad fb on fw dr fm vs ch ps k9)) m_B A) 0 0 A := by
  refine m_ofW (by decide) rfl (Nat.le_of_ble_eq_true rfl) ?_
  intro p e s m args below meth c ls hx hb hr hml hown hts hlk hnm hE hsz hS hl
  have hl : lv_has ls 2 [(0, .ref o), (1, .int x)] := hl
  obtain ⟨f, d, pr, ta, ti, hP, hD, hR⟩ := hm9
  obtain ⟨hfb, hon, hfw, ⟨rfl, hdl, hdj⟩, hfm, hvs, hch, ⟨rfl, hps⟩, ⟨rk, hRK, hr5⟩, hin⟩ := id hR
  have hps20 := hps.1
  have iX3 : ∀ w ∈ wsX30, w ∈ wsX3_sign := by decide +kernel
  have f85 := hts (.fieldLink RX3 85 "PhraseCatalogueModel" "draft" "I") (by decide +kernel)
  have f19 := hts (.fieldLink RX3 19 "PhraseCatalogueModel" "drafted" "[I") (by decide +kernel)
  refine lv_aload_n hx hb dX3_sign_0 rfl (lv_at hl 0 rfl) ?_
  refine lv_iload_n hx hb dX3_sign_1 rfl (lv_at hl 1 rfl) ?_
  refine lv_iconst (v := nI 1) hx hb dX3_sign_2 (by decide) ?_
  refine lv_bipush (v := nI 99) hx hb dX3_sign_3 (by decide) ?_
  refine m_cSi (rest := [.ref o]) ⟨hx, hb, hml, hown, hts⟩ hE hS (fun _ h => h) (kX3_in l K A _ x (nI 1) (nI 99)) (va_cwS 3 hts gX3_sign_X3_in rfl rfl rfl (by decide +kernel) ⟨Nat.le_of_ble_eq_true rfl, Nat.le_of_ble_eq_true rfl⟩) rfl rfl hl.1 rfl (Nat.le_of_ble_eq_true rfl) dX3_sign_5 ⟨Nat.le_of_ble_eq_true rfl, Nat.le_of_ble_eq_true rfl⟩ (fun r H1 locs hp hS hk => ?_)
  obtain ⟨rfl, rfl⟩ := hp
  cases e_5 : inB x (nI 1) (nI 99) with
  | true =>
    have h1 := ((Iff.rfl : inB x (nI 1) (nI 99) = true ↔ isWd x = true)).mp e_5
    refine m_if_ne_b (tgt := 22) hx hb dX3_sign_8 (by decide) (fun c_8 => ?_) (fun c_8 => ?_)
    · refine lv_iconst (v := nI 1) hx hb dX3_sign_22 (by decide) ?_
      refine lv_goto (tgt := 27) hx hb dX3_sign_23 (by decide) ?_
      refine lv_aload_n hx hb dX3_sign_27 rfl (lv_at hl 0 rfl) ?_
      refine va_get (D := K.1) (ci := 4) (v := .int (nI dr.length)) (C := RX3) (T := TX3) (N := 21) hx hb hts iX3 hown hE.k hP 0 rfl rfl 4 (by decide) f85 (fun _ h9 => h9) rfl dX3_sign_28 ?_
      refine lv_bipush (v := nI 8) hx hb dX3_sign_31 (by decide) ?_
      refine m_icmp_ge (tgt := 40) hx hb (by omega) (by omega) dX3_sign_33 (by decide) (fun c_33 => ?_) (fun c_33 => ?_)
      · refine lv_iconst (v := nI 0) hx hb dX3_sign_40 (by decide) ?_
        refine lv_iconst (v := nI 1) hx hb dX3_sign_41 (by decide) ?_
        refine m_cVi (rest := []) ⟨hx, hb, hml, hown, hts⟩ hE hS (fun _ h => h) (kX3_goes l K A _ o ad f (nI dr.length) (nI ps.length) ta ti la hP hD true false true) (cwV 3 hts gX3_sign_X3_goes rfl rfl rfl (by decide +kernel) ⟨Nat.le_of_ble_eq_true rfl, Nat.le_of_ble_eq_true rfl⟩) (va_recv hE.k hP (ci := 4) (q0 := 0) rfl rfl) rfl rfl hl.1 rfl (Nat.le_of_ble_eq_true rfl) dX3_sign_42 ⟨Nat.le_of_ble_eq_true rfl, Nat.le_of_ble_eq_true rfl⟩ (fun r H locs hp hS hk => ?_)
        obtain ⟨rfl, hP, hD⟩ := hp
        refine m_if_ne_b (tgt := 50) hx hb dX3_sign_45 (by decide) (fun c_45 => ?_) (fun c_45 => ?_)
        · exact absurd c_45 (by decide)
        · refine lv_iconst (v := nI 0) hx hb dX3_sign_48 (by decide) ?_
          exact m_iret hx hb hr hlk hS (Nat.le_of_ble_eq_true rfl) (Nat.le_of_ble_eq_true rfl) dX3_sign_49 (⟨_, r3_2 (Or.inl h1) (fun q => absurd q (Nat.not_lt.mpr c_33)) ⟨f, _, _, _, _, hP, hD, hR⟩⟩)
      · refine lv_iconst (v := nI 1) hx hb dX3_sign_36 (by decide) ?_
        refine lv_goto (tgt := 41) hx hb dX3_sign_37 (by decide) ?_
        refine lv_iconst (v := nI 1) hx hb dX3_sign_41 (by decide) ?_
        refine m_cVi (rest := []) ⟨hx, hb, hml, hown, hts⟩ hE hS (fun _ h => h) (kX3_goes l K A _ o ad f (nI dr.length) (nI ps.length) ta ti la hP hD true true true) (cwV 3 hts gX3_sign_X3_goes rfl rfl rfl (by decide +kernel) ⟨Nat.le_of_ble_eq_true rfl, Nat.le_of_ble_eq_true rfl⟩) (va_recv hE.k hP (ci := 4) (q0 := 0) rfl rfl) rfl rfl hl.1 rfl (Nat.le_of_ble_eq_true rfl) dX3_sign_42 ⟨Nat.le_of_ble_eq_true rfl, Nat.le_of_ble_eq_true rfl⟩ (fun r H locs hp hS hk => ?_)
        obtain ⟨rfl, hP, hD⟩ := hp
        refine m_if_ne_b (tgt := 50) hx hb dX3_sign_45 (by decide) (fun c_45 => ?_) (fun c_45 => ?_)
        · refine lv_aload_n hx hb dX3_sign_50 rfl (lv_at hl 0 rfl) ?_
          refine va_get (D := K.1) (ci := 4) (v := .ref (ad 3)) (C := RX3) (T := TX3) (N := 21) hx hb hts iX3 hown hE.k hP 0 rfl rfl 3 (by decide) f19 (fun _ h9 => h9) rfl dX3_sign_51 ?_
          refine lv_aload_n hx hb dX3_sign_54 rfl (lv_at hl 0 rfl) ?_
          refine va_get (D := K.1) (ci := 4) (v := .int (nI dr.length)) (C := RX3) (T := TX3) (N := 21) hx hb hts iX3 hown hE.k hP 0 rfl rfl 4 (by decide) f85 (fun _ h9 => h9) rfl dX3_sign_55 ?_
          refine lv_iload_n hx hb dX3_sign_58 rfl (lv_at hl 1 rfl) ?_
          refine m_iast hx hb hE.k hP hD hS 4 rfl (by omega) (by omega) dX3_sign_59 (fun H locs hP hD hS => ?_)
          have hP : va_P K.1 vwCl (mW K o ad (va_up f 3 (upd (f 3) dr.length x)) (nI dr.length) (nI ps.length) ta ti (nI (goL true true true))) H := hP
          have hD : va_D A (mW K o ad (va_up f 3 (upd (f 3) dr.length x)) (nI dr.length) (nI ps.length) ta ti (nI (goL true true true))) := hD
          refine lv_aload_n hx hb dX3_sign_60 rfl (lv_at hl 0 rfl) ?_
          refine lv_dup hx hb dX3_sign_61 rfl ?_
          refine va_get (D := K.1) (ci := 4) (v := .int (nI dr.length)) (C := RX3) (T := TX3) (N := 21) hx hb hts iX3 hown hE.k hP 0 rfl rfl 4 (by decide) f85 (fun _ h9 => h9) rfl dX3_sign_62 ?_
          refine lv_iconst (v := nI 1) hx hb dX3_sign_65 (by decide) ?_
          refine m_iadd hx hb dX3_sign_66 ?_
          refine va_put (D := K.1) (ci := 4) (v := .int (nI (dr.length + 1))) (ty := .int) (C := RX3) (T := TX3) (N := 21) hx hb hts iX3 tyX3 tyX3_ok nmX3 hown hE.k hP hD hS 0 rfl rfl 4 (by decide) f85 (fun _ h9 => h9) rfl (by decide +kernel) rfl rfl (Nat.le_of_ble_eq_true rfl) dX3_sign_67 (fun H locs hP hD hS => ?_)
          have hP : va_P K.1 vwCl (mW K o ad (va_up f 3 (upd (f 3) dr.length x)) (nI (dr.length + 1)) (nI ps.length) ta ti (nI (goL true true true))) H := hP
          have hD : va_D A (mW K o ad (va_up f 3 (upd (f 3) dr.length x)) (nI (dr.length + 1)) (nI ps.length) ta ti (nI (goL true true true))) := hD
          refine lv_aload_n hx hb dX3_sign_70 rfl (lv_at hl 0 rfl) ?_
          refine va_get (D := K.1) (ci := 4) (v := .int (nI (dr.length + 1))) (C := RX3) (T := TX3) (N := 21) hx hb hts iX3 hown hE.k hP 0 rfl rfl 4 (by decide) f85 (fun _ h9 => h9) rfl dX3_sign_71 ?_
          exact m_iret hx hb hr hlk hS (Nat.le_of_ble_eq_true rfl) (Nat.le_of_ble_eq_true rfl) dX3_sign_74 (⟨_, r3_0 (Or.inl h1) (Nat.lt_of_not_le c_33) ⟨rfl, _, _, _, _, _, hP, hD, hfb, hon, hfw, ⟨by simp, by simp; omega, snoc_get hdj⟩, hfm, hvs, hch, ⟨rfl, hps⟩, ⟨rk, hRK, hr5⟩, hin⟩⟩)
        · exact absurd c_45 (by decide)
    · exact absurd c_8 (by decide)
  | false =>
    have h1 := nB ((Iff.rfl : inB x (nI 1) (nI 99) = true ↔ isWd x = true)) e_5
    refine m_if_ne_b (tgt := 22) hx hb dX3_sign_8 (by decide) (fun c_8 => ?_) (fun c_8 => ?_)
    · exact absurd c_8 (by decide)
    · refine lv_iload_n hx hb dX3_sign_11 rfl (lv_at hl 1 rfl) ?_
      refine lv_bipush (v := nI 101) hx hb dX3_sign_12 (by decide) ?_
      refine lv_bipush (v := nI 104) hx hb dX3_sign_14 (by decide) ?_
      refine m_cSi (rest := [.ref o]) ⟨hx, hb, hml, hown, hts⟩ hE hS (fun _ h => h) (kX3_in l K A _ x (nI 101) (nI 104)) (va_cwS 3 hts gX3_sign_X3_in rfl rfl rfl (by decide +kernel) ⟨Nat.le_of_ble_eq_true rfl, Nat.le_of_ble_eq_true rfl⟩) rfl rfl hl.1 rfl (Nat.le_of_ble_eq_true rfl) dX3_sign_16 ⟨Nat.le_of_ble_eq_true rfl, Nat.le_of_ble_eq_true rfl⟩ (fun r H1 locs hp hS hk => ?_)
      obtain ⟨rfl, rfl⟩ := hp
      cases e_16 : inB x (nI 101) (nI 104) with
      | true =>
        have h2 := ((Iff.rfl : inB x (nI 101) (nI 104) = true ↔ isPh x = true)).mp e_16
        refine m_if_eq_b (tgt := 26) hx hb dX3_sign_19 (by decide) (fun c_19 => ?_) (fun c_19 => ?_)
        · exact absurd c_19 (by decide)
        · refine lv_iconst (v := nI 1) hx hb dX3_sign_22 (by decide) ?_
          refine lv_goto (tgt := 27) hx hb dX3_sign_23 (by decide) ?_
          refine lv_aload_n hx hb dX3_sign_27 rfl (lv_at hl 0 rfl) ?_
          refine va_get (D := K.1) (ci := 4) (v := .int (nI dr.length)) (C := RX3) (T := TX3) (N := 21) hx hb hts iX3 hown hE.k hP 0 rfl rfl 4 (by decide) f85 (fun _ h9 => h9) rfl dX3_sign_28 ?_
          refine lv_bipush (v := nI 8) hx hb dX3_sign_31 (by decide) ?_
          refine m_icmp_ge (tgt := 40) hx hb (by omega) (by omega) dX3_sign_33 (by decide) (fun c_33 => ?_) (fun c_33 => ?_)
          · refine lv_iconst (v := nI 0) hx hb dX3_sign_40 (by decide) ?_
            refine lv_iconst (v := nI 1) hx hb dX3_sign_41 (by decide) ?_
            refine m_cVi (rest := []) ⟨hx, hb, hml, hown, hts⟩ hE hS (fun _ h => h) (kX3_goes l K A _ o ad f (nI dr.length) (nI ps.length) ta ti la hP hD true false true) (cwV 3 hts gX3_sign_X3_goes rfl rfl rfl (by decide +kernel) ⟨Nat.le_of_ble_eq_true rfl, Nat.le_of_ble_eq_true rfl⟩) (va_recv hE.k hP (ci := 4) (q0 := 0) rfl rfl) rfl rfl hl.1 rfl (Nat.le_of_ble_eq_true rfl) dX3_sign_42 ⟨Nat.le_of_ble_eq_true rfl, Nat.le_of_ble_eq_true rfl⟩ (fun r H locs hp hS hk => ?_)
            obtain ⟨rfl, hP, hD⟩ := hp
            refine m_if_ne_b (tgt := 50) hx hb dX3_sign_45 (by decide) (fun c_45 => ?_) (fun c_45 => ?_)
            · exact absurd c_45 (by decide)
            · refine lv_iconst (v := nI 0) hx hb dX3_sign_48 (by decide) ?_
              exact m_iret hx hb hr hlk hS (Nat.le_of_ble_eq_true rfl) (Nat.le_of_ble_eq_true rfl) dX3_sign_49 (⟨_, r3_2 (Or.inr h2) (fun q => absurd q (Nat.not_lt.mpr c_33)) ⟨f, _, _, _, _, hP, hD, hR⟩⟩)
          · refine lv_iconst (v := nI 1) hx hb dX3_sign_36 (by decide) ?_
            refine lv_goto (tgt := 41) hx hb dX3_sign_37 (by decide) ?_
            refine lv_iconst (v := nI 1) hx hb dX3_sign_41 (by decide) ?_
            refine m_cVi (rest := []) ⟨hx, hb, hml, hown, hts⟩ hE hS (fun _ h => h) (kX3_goes l K A _ o ad f (nI dr.length) (nI ps.length) ta ti la hP hD true true true) (cwV 3 hts gX3_sign_X3_goes rfl rfl rfl (by decide +kernel) ⟨Nat.le_of_ble_eq_true rfl, Nat.le_of_ble_eq_true rfl⟩) (va_recv hE.k hP (ci := 4) (q0 := 0) rfl rfl) rfl rfl hl.1 rfl (Nat.le_of_ble_eq_true rfl) dX3_sign_42 ⟨Nat.le_of_ble_eq_true rfl, Nat.le_of_ble_eq_true rfl⟩ (fun r H locs hp hS hk => ?_)
            obtain ⟨rfl, hP, hD⟩ := hp
            refine m_if_ne_b (tgt := 50) hx hb dX3_sign_45 (by decide) (fun c_45 => ?_) (fun c_45 => ?_)
            · refine lv_aload_n hx hb dX3_sign_50 rfl (lv_at hl 0 rfl) ?_
              refine va_get (D := K.1) (ci := 4) (v := .ref (ad 3)) (C := RX3) (T := TX3) (N := 21) hx hb hts iX3 hown hE.k hP 0 rfl rfl 3 (by decide) f19 (fun _ h9 => h9) rfl dX3_sign_51 ?_
              refine lv_aload_n hx hb dX3_sign_54 rfl (lv_at hl 0 rfl) ?_
              refine va_get (D := K.1) (ci := 4) (v := .int (nI dr.length)) (C := RX3) (T := TX3) (N := 21) hx hb hts iX3 hown hE.k hP 0 rfl rfl 4 (by decide) f85 (fun _ h9 => h9) rfl dX3_sign_55 ?_
              refine lv_iload_n hx hb dX3_sign_58 rfl (lv_at hl 1 rfl) ?_
              refine m_iast hx hb hE.k hP hD hS 4 rfl (by omega) (by omega) dX3_sign_59 (fun H locs hP hD hS => ?_)
              have hP : va_P K.1 vwCl (mW K o ad (va_up f 3 (upd (f 3) dr.length x)) (nI dr.length) (nI ps.length) ta ti (nI (goL true true true))) H := hP
              have hD : va_D A (mW K o ad (va_up f 3 (upd (f 3) dr.length x)) (nI dr.length) (nI ps.length) ta ti (nI (goL true true true))) := hD
              refine lv_aload_n hx hb dX3_sign_60 rfl (lv_at hl 0 rfl) ?_
              refine lv_dup hx hb dX3_sign_61 rfl ?_
              refine va_get (D := K.1) (ci := 4) (v := .int (nI dr.length)) (C := RX3) (T := TX3) (N := 21) hx hb hts iX3 hown hE.k hP 0 rfl rfl 4 (by decide) f85 (fun _ h9 => h9) rfl dX3_sign_62 ?_
              refine lv_iconst (v := nI 1) hx hb dX3_sign_65 (by decide) ?_
              refine m_iadd hx hb dX3_sign_66 ?_
              refine va_put (D := K.1) (ci := 4) (v := .int (nI (dr.length + 1))) (ty := .int) (C := RX3) (T := TX3) (N := 21) hx hb hts iX3 tyX3 tyX3_ok nmX3 hown hE.k hP hD hS 0 rfl rfl 4 (by decide) f85 (fun _ h9 => h9) rfl (by decide +kernel) rfl rfl (Nat.le_of_ble_eq_true rfl) dX3_sign_67 (fun H locs hP hD hS => ?_)
              have hP : va_P K.1 vwCl (mW K o ad (va_up f 3 (upd (f 3) dr.length x)) (nI (dr.length + 1)) (nI ps.length) ta ti (nI (goL true true true))) H := hP
              have hD : va_D A (mW K o ad (va_up f 3 (upd (f 3) dr.length x)) (nI (dr.length + 1)) (nI ps.length) ta ti (nI (goL true true true))) := hD
              refine lv_aload_n hx hb dX3_sign_70 rfl (lv_at hl 0 rfl) ?_
              refine va_get (D := K.1) (ci := 4) (v := .int (nI (dr.length + 1))) (C := RX3) (T := TX3) (N := 21) hx hb hts iX3 hown hE.k hP 0 rfl rfl 4 (by decide) f85 (fun _ h9 => h9) rfl dX3_sign_71 ?_
              exact m_iret hx hb hr hlk hS (Nat.le_of_ble_eq_true rfl) (Nat.le_of_ble_eq_true rfl) dX3_sign_74 (⟨_, r3_0 (Or.inr h2) (Nat.lt_of_not_le c_33) ⟨rfl, _, _, _, _, _, hP, hD, hfb, hon, hfw, ⟨by simp, by simp; omega, snoc_get hdj⟩, hfm, hvs, hch, ⟨rfl, hps⟩, ⟨rk, hRK, hr5⟩, hin⟩⟩)
            · exact absurd c_45 (by decide)
      | false =>
        have h2 := nB ((Iff.rfl : inB x (nI 101) (nI 104) = true ↔ isPh x = true)) e_16
        refine m_if_eq_b (tgt := 26) hx hb dX3_sign_19 (by decide) (fun c_19 => ?_) (fun c_19 => ?_)
        · refine lv_iconst (v := nI 0) hx hb dX3_sign_26 (by decide) ?_
          refine lv_aload_n hx hb dX3_sign_27 rfl (lv_at hl 0 rfl) ?_
          refine va_get (D := K.1) (ci := 4) (v := .int (nI dr.length)) (C := RX3) (T := TX3) (N := 21) hx hb hts iX3 hown hE.k hP 0 rfl rfl 4 (by decide) f85 (fun _ h9 => h9) rfl dX3_sign_28 ?_
          refine lv_bipush (v := nI 8) hx hb dX3_sign_31 (by decide) ?_
          refine m_icmp_ge (tgt := 40) hx hb (by omega) (by omega) dX3_sign_33 (by decide) (fun c_33 => ?_) (fun c_33 => ?_)
          · refine lv_iconst (v := nI 0) hx hb dX3_sign_40 (by decide) ?_
            refine lv_iconst (v := nI 1) hx hb dX3_sign_41 (by decide) ?_
            refine m_cVi (rest := []) ⟨hx, hb, hml, hown, hts⟩ hE hS (fun _ h => h) (kX3_goes l K A _ o ad f (nI dr.length) (nI ps.length) ta ti la hP hD false false true) (cwV 3 hts gX3_sign_X3_goes rfl rfl rfl (by decide +kernel) ⟨Nat.le_of_ble_eq_true rfl, Nat.le_of_ble_eq_true rfl⟩) (va_recv hE.k hP (ci := 4) (q0 := 0) rfl rfl) rfl rfl hl.1 rfl (Nat.le_of_ble_eq_true rfl) dX3_sign_42 ⟨Nat.le_of_ble_eq_true rfl, Nat.le_of_ble_eq_true rfl⟩ (fun r H locs hp hS hk => ?_)
            obtain ⟨rfl, hP, hD⟩ := hp
            refine m_if_ne_b (tgt := 50) hx hb dX3_sign_45 (by decide) (fun c_45 => ?_) (fun c_45 => ?_)
            · exact absurd c_45 (by decide)
            · refine lv_iconst (v := nI 0) hx hb dX3_sign_48 (by decide) ?_
              exact m_iret hx hb hr hlk hS (Nat.le_of_ble_eq_true rfl) (Nat.le_of_ble_eq_true rfl) dX3_sign_49 (⟨_, r3_1 (fun q => q.elim h1 h2) ⟨f, _, _, _, _, hP, hD, hR⟩⟩)
          · refine lv_iconst (v := nI 1) hx hb dX3_sign_36 (by decide) ?_
            refine lv_goto (tgt := 41) hx hb dX3_sign_37 (by decide) ?_
            refine lv_iconst (v := nI 1) hx hb dX3_sign_41 (by decide) ?_
            refine m_cVi (rest := []) ⟨hx, hb, hml, hown, hts⟩ hE hS (fun _ h => h) (kX3_goes l K A _ o ad f (nI dr.length) (nI ps.length) ta ti la hP hD false true true) (cwV 3 hts gX3_sign_X3_goes rfl rfl rfl (by decide +kernel) ⟨Nat.le_of_ble_eq_true rfl, Nat.le_of_ble_eq_true rfl⟩) (va_recv hE.k hP (ci := 4) (q0 := 0) rfl rfl) rfl rfl hl.1 rfl (Nat.le_of_ble_eq_true rfl) dX3_sign_42 ⟨Nat.le_of_ble_eq_true rfl, Nat.le_of_ble_eq_true rfl⟩ (fun r H locs hp hS hk => ?_)
            obtain ⟨rfl, hP, hD⟩ := hp
            refine m_if_ne_b (tgt := 50) hx hb dX3_sign_45 (by decide) (fun c_45 => ?_) (fun c_45 => ?_)
            · exact absurd c_45 (by decide)
            · refine lv_iconst (v := nI 0) hx hb dX3_sign_48 (by decide) ?_
              exact m_iret hx hb hr hlk hS (Nat.le_of_ble_eq_true rfl) (Nat.le_of_ble_eq_true rfl) dX3_sign_49 (⟨_, r3_1 (fun q => q.elim h1 h2) ⟨f, _, _, _, _, hP, hD, hR⟩⟩)
        · exact absurd c_19 (by decide)

set_option maxHeartbeats 4000000 in
set_option maxRecDepth 100000 in
theorem kX3_draft (l : Launch) (K : m_K) (A : Nat → Prop) (H0 : Heap) (o : Nat) (ad : Nat → Nat) (fb : Nat → Nat) (on fw : Nat → Int32) (dr : List Int32) (fm : Nat → Option Frm) (vs ch : Nat → Int32) (ps : List Pr) (la : Int32) (hm9 : mOK K A H0 o ad fb on fw dr fm vs ch ps la) : Met l yX3_draft wsX3_draft ({ frames := 0, cells := 0, slots := 0, locals := 0 } : Room) (m_Pc K A H0 [.ref o]) (va_Qi (fun r H1 => r = nI dr.length ∧ mOK K A H1 o ad fb on fw dr fm vs ch ps (nI 0)) m_B A) 0 0 A := by
  refine m_ofW (by decide) rfl (Nat.le_of_ble_eq_true rfl) ?_
  intro p e s m args below meth c ls hx hb hr hml hown hts hlk hnm hE hsz hS hl
  have hl : lv_has ls 1 [(0, .ref o)] := hl
  obtain ⟨f, d, pr, ta, ti, hP, hD, hR⟩ := hm9
  obtain ⟨hfb, hon, hfw, ⟨rfl, hdl, hdj⟩, hfm, hvs, hch, ⟨rfl, hps⟩, ⟨rk, hRK, hr5⟩, hin⟩ := id hR
  have hps20 := hps.1
  have iX3 : ∀ w ∈ wsX30, w ∈ wsX3_draft := by decide +kernel
  have f59 := hts (.fieldLink RX3 59 "PhraseCatalogueModel" "last" "I") (by decide +kernel)
  have f85 := hts (.fieldLink RX3 85 "PhraseCatalogueModel" "draft" "I") (by decide +kernel)
  refine lv_aload_n hx hb dX3_draft_0 rfl (lv_at hl 0 rfl) ?_
  refine lv_iconst (v := nI 0) hx hb dX3_draft_1 (by decide) ?_
  refine va_put (D := K.1) (ci := 4) (v := .int (nI 0)) (ty := .int) (C := RX3) (T := TX3) (N := 21) hx hb hts iX3 tyX3 tyX3_ok nmX3 hown hE.k hP hD hS 0 rfl rfl 20 (by decide) f59 (fun _ h9 => h9) rfl (by decide +kernel) rfl rfl (Nat.le_of_ble_eq_true rfl) dX3_draft_2 (fun H locs hP hD hS => ?_)
  have hP : va_P K.1 vwCl (mW K o ad f (nI dr.length) (nI ps.length) ta ti (nI 0)) H := hP
  have hD : va_D A (mW K o ad f (nI dr.length) (nI ps.length) ta ti (nI 0)) := hD
  refine lv_aload_n hx hb dX3_draft_5 rfl (lv_at hl 0 rfl) ?_
  refine va_get (D := K.1) (ci := 4) (v := .int (nI dr.length)) (C := RX3) (T := TX3) (N := 21) hx hb hts iX3 hown hE.k hP 0 rfl rfl 4 (by decide) f85 (fun _ h9 => h9) rfl dX3_draft_6 ?_
  exact m_iret hx hb hr hlk hS (Nat.le_of_ble_eq_true rfl) (Nat.le_of_ble_eq_true rfl) dX3_draft_9 (⟨rfl, ⟨f, _, _, _, _, hP, hD, hR⟩⟩)

set_option maxHeartbeats 4000000 in
set_option maxRecDepth 100000 in
theorem kX3_pairs (l : Launch) (K : m_K) (A : Nat → Prop) (H0 : Heap) (o : Nat) (ad : Nat → Nat) (fb : Nat → Nat) (on fw : Nat → Int32) (dr : List Int32) (fm : Nat → Option Frm) (vs ch : Nat → Int32) (ps : List Pr) (la : Int32) (hm9 : mOK K A H0 o ad fb on fw dr fm vs ch ps la) : Met l yX3_pairs wsX3_pairs ({ frames := 0, cells := 0, slots := 0, locals := 0 } : Room) (m_Pc K A H0 [.ref o]) (va_Qi (fun r H1 => r = nI ps.length ∧ mOK K A H1 o ad fb on fw dr fm vs ch ps (nI 0)) m_B A) 0 0 A := by
  refine m_ofW (by decide) rfl (Nat.le_of_ble_eq_true rfl) ?_
  intro p e s m args below meth c ls hx hb hr hml hown hts hlk hnm hE hsz hS hl
  have hl : lv_has ls 1 [(0, .ref o)] := hl
  obtain ⟨f, d, pr, ta, ti, hP, hD, hR⟩ := hm9
  obtain ⟨hfb, hon, hfw, ⟨rfl, hdl, hdj⟩, hfm, hvs, hch, ⟨rfl, hps⟩, ⟨rk, hRK, hr5⟩, hin⟩ := id hR
  have hps20 := hps.1
  have iX3 : ∀ w ∈ wsX30, w ∈ wsX3_pairs := by decide +kernel
  have f59 := hts (.fieldLink RX3 59 "PhraseCatalogueModel" "last" "I") (by decide +kernel)
  have f88 := hts (.fieldLink RX3 88 "PhraseCatalogueModel" "pairs" "I") (by decide +kernel)
  refine lv_aload_n hx hb dX3_pairs_0 rfl (lv_at hl 0 rfl) ?_
  refine lv_iconst (v := nI 0) hx hb dX3_pairs_1 (by decide) ?_
  refine va_put (D := K.1) (ci := 4) (v := .int (nI 0)) (ty := .int) (C := RX3) (T := TX3) (N := 21) hx hb hts iX3 tyX3 tyX3_ok nmX3 hown hE.k hP hD hS 0 rfl rfl 20 (by decide) f59 (fun _ h9 => h9) rfl (by decide +kernel) rfl rfl (Nat.le_of_ble_eq_true rfl) dX3_pairs_2 (fun H locs hP hD hS => ?_)
  have hP : va_P K.1 vwCl (mW K o ad f (nI dr.length) (nI ps.length) ta ti (nI 0)) H := hP
  have hD : va_D A (mW K o ad f (nI dr.length) (nI ps.length) ta ti (nI 0)) := hD
  refine lv_aload_n hx hb dX3_pairs_5 rfl (lv_at hl 0 rfl) ?_
  refine va_get (D := K.1) (ci := 4) (v := .int (nI ps.length)) (C := RX3) (T := TX3) (N := 21) hx hb hts iX3 hown hE.k hP 0 rfl rfl 15 (by decide) f88 (fun _ h9 => h9) rfl dX3_pairs_6 ?_
  exact m_iret hx hb hr hlk hS (Nat.le_of_ble_eq_true rfl) (Nat.le_of_ble_eq_true rfl) dX3_pairs_9 (⟨rfl, ⟨f, _, _, _, _, hP, hD, hR⟩⟩)

set_option maxHeartbeats 4000000 in
set_option maxRecDepth 100000 in
theorem kX3_kindOf (l : Launch) (K : m_K) (A : Nat → Prop) (H0 : Heap) (o : Nat) (ad : Nat → Nat) (fb : Nat → Nat) (on fw : Nat → Int32) (dr : List Int32) (fm : Nat → Option Frm) (vs ch : Nat → Int32) (ps : List Pr) (la : Int32) (hm9 : mOK K A H0 o ad fb on fw dr fm vs ch ps la) (x y : Int32) : Met l yX3_kindOf wsX3_kindOf ({ frames := 2, cells := 0, slots := 0, locals := 42 } : Room) (m_Pc K A H0 [.ref o, .int x, .int y]) (va_Qi (fun r H1 => ∃ k9, R3 (okN x 6) (okN y 2147483648) k9 (r = nI (kindF on fw (tN x) y) ∧ mOK K A H1 o ad fb on fw dr fm vs ch ps k9) (mOK K A H1 o ad fb on fw dr fm vs ch ps k9)) m_B A) 0 0 A := by
  refine m_ofW (by decide) rfl (Nat.le_of_ble_eq_true rfl) ?_
  intro p e s m args below meth c ls hx hb hr hml hown hts hlk hnm hE hsz hS hl
  have hl : lv_has ls 3 [(0, .ref o), (1, .int x), (2, .int y)] := hl
  obtain ⟨f, d, pr, ta, ti, hP, hD, hR⟩ := hm9
  obtain ⟨hfb, hon, hfw, ⟨rfl, hdl, hdj⟩, hfm, hvs, hch, ⟨rfl, hps⟩, ⟨rk, hRK, hr5⟩, hin⟩ := id hR
  have hps20 := hps.1
  refine lv_aload_n hx hb dX3_kindOf_0 rfl (lv_at hl 0 rfl) ?_
  refine lv_iload_n hx hb dX3_kindOf_1 rfl (lv_at hl 1 rfl) ?_
  refine m_cSi (rest := [.ref o]) ⟨hx, hb, hml, hown, hts⟩ hE hS (fun _ h => h) (kX3_isLanguage l K A _ x) (va_cwS 1 hts gX3_kindOf_X3_isLanguage rfl rfl rfl (by decide +kernel) ⟨Nat.le_of_ble_eq_true rfl, Nat.le_of_ble_eq_true rfl⟩) rfl rfl hl.1 rfl (Nat.le_of_ble_eq_true rfl) dX3_kindOf_2 ⟨Nat.le_of_ble_eq_true rfl, Nat.le_of_ble_eq_true rfl⟩ (fun r H1 locs hp hS hk => ?_)
  obtain ⟨rfl, rfl⟩ := hp
  cases e_2 : okB x 6 with
  | true =>
    have h1 := (okB_iff (x := x) (n := 6)).mp e_2
    refine lv_iload_n hx hb dX3_kindOf_5 rfl (lv_at hl 2 rfl) ?_
    refine lv_if_lt (tgt := 13) hx hb dX3_kindOf_6 (by decide) (fun c_6 => ?_) (fun c_6 => ?_)
    · refine lv_iconst (v := nI 0) hx hb dX3_kindOf_13 (by decide) ?_
      refine lv_iconst (v := nI 1) hx hb dX3_kindOf_14 (by decide) ?_
      refine m_cVi (rest := []) ⟨hx, hb, hml, hown, hts⟩ hE hS (fun _ h => h) (kX3_goes l K A _ o ad f (nI dr.length) (nI ps.length) ta ti la hP hD true false true) (cwV 3 hts gX3_kindOf_X3_goes rfl rfl rfl (by decide +kernel) ⟨Nat.le_of_ble_eq_true rfl, Nat.le_of_ble_eq_true rfl⟩) (va_recv hE.k hP (ci := 4) (q0 := 0) rfl rfl) rfl rfl hl.1 rfl (Nat.le_of_ble_eq_true rfl) dX3_kindOf_15 ⟨Nat.le_of_ble_eq_true rfl, Nat.le_of_ble_eq_true rfl⟩ (fun r H locs hp hS hk => ?_)
      obtain ⟨rfl, hP, hD⟩ := hp
      refine m_if_eq_b (tgt := 30) hx hb dX3_kindOf_18 (by decide) (fun c_18 => ?_) (fun c_18 => ?_)
      · refine lv_iconst (v := nI 0) hx hb dX3_kindOf_30 (by decide) ?_
        exact m_iret hx hb hr hlk hS (Nat.le_of_ble_eq_true rfl) (Nat.le_of_ble_eq_true rfl) dX3_kindOf_31 (⟨_, r3_2 (h1) (nB okB_iff (okP_f c_6)) ⟨f, _, _, _, _, hP, hD, hR⟩⟩)
      · exact absurd c_18 (by decide)
    · refine lv_iconst (v := nI 1) hx hb dX3_kindOf_9 (by decide) ?_
      refine lv_goto (tgt := 14) hx hb dX3_kindOf_10 (by decide) ?_
      refine lv_iconst (v := nI 1) hx hb dX3_kindOf_14 (by decide) ?_
      refine m_cVi (rest := []) ⟨hx, hb, hml, hown, hts⟩ hE hS (fun _ h => h) (kX3_goes l K A _ o ad f (nI dr.length) (nI ps.length) ta ti la hP hD true true true) (cwV 3 hts gX3_kindOf_X3_goes rfl rfl rfl (by decide +kernel) ⟨Nat.le_of_ble_eq_true rfl, Nat.le_of_ble_eq_true rfl⟩) (va_recv hE.k hP (ci := 4) (q0 := 0) rfl rfl) rfl rfl hl.1 rfl (Nat.le_of_ble_eq_true rfl) dX3_kindOf_15 ⟨Nat.le_of_ble_eq_true rfl, Nat.le_of_ble_eq_true rfl⟩ (fun r H locs hp hS hk => ?_)
      obtain ⟨rfl, hP, hD⟩ := hp
      refine m_if_eq_b (tgt := 30) hx hb dX3_kindOf_18 (by decide) (fun c_18 => ?_) (fun c_18 => ?_)
      · exact absurd c_18 (by decide)
      · obtain ⟨g, hk_g, rfl⟩ := okN_of h1 (by decide)
        have hl : lv_has ls 3 [(0, .ref o), (1, .int (nI g)), (2, .int y)] := hl
        refine lv_aload_n hx hb dX3_kindOf_21 rfl (lv_at hl 0 rfl) ?_
        refine lv_iload_n hx hb dX3_kindOf_22 rfl (lv_at hl 1 rfl) ?_
        refine lv_iload_n hx hb dX3_kindOf_23 rfl (lv_at hl 2 rfl) ?_
        refine m_cVi (rest := []) ⟨hx, hb, hml, hown, hts⟩ hE hS (fun _ h => h) (kX3_kind l K A _ o ad f (nI dr.length) (nI ps.length) ta ti (nI (goL true true true)) hP on fw hon hfw g hk_g y) (cwV 2 hts gX3_kindOf_X3_kind rfl rfl rfl (by decide +kernel) ⟨Nat.le_of_ble_eq_true rfl, Nat.le_of_ble_eq_true rfl⟩) (va_recv hE.k hP (ci := 4) (q0 := 0) rfl rfl) rfl rfl hl.1 rfl (Nat.le_of_ble_eq_true rfl) dX3_kindOf_24 ⟨Nat.le_of_ble_eq_true rfl, Nat.le_of_ble_eq_true rfl⟩ (fun r H1 locs hp hS hk => ?_)
        obtain ⟨rfl, rfl⟩ := hp
        refine lv_goto (tgt := 31) hx hb dX3_kindOf_27 (by decide) ?_
        exact m_iret hx hb hr hlk hS (Nat.le_of_ble_eq_true rfl) (Nat.le_of_ble_eq_true rfl) dX3_kindOf_31 (⟨_, r3_0 (h1) (okB_iff.mp (okP_t c_6)) ⟨by rw [tN_nI (by omega)], ⟨f, _, _, _, _, hP, hD, hR⟩⟩⟩)
  | false =>
    have h1 := nB (okB_iff (x := x) (n := 6)) e_2
    refine lv_iload_n hx hb dX3_kindOf_5 rfl (lv_at hl 2 rfl) ?_
    refine lv_if_lt (tgt := 13) hx hb dX3_kindOf_6 (by decide) (fun c_6 => ?_) (fun c_6 => ?_)
    · refine lv_iconst (v := nI 0) hx hb dX3_kindOf_13 (by decide) ?_
      refine lv_iconst (v := nI 1) hx hb dX3_kindOf_14 (by decide) ?_
      refine m_cVi (rest := []) ⟨hx, hb, hml, hown, hts⟩ hE hS (fun _ h => h) (kX3_goes l K A _ o ad f (nI dr.length) (nI ps.length) ta ti la hP hD false false true) (cwV 3 hts gX3_kindOf_X3_goes rfl rfl rfl (by decide +kernel) ⟨Nat.le_of_ble_eq_true rfl, Nat.le_of_ble_eq_true rfl⟩) (va_recv hE.k hP (ci := 4) (q0 := 0) rfl rfl) rfl rfl hl.1 rfl (Nat.le_of_ble_eq_true rfl) dX3_kindOf_15 ⟨Nat.le_of_ble_eq_true rfl, Nat.le_of_ble_eq_true rfl⟩ (fun r H locs hp hS hk => ?_)
      obtain ⟨rfl, hP, hD⟩ := hp
      refine m_if_eq_b (tgt := 30) hx hb dX3_kindOf_18 (by decide) (fun c_18 => ?_) (fun c_18 => ?_)
      · refine lv_iconst (v := nI 0) hx hb dX3_kindOf_30 (by decide) ?_
        exact m_iret hx hb hr hlk hS (Nat.le_of_ble_eq_true rfl) (Nat.le_of_ble_eq_true rfl) dX3_kindOf_31 (⟨_, r3_1 (h1) ⟨f, _, _, _, _, hP, hD, hR⟩⟩)
      · exact absurd c_18 (by decide)
    · refine lv_iconst (v := nI 1) hx hb dX3_kindOf_9 (by decide) ?_
      refine lv_goto (tgt := 14) hx hb dX3_kindOf_10 (by decide) ?_
      refine lv_iconst (v := nI 1) hx hb dX3_kindOf_14 (by decide) ?_
      refine m_cVi (rest := []) ⟨hx, hb, hml, hown, hts⟩ hE hS (fun _ h => h) (kX3_goes l K A _ o ad f (nI dr.length) (nI ps.length) ta ti la hP hD false true true) (cwV 3 hts gX3_kindOf_X3_goes rfl rfl rfl (by decide +kernel) ⟨Nat.le_of_ble_eq_true rfl, Nat.le_of_ble_eq_true rfl⟩) (va_recv hE.k hP (ci := 4) (q0 := 0) rfl rfl) rfl rfl hl.1 rfl (Nat.le_of_ble_eq_true rfl) dX3_kindOf_15 ⟨Nat.le_of_ble_eq_true rfl, Nat.le_of_ble_eq_true rfl⟩ (fun r H locs hp hS hk => ?_)
      obtain ⟨rfl, hP, hD⟩ := hp
      refine m_if_eq_b (tgt := 30) hx hb dX3_kindOf_18 (by decide) (fun c_18 => ?_) (fun c_18 => ?_)
      · refine lv_iconst (v := nI 0) hx hb dX3_kindOf_30 (by decide) ?_
        exact m_iret hx hb hr hlk hS (Nat.le_of_ble_eq_true rfl) (Nat.le_of_ble_eq_true rfl) dX3_kindOf_31 (⟨_, r3_1 (h1) ⟨f, _, _, _, _, hP, hD, hR⟩⟩)
      · exact absurd c_18 (by decide)

set_option maxHeartbeats 4000000 in
set_option maxRecDepth 100000 in
theorem kX3_forms (l : Launch) (K : m_K) (A : Nat → Prop) (H0 : Heap) (o : Nat) (ad : Nat → Nat) (fb : Nat → Nat) (on fw : Nat → Int32) (dr : List Int32) (fm : Nat → Option Frm) (vs ch : Nat → Int32) (ps : List Pr) (la : Int32) (hm9 : mOK K A H0 o ad fb on fw dr fm vs ch ps la) (x y : Int32) : Met l yX3_forms wsX3_forms ({ frames := 2, cells := 0, slots := 0, locals := 42 } : Room) (m_Pc K A H0 [.ref o, .int x, .int y]) (va_Qi (fun r H1 => ∃ k9, R3 (okN x 10 ∧ okN y 6) (True) k9 (r = nI (cntF fm (54 * tN x + 9 * tN y)) ∧ mOK K A H1 o ad fb on fw dr fm vs ch ps k9) (mOK K A H1 o ad fb on fw dr fm vs ch ps k9)) m_B A) 0 0 A := by
  refine m_ofW (by decide) rfl (Nat.le_of_ble_eq_true rfl) ?_
  intro p e s m args below meth c ls hx hb hr hml hown hts hlk hnm hE hsz hS hl
  have hl : lv_has ls 3 [(0, .ref o), (1, .int x), (2, .int y)] := hl
  obtain ⟨f, d, pr, ta, ti, hP, hD, hR⟩ := hm9
  obtain ⟨hfb, hon, hfw, ⟨rfl, hdl, hdj⟩, hfm, hvs, hch, ⟨rfl, hps⟩, ⟨rk, hRK, hr5⟩, hin⟩ := id hR
  have hps20 := hps.1
  refine lv_aload_n hx hb dX3_forms_0 rfl (lv_at hl 0 rfl) ?_
  refine lv_iload_n hx hb dX3_forms_1 rfl (lv_at hl 1 rfl) ?_
  refine m_cSi (rest := [.ref o]) ⟨hx, hb, hml, hown, hts⟩ hE hS (fun _ h => h) (kX3_isKey l K A _ x) (va_cwS 1 hts gX3_forms_X3_isKey rfl rfl rfl (by decide +kernel) ⟨Nat.le_of_ble_eq_true rfl, Nat.le_of_ble_eq_true rfl⟩) rfl rfl hl.1 rfl (Nat.le_of_ble_eq_true rfl) dX3_forms_2 ⟨Nat.le_of_ble_eq_true rfl, Nat.le_of_ble_eq_true rfl⟩ (fun r H1 locs hp hS hk => ?_)
  obtain ⟨rfl, rfl⟩ := hp
  cases e_2 : okB x 10 with
  | true =>
    have h1 := (okB_iff (x := x) (n := 10)).mp e_2
    refine m_if_eq_b (tgt := 19) hx hb dX3_forms_5 (by decide) (fun c_5 => ?_) (fun c_5 => ?_)
    · exact absurd c_5 (by decide)
    · refine lv_iload_n hx hb dX3_forms_8 rfl (lv_at hl 2 rfl) ?_
      refine m_cSi (rest := [.ref o]) ⟨hx, hb, hml, hown, hts⟩ hE hS (fun _ h => h) (kX3_isLanguage l K A _ y) (va_cwS 1 hts gX3_forms_X3_isLanguage rfl rfl rfl (by decide +kernel) ⟨Nat.le_of_ble_eq_true rfl, Nat.le_of_ble_eq_true rfl⟩) rfl rfl hl.1 rfl (Nat.le_of_ble_eq_true rfl) dX3_forms_9 ⟨Nat.le_of_ble_eq_true rfl, Nat.le_of_ble_eq_true rfl⟩ (fun r H1 locs hp hS hk => ?_)
      obtain ⟨rfl, rfl⟩ := hp
      cases e_9 : okB y 6 with
      | true =>
        have h2 := (okB_iff (x := y) (n := 6)).mp e_9
        refine m_if_eq_b (tgt := 19) hx hb dX3_forms_12 (by decide) (fun c_12 => ?_) (fun c_12 => ?_)
        · exact absurd c_12 (by decide)
        · refine lv_iconst (v := nI 1) hx hb dX3_forms_15 (by decide) ?_
          refine lv_goto (tgt := 20) hx hb dX3_forms_16 (by decide) ?_
          refine lv_iconst (v := nI 1) hx hb dX3_forms_20 (by decide) ?_
          refine lv_iconst (v := nI 1) hx hb dX3_forms_21 (by decide) ?_
          refine m_cVi (rest := []) ⟨hx, hb, hml, hown, hts⟩ hE hS (fun _ h => h) (kX3_goes l K A _ o ad f (nI dr.length) (nI ps.length) ta ti la hP hD true true true) (cwV 3 hts gX3_forms_X3_goes rfl rfl rfl (by decide +kernel) ⟨Nat.le_of_ble_eq_true rfl, Nat.le_of_ble_eq_true rfl⟩) (va_recv hE.k hP (ci := 4) (q0 := 0) rfl rfl) rfl rfl hl.1 rfl (Nat.le_of_ble_eq_true rfl) dX3_forms_22 ⟨Nat.le_of_ble_eq_true rfl, Nat.le_of_ble_eq_true rfl⟩ (fun r H locs hp hS hk => ?_)
          obtain ⟨rfl, hP, hD⟩ := hp
          refine m_if_eq_b (tgt := 37) hx hb dX3_forms_25 (by decide) (fun c_25 => ?_) (fun c_25 => ?_)
          · exact absurd c_25 (by decide)
          · obtain ⟨k, hk_k, rfl⟩ := okN_of h1 (by decide)
            obtain ⟨g, hk_g, rfl⟩ := okN_of h2 (by decide)
            have hl : lv_has ls 3 [(0, .ref o), (1, .int (nI k)), (2, .int (nI g))] := hl
            refine lv_aload_n hx hb dX3_forms_28 rfl (lv_at hl 0 rfl) ?_
            refine lv_iload_n hx hb dX3_forms_29 rfl (lv_at hl 1 rfl) ?_
            refine lv_iload_n hx hb dX3_forms_30 rfl (lv_at hl 2 rfl) ?_
            refine m_cVi (rest := []) ⟨hx, hb, hml, hown, hts⟩ hE hS (fun _ h => h) (kX3_count l K A _ o ad f (nI dr.length) (nI ps.length) ta ti (nI (goL true true true)) hP fm hfm k g (by omega) (by omega)) (cwV 2 hts gX3_forms_X3_count rfl rfl rfl (by decide +kernel) ⟨Nat.le_of_ble_eq_true rfl, Nat.le_of_ble_eq_true rfl⟩) (va_recv hE.k hP (ci := 4) (q0 := 0) rfl rfl) rfl rfl hl.1 rfl (Nat.le_of_ble_eq_true rfl) dX3_forms_31 ⟨Nat.le_of_ble_eq_true rfl, Nat.le_of_ble_eq_true rfl⟩ (fun r H1 locs hp hS hk => ?_)
            obtain ⟨rfl, rfl⟩ := hp
            refine lv_goto (tgt := 38) hx hb dX3_forms_34 (by decide) ?_
            exact m_iret hx hb hr hlk hS (Nat.le_of_ble_eq_true rfl) (Nat.le_of_ble_eq_true rfl) dX3_forms_38 (⟨_, r3_0 (⟨h1, h2⟩) (trivial) ⟨by rw [tN_nI (by omega), tN_nI (by omega)], ⟨f, _, _, _, _, hP, hD, hR⟩⟩⟩)
      | false =>
        have h2 := nB (okB_iff (x := y) (n := 6)) e_9
        refine m_if_eq_b (tgt := 19) hx hb dX3_forms_12 (by decide) (fun c_12 => ?_) (fun c_12 => ?_)
        · refine lv_iconst (v := nI 0) hx hb dX3_forms_19 (by decide) ?_
          refine lv_iconst (v := nI 1) hx hb dX3_forms_20 (by decide) ?_
          refine lv_iconst (v := nI 1) hx hb dX3_forms_21 (by decide) ?_
          refine m_cVi (rest := []) ⟨hx, hb, hml, hown, hts⟩ hE hS (fun _ h => h) (kX3_goes l K A _ o ad f (nI dr.length) (nI ps.length) ta ti la hP hD false true true) (cwV 3 hts gX3_forms_X3_goes rfl rfl rfl (by decide +kernel) ⟨Nat.le_of_ble_eq_true rfl, Nat.le_of_ble_eq_true rfl⟩) (va_recv hE.k hP (ci := 4) (q0 := 0) rfl rfl) rfl rfl hl.1 rfl (Nat.le_of_ble_eq_true rfl) dX3_forms_22 ⟨Nat.le_of_ble_eq_true rfl, Nat.le_of_ble_eq_true rfl⟩ (fun r H locs hp hS hk => ?_)
          obtain ⟨rfl, hP, hD⟩ := hp
          refine m_if_eq_b (tgt := 37) hx hb dX3_forms_25 (by decide) (fun c_25 => ?_) (fun c_25 => ?_)
          · refine lv_iconst (v := nI 0) hx hb dX3_forms_37 (by decide) ?_
            exact m_iret hx hb hr hlk hS (Nat.le_of_ble_eq_true rfl) (Nat.le_of_ble_eq_true rfl) dX3_forms_38 (⟨_, r3_1 ((by first | exact fun q => h1 q.1 | exact fun q => h2 q.2)) ⟨f, _, _, _, _, hP, hD, hR⟩⟩)
          · exact absurd c_25 (by decide)
        · exact absurd c_12 (by decide)
  | false =>
    have h1 := nB (okB_iff (x := x) (n := 10)) e_2
    refine m_if_eq_b (tgt := 19) hx hb dX3_forms_5 (by decide) (fun c_5 => ?_) (fun c_5 => ?_)
    · refine lv_iconst (v := nI 0) hx hb dX3_forms_19 (by decide) ?_
      refine lv_iconst (v := nI 1) hx hb dX3_forms_20 (by decide) ?_
      refine lv_iconst (v := nI 1) hx hb dX3_forms_21 (by decide) ?_
      refine m_cVi (rest := []) ⟨hx, hb, hml, hown, hts⟩ hE hS (fun _ h => h) (kX3_goes l K A _ o ad f (nI dr.length) (nI ps.length) ta ti la hP hD false true true) (cwV 3 hts gX3_forms_X3_goes rfl rfl rfl (by decide +kernel) ⟨Nat.le_of_ble_eq_true rfl, Nat.le_of_ble_eq_true rfl⟩) (va_recv hE.k hP (ci := 4) (q0 := 0) rfl rfl) rfl rfl hl.1 rfl (Nat.le_of_ble_eq_true rfl) dX3_forms_22 ⟨Nat.le_of_ble_eq_true rfl, Nat.le_of_ble_eq_true rfl⟩ (fun r H locs hp hS hk => ?_)
      obtain ⟨rfl, hP, hD⟩ := hp
      refine m_if_eq_b (tgt := 37) hx hb dX3_forms_25 (by decide) (fun c_25 => ?_) (fun c_25 => ?_)
      · refine lv_iconst (v := nI 0) hx hb dX3_forms_37 (by decide) ?_
        exact m_iret hx hb hr hlk hS (Nat.le_of_ble_eq_true rfl) (Nat.le_of_ble_eq_true rfl) dX3_forms_38 (⟨_, r3_1 ((by first | exact fun q => h1 q.1 | exact fun q => h2 q.2)) ⟨f, _, _, _, _, hP, hD, hR⟩⟩)
      · exact absurd c_25 (by decide)
    · exact absurd c_5 (by decide)

set_option maxHeartbeats 4000000 in
set_option maxRecDepth 100000 in
theorem kX3_version (l : Launch) (K : m_K) (A : Nat → Prop) (H0 : Heap) (o : Nat) (ad : Nat → Nat) (fb : Nat → Nat) (on fw : Nat → Int32) (dr : List Int32) (fm : Nat → Option Frm) (vs ch : Nat → Int32) (ps : List Pr) (la : Int32) (hm9 : mOK K A H0 o ad fb on fw dr fm vs ch ps la) (x : Int32) : Met l yX3_version wsX3_version ({ frames := 2, cells := 0, slots := 0, locals := 42 } : Room) (m_Pc K A H0 [.ref o, .int x]) (va_Qi (fun r H1 => ∃ k9, R3 (okN x 10) (True) k9 (r = vs (tN x) ∧ mOK K A H1 o ad fb on fw dr fm vs ch ps k9) (mOK K A H1 o ad fb on fw dr fm vs ch ps k9)) m_B A) 0 0 A := by
  refine m_ofW (by decide) rfl (Nat.le_of_ble_eq_true rfl) ?_
  intro p e s m args below meth c ls hx hb hr hml hown hts hlk hnm hE hsz hS hl
  have hl : lv_has ls 2 [(0, .ref o), (1, .int x)] := hl
  obtain ⟨f, d, pr, ta, ti, hP, hD, hR⟩ := hm9
  obtain ⟨hfb, hon, hfw, ⟨rfl, hdl, hdj⟩, hfm, hvs, hch, ⟨rfl, hps⟩, ⟨rk, hRK, hr5⟩, hin⟩ := id hR
  have hps20 := hps.1
  have iX3 : ∀ w ∈ wsX30, w ∈ wsX3_version := by decide +kernel
  have f32 := hts (.fieldLink RX3 32 "PhraseCatalogueModel" "versions" "[I") (by decide +kernel)
  refine lv_aload_n hx hb dX3_version_0 rfl (lv_at hl 0 rfl) ?_
  refine lv_iload_n hx hb dX3_version_1 rfl (lv_at hl 1 rfl) ?_
  refine m_cSi (rest := [.ref o]) ⟨hx, hb, hml, hown, hts⟩ hE hS (fun _ h => h) (kX3_isKey l K A _ x) (va_cwS 1 hts gX3_version_X3_isKey rfl rfl rfl (by decide +kernel) ⟨Nat.le_of_ble_eq_true rfl, Nat.le_of_ble_eq_true rfl⟩) rfl rfl hl.1 rfl (Nat.le_of_ble_eq_true rfl) dX3_version_2 ⟨Nat.le_of_ble_eq_true rfl, Nat.le_of_ble_eq_true rfl⟩ (fun r H1 locs hp hS hk => ?_)
  obtain ⟨rfl, rfl⟩ := hp
  cases e_2 : okB x 10 with
  | true =>
    have h1 := (okB_iff (x := x) (n := 10)).mp e_2
    refine lv_iconst (v := nI 1) hx hb dX3_version_5 (by decide) ?_
    refine lv_iconst (v := nI 1) hx hb dX3_version_6 (by decide) ?_
    refine m_cVi (rest := []) ⟨hx, hb, hml, hown, hts⟩ hE hS (fun _ h => h) (kX3_goes l K A _ o ad f (nI dr.length) (nI ps.length) ta ti la hP hD true true true) (cwV 3 hts gX3_version_X3_goes rfl rfl rfl (by decide +kernel) ⟨Nat.le_of_ble_eq_true rfl, Nat.le_of_ble_eq_true rfl⟩) (va_recv hE.k hP (ci := 4) (q0 := 0) rfl rfl) rfl rfl hl.1 rfl (Nat.le_of_ble_eq_true rfl) dX3_version_7 ⟨Nat.le_of_ble_eq_true rfl, Nat.le_of_ble_eq_true rfl⟩ (fun r H locs hp hS hk => ?_)
    obtain ⟨rfl, hP, hD⟩ := hp
    refine m_if_eq_b (tgt := 22) hx hb dX3_version_10 (by decide) (fun c_10 => ?_) (fun c_10 => ?_)
    · exact absurd c_10 (by decide)
    · obtain ⟨k, hk_k, rfl⟩ := okN_of h1 (by decide)
      have hl : lv_has ls 2 [(0, .ref o), (1, .int (nI k))] := hl
      refine lv_aload_n hx hb dX3_version_13 rfl (lv_at hl 0 rfl) ?_
      refine va_get (D := K.1) (ci := 4) (v := .ref (ad 8)) (C := RX3) (T := TX3) (N := 21) hx hb hts iX3 hown hE.k hP 0 rfl rfl 8 (by decide) f32 (fun _ h9 => h9) rfl dX3_version_14 ?_
      refine lv_iload_n hx hb dX3_version_17 rfl (lv_at hl 1 rfl) ?_
      refine m_iald hx hb hE.k hP 8 rfl (by omega) (by omega) (hvs _ (by omega)) dX3_version_18 ?_
      refine lv_goto (tgt := 23) hx hb dX3_version_19 (by decide) ?_
      exact m_iret hx hb hr hlk hS (Nat.le_of_ble_eq_true rfl) (Nat.le_of_ble_eq_true rfl) dX3_version_23 (⟨_, r3_0 (h1) (trivial) ⟨by rw [tN_nI (by omega)], ⟨f, _, _, _, _, hP, hD, hR⟩⟩⟩)
  | false =>
    have h1 := nB (okB_iff (x := x) (n := 10)) e_2
    refine lv_iconst (v := nI 1) hx hb dX3_version_5 (by decide) ?_
    refine lv_iconst (v := nI 1) hx hb dX3_version_6 (by decide) ?_
    refine m_cVi (rest := []) ⟨hx, hb, hml, hown, hts⟩ hE hS (fun _ h => h) (kX3_goes l K A _ o ad f (nI dr.length) (nI ps.length) ta ti la hP hD false true true) (cwV 3 hts gX3_version_X3_goes rfl rfl rfl (by decide +kernel) ⟨Nat.le_of_ble_eq_true rfl, Nat.le_of_ble_eq_true rfl⟩) (va_recv hE.k hP (ci := 4) (q0 := 0) rfl rfl) rfl rfl hl.1 rfl (Nat.le_of_ble_eq_true rfl) dX3_version_7 ⟨Nat.le_of_ble_eq_true rfl, Nat.le_of_ble_eq_true rfl⟩ (fun r H locs hp hS hk => ?_)
    obtain ⟨rfl, hP, hD⟩ := hp
    refine m_if_eq_b (tgt := 22) hx hb dX3_version_10 (by decide) (fun c_10 => ?_) (fun c_10 => ?_)
    · refine lv_iconst (v := nI 0) hx hb dX3_version_22 (by decide) ?_
      exact m_iret hx hb hr hlk hS (Nat.le_of_ble_eq_true rfl) (Nat.le_of_ble_eq_true rfl) dX3_version_23 (⟨_, r3_1 (h1) ⟨f, _, _, _, _, hP, hD, hR⟩⟩)
    · exact absurd c_10 (by decide)

theorem stale_ne {fm : Nat → Option Frm} {vs ch : Nat → Int32} {k g : Nat} (hin : ∀ k, k < 10 → ch (6 * k) = vs k) (hk : k < 10) (h : ¬ cntF fm (54 * k + 9 * g) = 0) : staleS fm vs ch k g = vs k - ch (6 * k + g) := by
  unfold staleS
  rw [if_neg h]
  split
  · rename_i e
    subst e
    rw [Nat.add_zero, hin k hk, Int32.sub_self]
    rfl
  · rfl

set_option maxHeartbeats 4000000 in
set_option maxRecDepth 100000 in
theorem kX3_staleBy (l : Launch) (K : m_K) (A : Nat → Prop) (H0 : Heap) (o : Nat) (ad : Nat → Nat) (fb : Nat → Nat) (on fw : Nat → Int32) (dr : List Int32) (fm : Nat → Option Frm) (vs ch : Nat → Int32) (ps : List Pr) (la : Int32) (hm9 : mOK K A H0 o ad fb on fw dr fm vs ch ps la) (x y : Int32) : Met l yX3_staleBy wsX3_staleBy ({ frames := 2, cells := 0, slots := 0, locals := 42 } : Room) (m_Pc K A H0 [.ref o, .int x, .int y]) (va_Qi (fun r H1 => ∃ k9, R3 (okN x 10 ∧ okN y 6) (True) k9 (r = staleS fm vs ch (tN x) (tN y) ∧ mOK K A H1 o ad fb on fw dr fm vs ch ps k9) (mOK K A H1 o ad fb on fw dr fm vs ch ps k9)) m_B A) 0 0 A := by
  refine m_ofW (by decide) rfl (Nat.le_of_ble_eq_true rfl) ?_
  intro p e s m args below meth c ls hx hb hr hml hown hts hlk hnm hE hsz hS hl
  have hl : lv_has ls 3 [(0, .ref o), (1, .int x), (2, .int y)] := hl
  obtain ⟨f, d, pr, ta, ti, hP, hD, hR⟩ := hm9
  obtain ⟨hfb, hon, hfw, ⟨rfl, hdl, hdj⟩, hfm, hvs, hch, ⟨rfl, hps⟩, ⟨rk, hRK, hr5⟩, hin⟩ := id hR
  have hps20 := hps.1
  have iX3 : ∀ w ∈ wsX30, w ∈ wsX3_staleBy := by decide +kernel
  have f32 := hts (.fieldLink RX3 32 "PhraseCatalogueModel" "versions" "[I") (by decide +kernel)
  have f35 := hts (.fieldLink RX3 35 "PhraseCatalogueModel" "changedAt" "[I") (by decide +kernel)
  refine lv_aload_n hx hb dX3_staleBy_0 rfl (lv_at hl 0 rfl) ?_
  refine lv_iload_n hx hb dX3_staleBy_1 rfl (lv_at hl 1 rfl) ?_
  refine m_cSi (rest := [.ref o]) ⟨hx, hb, hml, hown, hts⟩ hE hS (fun _ h => h) (kX3_isKey l K A _ x) (va_cwS 1 hts gX3_staleBy_X3_isKey rfl rfl rfl (by decide +kernel) ⟨Nat.le_of_ble_eq_true rfl, Nat.le_of_ble_eq_true rfl⟩) rfl rfl hl.1 rfl (Nat.le_of_ble_eq_true rfl) dX3_staleBy_2 ⟨Nat.le_of_ble_eq_true rfl, Nat.le_of_ble_eq_true rfl⟩ (fun r H1 locs hp hS hk => ?_)
  obtain ⟨rfl, rfl⟩ := hp
  cases e_2 : okB x 10 with
  | true =>
    have h1 := (okB_iff (x := x) (n := 10)).mp e_2
    refine m_if_eq_b (tgt := 19) hx hb dX3_staleBy_5 (by decide) (fun c_5 => ?_) (fun c_5 => ?_)
    · exact absurd c_5 (by decide)
    · refine lv_iload_n hx hb dX3_staleBy_8 rfl (lv_at hl 2 rfl) ?_
      refine m_cSi (rest := [.ref o]) ⟨hx, hb, hml, hown, hts⟩ hE hS (fun _ h => h) (kX3_isLanguage l K A _ y) (va_cwS 1 hts gX3_staleBy_X3_isLanguage rfl rfl rfl (by decide +kernel) ⟨Nat.le_of_ble_eq_true rfl, Nat.le_of_ble_eq_true rfl⟩) rfl rfl hl.1 rfl (Nat.le_of_ble_eq_true rfl) dX3_staleBy_9 ⟨Nat.le_of_ble_eq_true rfl, Nat.le_of_ble_eq_true rfl⟩ (fun r H1 locs hp hS hk => ?_)
      obtain ⟨rfl, rfl⟩ := hp
      cases e_9 : okB y 6 with
      | true =>
        have h2 := (okB_iff (x := y) (n := 6)).mp e_9
        refine m_if_eq_b (tgt := 19) hx hb dX3_staleBy_12 (by decide) (fun c_12 => ?_) (fun c_12 => ?_)
        · exact absurd c_12 (by decide)
        · refine lv_iconst (v := nI 1) hx hb dX3_staleBy_15 (by decide) ?_
          refine lv_goto (tgt := 20) hx hb dX3_staleBy_16 (by decide) ?_
          refine lv_iconst (v := nI 1) hx hb dX3_staleBy_20 (by decide) ?_
          refine lv_iconst (v := nI 1) hx hb dX3_staleBy_21 (by decide) ?_
          refine m_cVi (rest := []) ⟨hx, hb, hml, hown, hts⟩ hE hS (fun _ h => h) (kX3_goes l K A _ o ad f (nI dr.length) (nI ps.length) ta ti la hP hD true true true) (cwV 3 hts gX3_staleBy_X3_goes rfl rfl rfl (by decide +kernel) ⟨Nat.le_of_ble_eq_true rfl, Nat.le_of_ble_eq_true rfl⟩) (va_recv hE.k hP (ci := 4) (q0 := 0) rfl rfl) rfl rfl hl.1 rfl (Nat.le_of_ble_eq_true rfl) dX3_staleBy_22 ⟨Nat.le_of_ble_eq_true rfl, Nat.le_of_ble_eq_true rfl⟩ (fun r H locs hp hS hk => ?_)
          obtain ⟨rfl, hP, hD⟩ := hp
          refine m_if_ne_b (tgt := 30) hx hb dX3_staleBy_25 (by decide) (fun c_25 => ?_) (fun c_25 => ?_)
          · obtain ⟨k, hk_k, rfl⟩ := okN_of h1 (by decide)
            obtain ⟨g, hk_g, rfl⟩ := okN_of h2 (by decide)
            have hl : lv_has ls 3 [(0, .ref o), (1, .int (nI k)), (2, .int (nI g))] := hl
            refine lv_aload_n hx hb dX3_staleBy_30 rfl (lv_at hl 0 rfl) ?_
            refine lv_iload_n hx hb dX3_staleBy_31 rfl (lv_at hl 1 rfl) ?_
            refine lv_iload_n hx hb dX3_staleBy_32 rfl (lv_at hl 2 rfl) ?_
            refine m_cVi (rest := []) ⟨hx, hb, hml, hown, hts⟩ hE hS (fun _ h => h) (kX3_count l K A _ o ad f (nI dr.length) (nI ps.length) ta ti (nI (goL true true true)) hP fm hfm k g (by omega) (by omega)) (cwV 2 hts gX3_staleBy_X3_count rfl rfl rfl (by decide +kernel) ⟨Nat.le_of_ble_eq_true rfl, Nat.le_of_ble_eq_true rfl⟩) (va_recv hE.k hP (ci := 4) (q0 := 0) rfl rfl) rfl rfl hl.1 rfl (Nat.le_of_ble_eq_true rfl) dX3_staleBy_33 ⟨Nat.le_of_ble_eq_true rfl, Nat.le_of_ble_eq_true rfl⟩ (fun r H1 locs hp hS hk => ?_)
            obtain ⟨rfl, rfl⟩ := hp
            have hcl := cntF_le fm (54 * k + 9 * g)
            refine m_if_ne (tgt := 43) hx hb (by omega) dX3_staleBy_36 (by decide) (fun c_36 => ?_) (fun c_36 => ?_)
            · refine lv_aload_n hx hb dX3_staleBy_43 rfl (lv_at hl 0 rfl) ?_
              refine va_get (D := K.1) (ci := 4) (v := .ref (ad 8)) (C := RX3) (T := TX3) (N := 21) hx hb hts iX3 hown hE.k hP 0 rfl rfl 8 (by decide) f32 (fun _ h9 => h9) rfl dX3_staleBy_44 ?_
              refine lv_iload_n hx hb dX3_staleBy_47 rfl (lv_at hl 1 rfl) ?_
              refine m_iald hx hb hE.k hP 8 rfl (by omega) (by omega) (hvs _ (by omega)) dX3_staleBy_48 ?_
              refine lv_aload_n hx hb dX3_staleBy_49 rfl (lv_at hl 0 rfl) ?_
              refine va_get (D := K.1) (ci := 4) (v := .ref (ad 9)) (C := RX3) (T := TX3) (N := 21) hx hb hts iX3 hown hE.k hP 0 rfl rfl 9 (by decide) f35 (fun _ h9 => h9) rfl dX3_staleBy_50 ?_
              refine lv_bipush (v := nI 6) hx hb dX3_staleBy_53 (by decide) ?_
              refine lv_iload_n hx hb dX3_staleBy_55 rfl (lv_at hl 1 rfl) ?_
              refine m_imul hx hb dX3_staleBy_56 ?_
              refine lv_iload_n hx hb dX3_staleBy_57 rfl (lv_at hl 2 rfl) ?_
              refine m_iadd hx hb dX3_staleBy_58 ?_
              refine m_iald hx hb hE.k hP 9 rfl (by omega) (by omega) (hch _ (by omega)) dX3_staleBy_59 ?_
              refine lv_isub hx hb dX3_staleBy_60 ?_
              exact m_iret hx hb hr hlk hS (Nat.le_of_ble_eq_true rfl) (Nat.le_of_ble_eq_true rfl) dX3_staleBy_61 (⟨_, r3_0 (⟨h1, h2⟩) (trivial) ⟨by rw [tN_nI (by omega), tN_nI (by omega), stale_ne hin hk_k c_36], ⟨f, _, _, _, _, hP, hD, hR⟩⟩⟩)
            · refine lv_iconst (v := (-1)) hx hb dX3_staleBy_39 (by decide) ?_
              refine lv_goto (tgt := 61) hx hb dX3_staleBy_40 (by decide) ?_
              exact m_iret hx hb hr hlk hS (Nat.le_of_ble_eq_true rfl) (Nat.le_of_ble_eq_true rfl) dX3_staleBy_61 (⟨_, r3_0 (⟨h1, h2⟩) (trivial) ⟨by rw [tN_nI (by omega), tN_nI (by omega), staleS, if_pos c_36], ⟨f, _, _, _, _, hP, hD, hR⟩⟩⟩)
          · exact absurd c_25 (by decide)
      | false =>
        have h2 := nB (okB_iff (x := y) (n := 6)) e_9
        refine m_if_eq_b (tgt := 19) hx hb dX3_staleBy_12 (by decide) (fun c_12 => ?_) (fun c_12 => ?_)
        · refine lv_iconst (v := nI 0) hx hb dX3_staleBy_19 (by decide) ?_
          refine lv_iconst (v := nI 1) hx hb dX3_staleBy_20 (by decide) ?_
          refine lv_iconst (v := nI 1) hx hb dX3_staleBy_21 (by decide) ?_
          refine m_cVi (rest := []) ⟨hx, hb, hml, hown, hts⟩ hE hS (fun _ h => h) (kX3_goes l K A _ o ad f (nI dr.length) (nI ps.length) ta ti la hP hD false true true) (cwV 3 hts gX3_staleBy_X3_goes rfl rfl rfl (by decide +kernel) ⟨Nat.le_of_ble_eq_true rfl, Nat.le_of_ble_eq_true rfl⟩) (va_recv hE.k hP (ci := 4) (q0 := 0) rfl rfl) rfl rfl hl.1 rfl (Nat.le_of_ble_eq_true rfl) dX3_staleBy_22 ⟨Nat.le_of_ble_eq_true rfl, Nat.le_of_ble_eq_true rfl⟩ (fun r H locs hp hS hk => ?_)
          obtain ⟨rfl, hP, hD⟩ := hp
          refine m_if_ne_b (tgt := 30) hx hb dX3_staleBy_25 (by decide) (fun c_25 => ?_) (fun c_25 => ?_)
          · exact absurd c_25 (by decide)
          · refine lv_iconst (v := nI 0) hx hb dX3_staleBy_28 (by decide) ?_
            exact m_iret hx hb hr hlk hS (Nat.le_of_ble_eq_true rfl) (Nat.le_of_ble_eq_true rfl) dX3_staleBy_29 (⟨_, r3_1 ((by first | exact fun q => h1 q.1 | exact fun q => h2 q.2)) ⟨f, _, _, _, _, hP, hD, hR⟩⟩)
        · exact absurd c_12 (by decide)
  | false =>
    have h1 := nB (okB_iff (x := x) (n := 10)) e_2
    refine m_if_eq_b (tgt := 19) hx hb dX3_staleBy_5 (by decide) (fun c_5 => ?_) (fun c_5 => ?_)
    · refine lv_iconst (v := nI 0) hx hb dX3_staleBy_19 (by decide) ?_
      refine lv_iconst (v := nI 1) hx hb dX3_staleBy_20 (by decide) ?_
      refine lv_iconst (v := nI 1) hx hb dX3_staleBy_21 (by decide) ?_
      refine m_cVi (rest := []) ⟨hx, hb, hml, hown, hts⟩ hE hS (fun _ h => h) (kX3_goes l K A _ o ad f (nI dr.length) (nI ps.length) ta ti la hP hD false true true) (cwV 3 hts gX3_staleBy_X3_goes rfl rfl rfl (by decide +kernel) ⟨Nat.le_of_ble_eq_true rfl, Nat.le_of_ble_eq_true rfl⟩) (va_recv hE.k hP (ci := 4) (q0 := 0) rfl rfl) rfl rfl hl.1 rfl (Nat.le_of_ble_eq_true rfl) dX3_staleBy_22 ⟨Nat.le_of_ble_eq_true rfl, Nat.le_of_ble_eq_true rfl⟩ (fun r H locs hp hS hk => ?_)
      obtain ⟨rfl, hP, hD⟩ := hp
      refine m_if_ne_b (tgt := 30) hx hb dX3_staleBy_25 (by decide) (fun c_25 => ?_) (fun c_25 => ?_)
      · exact absurd c_25 (by decide)
      · refine lv_iconst (v := nI 0) hx hb dX3_staleBy_28 (by decide) ?_
        exact m_iret hx hb hr hlk hS (Nat.le_of_ble_eq_true rfl) (Nat.le_of_ble_eq_true rfl) dX3_staleBy_29 (⟨_, r3_1 ((by first | exact fun q => h1 q.1 | exact fun q => h2 q.2)) ⟨f, _, _, _, _, hP, hD, hR⟩⟩)
    · exact absurd c_5 (by decide)
