theorem m_gIO_X2_toldSign : ∀ w ∈ (vx_atS RX2 62 m_IO m_RT).filter goodWord, w ∈ wsX2_toldSign := by decide +kernel
def okB (x : Int32) (n : Nat) : Bool := decide (0 ≤ x.toInt ∧ x.toInt < n)
theorem okB_t {x : Int32} {n : Nat} (h : okN x n) : okB x n = true := decide_eq_true h
theorem okB_f {x : Int32} {n : Nat} (h : ¬ okN x n) : okB x n = false := decide_eq_false h
theorem cntF_le (fm : Nat → Option Frm) (b : Nat) : cntF fm b ≤ 9 := cntN_le _ 9
def staleS (fm : Nat → Option Frm) (vs ch : Nat → Int32) (k g : Nat) : Int32 := if cntF fm (54 * k + 9 * g) = 0 then -1 else if g = 0 then nI 0 else vs k - ch (6 * k + g)
def missS (fm : Nat → Option Frm) (g : Nat) (n : Nat) : Nat := cntN (fun k => decide (0 < cntF fm (54 * k)) && decide (cntF fm (54 * k + 9 * g) = 0)) n
def tellS (fb : Nat → Nat) (on fw : Nat → Int32) (fm : Nat → Option Frm) (k g : Nat) (x : Int32) (u : Nat) : Option Nat := tellN fb (fun g => inLang fm k g (kindF on fw g x) u) 6 g
def lookS (fb : Nat → Nat) (on fw : Nat → Int32) (fm : Nat → Option Frm) (k g : Nat) (x : Int32) (u : Nat) : Option Nat := (lookN fm k (turnF fb on fw x u g) 54).1
def lgS (s : Option Nat) : Int32 := oI (s.map fun s => s / 9 % 6)
def fmS (s : Option Nat) : Int32 := oI (s.map fun s => s % 9)
def signS (fm : Nat → Option Frm) (so : Option Nat) (x : Int32) : Option Int32 := match so with
  | none => none
  | some s => match fm s with
    | none => none
    | some F => if okB x F.1.length then some (F.1.getD (tN x) 0) else none
def nearD (fo : Option Frm) (ps : List Pr) (g : Nat) : Int32 := match fo with
  | none => -1
  | some F => match (nearN ps g F.1 ps.length).1 with
    | none => -1
    | some P => nI (dst P.2.1.1 F.1)
def nearS (fo : Option Frm) (ps : List Pr) (g : Nat) (j : Nat) : Int32 := match nearF fo ps g with
  | none => nI 0
  | some P => if j < P.2.2.1.length then P.2.2.1.getD j 0 else nI 0
theorem tellN_in {fb : Nat → Nat} {at9 : Nat → Option Nat} (hfb : ∀ i, i < 6 → fb i < 6) : ∀ n i s, i < 6 → tellN fb at9 n i = some s → ∃ g, g < 6 ∧ at9 g = some s
  | 0, _, _, _, h => by cases h
  | n + 1, i, s, hi, h => by
    unfold tellN at h
    split at h
    · rename_i s9 e
      cases h
      exact ⟨i, hi, e⟩
    · split at h
      · cases h
      · exact tellN_in hfb n _ s (hfb i hi) h
theorem tellS_lt {fb : Nat → Nat} {on fw : Nat → Int32} {fm : Nat → Option Frm} {k g u s : Nat} {x : Int32} (hfb : ∀ i, i < 6 → fb i < 6) (hk : k < 10) (hg : g < 6) (hu : u < 3) (h : tellS fb on fw fm k g x u = some s) : s < 540 := by
  obtain ⟨g9, h1, h2⟩ := tellN_in hfb _ _ _ hg h
  exact (inLang_lt h2 hk h1 (kindF_lt _ _ _ _) hu).1
theorem lookS_lt {fb : Nat → Nat} {on fw : Nat → Int32} {fm : Nat → Option Frm} {k g u s : Nat} {x : Int32} (hk : k < 10) (h : lookS fb on fw fm k g x u = some s) : s < 540 := lookN_1 hk 54 (Nat.le_refl _) s h

set_option maxHeartbeats 4000000 in
set_option maxRecDepth 100000 in
theorem kX2_draft (l : Launch) (K : m_K) (A : Nat → Prop) (H0 : Heap) (o : Nat) (ad : Nat → Nat) (fb : Nat → Nat) (on fw : Nat → Int32) (dr : List Int32) (fm : Nat → Option Frm) (vs ch : Nat → Int32) (ps : List Pr) (hc9 : cOK K A H0 o ad fb on fw dr fm vs ch ps) : Met l yX2_draft wsX2_draft ({ frames := 0, cells := 0, slots := 0, locals := 0 } : Room) (m_Pc K A H0 [.ref o]) (va_Qi (fun r H1 => r = nI dr.length ∧ H0 = H1) m_B A) 0 0 A := by
  refine m_ofW (by decide) rfl (Nat.le_of_ble_eq_true rfl) ?_
  intro p e s m args below meth c ls hx hb hr hml hown hts hlk hnm hE hsz hS hl
  have hl : lv_has ls 1 [(0, .ref o)] := hl
  obtain ⟨f, d, ft, li, T, hP, hD, hR⟩ := hc9
  obtain ⟨hfb, hon, hfw, ⟨rfl, hdl, hdj⟩, hfm, hvs, hch, hls⟩ := id hR
  have iX2 : ∀ w ∈ wsX20, w ∈ wsX2_draft := by decide +kernel
  have f28 := hts (.fieldLink RX2 28 "PhraseCatalogue" "draftLength" "I") (by decide +kernel)
  refine lv_aload_n hx hb dX2_draft_0 rfl (lv_at hl 0 rfl) ?_
  refine va_get (D := K.1) (ci := 3) (v := .int (nI dr.length)) (C := RX2) (T := TX2) (N := 10) hx hb hts iX2 hown hE.k hP 0 rfl rfl 4 (by decide) f28 (fun _ h9 => h9) rfl dX2_draft_1 ?_
  exact m_iret hx hb hr hlk hS (Nat.le_of_ble_eq_true rfl) (Nat.le_of_ble_eq_true rfl) dX2_draft_4 (⟨rfl, rfl⟩)

set_option maxHeartbeats 4000000 in
set_option maxRecDepth 100000 in
theorem kX2_pairs (l : Launch) (K : m_K) (A : Nat → Prop) (H0 : Heap) (o : Nat) (ad : Nat → Nat) (fb : Nat → Nat) (on fw : Nat → Int32) (dr : List Int32) (fm : Nat → Option Frm) (vs ch : Nat → Int32) (ps : List Pr) (hc9 : cOK K A H0 o ad fb on fw dr fm vs ch ps) : Met l yX2_pairs wsX2_pairs ({ frames := 1, cells := 0, slots := 0, locals := 20 } : Room) (m_Pc K A H0 [.ref o]) (va_Qi (fun r H1 => r = nI ps.length ∧ H0 = H1) m_B A) 0 0 A := by
  refine m_ofW (by decide) rfl (Nat.le_of_ble_eq_true rfl) ?_
  intro p e s m args below meth c ls hx hb hr hml hown hts hlk hnm hE hsz hS hl
  have hl : lv_has ls 1 [(0, .ref o)] := hl
  obtain ⟨f, d, ft, li, T, hP, hD, hR⟩ := hc9
  obtain ⟨hfb, hon, hfw, hdr, hfm, hvs, hch, hls⟩ := id hR
  obtain ⟨hd9, hdl, hdj⟩ := hdr
  obtain ⟨md, ed, r99, rfl, hL, hn20, hPl⟩ := hls
  have iX2 : ∀ w ∈ wsX20, w ∈ wsX2_pairs := by decide +kernel
  have f47 := hts (.fieldLink RX2 47 "PhraseCatalogue" "past" "Ljava/util/ArrayList;") (by decide +kernel)
  refine lv_aload_n hx hb dX2_pairs_0 rfl (lv_at hl 0 rfl) ?_
  refine va_get (D := K.1) (ci := 3) (v := .ref (ad 8)) (C := RX2) (T := TX2) (N := 10) hx hb hts iX2 hown hE.k hP 0 rfl rfl 8 (by decide) f47 (fun _ h9 => h9) rfl dX2_pairs_1 ?_
  refine m_cVi (rest := []) ⟨hx, hb, hml, hown, hts⟩ hE hS (fun _ h => h) (kJx4a65c_size_8abf5 l K A _ _ hP 9 (ad 8) md ed ps.length rfl) (cwV 0 hts gX2_pairs_Jx4a65c_size_8abf5 rfl rfl rfl (by decide +kernel) ⟨Nat.le_of_ble_eq_true rfl, Nat.le_of_ble_eq_true rfl⟩) (va_recv hE.k hP (ci := 0) (q0 := 9) rfl rfl) rfl rfl hl.1 rfl (Nat.le_of_ble_eq_true rfl) dX2_pairs_4 ⟨Nat.le_of_ble_eq_true rfl, Nat.le_of_ble_eq_true rfl⟩ (fun r H1 locs hp hS hk => ?_)
  obtain ⟨rfl, rfl⟩ := hp
  exact m_iret hx hb hr hlk hS (Nat.le_of_ble_eq_true rfl) (Nat.le_of_ble_eq_true rfl) dX2_pairs_7 (⟨rfl, rfl⟩)

set_option maxHeartbeats 4000000 in
set_option maxRecDepth 100000 in
theorem kX2_kindOf (l : Launch) (hl0 : l.stackTraces = false) (K : m_K) (A : Nat → Prop) (H0 : Heap) (o : Nat) (ad : Nat → Nat) (fb : Nat → Nat) (on fw : Nat → Int32) (dr : List Int32) (fm : Nat → Option Frm) (vs ch : Nat → Int32) (ps : List Pr) (hc9 : cOK K A H0 o ad fb on fw dr fm vs ch ps) (x y : Int32) : vx_Met l yX2_kindOf wsX2_kindOf ({ frames := 7, cells := 2, slots := 12, locals := 104 } : Room) (m_Pc K A H0 [.ref o, .int x, .int y]) (va_Qi (fun r H1 => okN x 6 ∧ okN y 2147483648 ∧ r = nI (kindF on fw (tN x) y) ∧ H0 = H1) m_B A) (m_X (fun E => (E = m_IO ∧ ¬ okN x 6) ∨ (E = m_IA ∧ okN x 6 ∧ ¬ okN y 2147483648)) H0 A) 2 12 A := by
  refine m_ofX (by decide) rfl (Nat.le_of_ble_eq_true rfl) ?_
  intro p e s m args below meth c ls hx hb hr hml hown hts hlk hnm htab hE hsz hS hl
  have hl : lv_has ls 3 [(0, .ref o), (1, .int x), (2, .int y)] := hl
  obtain ⟨f, d, ft, li, T, hP, hD, hR⟩ := hc9
  obtain ⟨hfb, hon, hfw, hdr, hfm, hvs, hch, hls⟩ := id hR
  obtain ⟨hd9, hdl, hdj⟩ := hdr
  refine lv_iload_n hx hb dX2_kindOf_0 rfl (lv_at hl 1 rfl) ?_
  refine m_xSv (rest := []) ⟨hx, hb, hml, hown, hts⟩ hE hS (fun _ h => h) (kX2_requireLanguage l hl0 K A H0 x) (va_cwS 1 hts gX2_kindOf_X2_requireLanguage rfl rfl rfl (by decide +kernel) ⟨Nat.le_of_ble_eq_true rfl, Nat.le_of_ble_eq_true rfl⟩) rfl rfl hl.1 rfl (Nat.le_of_ble_eq_true rfl) dX2_kindOf_1 ⟨Nat.le_of_ble_eq_true rfl, Nat.le_of_ble_eq_true rfl⟩ (fun E ce q9 H1 locs1 hx9 hs9 hS9 g1 g2 g3 => m_out htab hlk (Or.inl hx9) hs9 hS9 g1 g2 g3 (Nat.le_of_ble_eq_true rfl) (Nat.le_of_ble_eq_true rfl)) (fun H1 locs hp hS hk => ?_)
  obtain ⟨rfl, h1⟩ := hp
  refine lv_iload_n hx hb dX2_kindOf_4 rfl (lv_at hl 2 rfl) ?_
  refine m_xSv (rest := []) ⟨hx, hb, hml, hown, hts⟩ hE hS (fun _ h => h) (kX2_requireNumber l hl0 K A H0 y) (va_cwS 1 hts gX2_kindOf_X2_requireNumber rfl rfl rfl (by decide +kernel) ⟨Nat.le_of_ble_eq_true rfl, Nat.le_of_ble_eq_true rfl⟩) rfl rfl hl.1 rfl (Nat.le_of_ble_eq_true rfl) dX2_kindOf_5 ⟨Nat.le_of_ble_eq_true rfl, Nat.le_of_ble_eq_true rfl⟩ (fun E ce q9 H1 locs1 hx9 hs9 hS9 g1 g2 g3 => m_out htab hlk (Or.inr ⟨hx9.1, h1, hx9.2⟩) hs9 hS9 g1 g2 g3 (Nat.le_of_ble_eq_true rfl) (Nat.le_of_ble_eq_true rfl)) (fun H1 locs hp hS hk => ?_)
  obtain ⟨rfl, h2⟩ := hp
  obtain ⟨g, hk_g, rfl⟩ := okN_of h1 (by decide)
  have hl : lv_has ls 3 [(0, .ref o), (1, .int (nI g)), (2, .int y)] := hl
  refine lv_aload_n hx hb dX2_kindOf_8 rfl (lv_at hl 0 rfl) ?_
  refine lv_iload_n hx hb dX2_kindOf_9 rfl (lv_at hl 1 rfl) ?_
  refine lv_iload_n hx hb dX2_kindOf_10 rfl (lv_at hl 2 rfl) ?_
  refine m_cVi (rest := []) ⟨hx, hb, hml, hown, hts⟩ hE hS (fun _ h => h) (kX2_classOf l K A H0 o ad f d ft li T hP on fw hon hfw g hk_g y) (cwV 2 hts gX2_kindOf_X2_classOf rfl rfl rfl (by decide +kernel) ⟨Nat.le_of_ble_eq_true rfl, Nat.le_of_ble_eq_true rfl⟩) (va_recv hE.k hP (ci := 3) (q0 := 0) rfl rfl) rfl rfl hl.1 rfl (Nat.le_of_ble_eq_true rfl) dX2_kindOf_11 ⟨Nat.le_of_ble_eq_true rfl, Nat.le_of_ble_eq_true rfl⟩ (fun r H1 locs hp hS hk => ?_)
  obtain ⟨rfl, rfl⟩ := hp
  exact vx_ret (m_iret hx hb hr hlk hS (Nat.le_of_ble_eq_true rfl) (Nat.le_of_ble_eq_true rfl) dX2_kindOf_14 (⟨h1, h2, by rw [tN_nI (by omega)], rfl⟩))

set_option maxHeartbeats 4000000 in
set_option maxRecDepth 100000 in
theorem kX2_forms (l : Launch) (hl0 : l.stackTraces = false) (K : m_K) (A : Nat → Prop) (H0 : Heap) (o : Nat) (ad : Nat → Nat) (fb : Nat → Nat) (on fw : Nat → Int32) (dr : List Int32) (fm : Nat → Option Frm) (vs ch : Nat → Int32) (ps : List Pr) (hc9 : cOK K A H0 o ad fb on fw dr fm vs ch ps) (x y : Int32) : vx_Met l yX2_forms wsX2_forms ({ frames := 7, cells := 2, slots := 12, locals := 104 } : Room) (m_Pc K A H0 [.ref o, .int x, .int y]) (va_Qi (fun r H1 => (okN x 10 ∧ okN y 6) ∧ r = nI (cntF fm (54 * tN x + 9 * tN y)) ∧ H0 = H1) m_B A) (m_X (fun E => E = m_IO ∧ ¬ (okN x 10 ∧ okN y 6)) H0 A) 2 12 A := by
  refine m_ofX (by decide) rfl (Nat.le_of_ble_eq_true rfl) ?_
  intro p e s m args below meth c ls hx hb hr hml hown hts hlk hnm htab hE hsz hS hl
  have hl : lv_has ls 3 [(0, .ref o), (1, .int x), (2, .int y)] := hl
  obtain ⟨f, d, ft, li, T, hP, hD, hR⟩ := hc9
  obtain ⟨hfb, hon, hfw, hdr, hfm, hvs, hch, hls⟩ := id hR
  obtain ⟨hd9, hdl, hdj⟩ := hdr
  refine lv_iload_n hx hb dX2_forms_0 rfl (lv_at hl 1 rfl) ?_
  refine m_xSv (rest := []) ⟨hx, hb, hml, hown, hts⟩ hE hS (fun _ h => h) (kX2_requireKey l hl0 K A H0 x) (va_cwS 1 hts gX2_forms_X2_requireKey rfl rfl rfl (by decide +kernel) ⟨Nat.le_of_ble_eq_true rfl, Nat.le_of_ble_eq_true rfl⟩) rfl rfl hl.1 rfl (Nat.le_of_ble_eq_true rfl) dX2_forms_1 ⟨Nat.le_of_ble_eq_true rfl, Nat.le_of_ble_eq_true rfl⟩ (fun E ce q9 H1 locs1 hx9 hs9 hS9 g1 g2 g3 => m_out htab hlk (⟨hx9.1, fun z => hx9.2 z.1⟩) hs9 hS9 g1 g2 g3 (Nat.le_of_ble_eq_true rfl) (Nat.le_of_ble_eq_true rfl)) (fun H1 locs hp hS hk => ?_)
  obtain ⟨rfl, h1⟩ := hp
  refine lv_iload_n hx hb dX2_forms_4 rfl (lv_at hl 2 rfl) ?_
  refine m_xSv (rest := []) ⟨hx, hb, hml, hown, hts⟩ hE hS (fun _ h => h) (kX2_requireLanguage l hl0 K A H0 y) (va_cwS 1 hts gX2_forms_X2_requireLanguage rfl rfl rfl (by decide +kernel) ⟨Nat.le_of_ble_eq_true rfl, Nat.le_of_ble_eq_true rfl⟩) rfl rfl hl.1 rfl (Nat.le_of_ble_eq_true rfl) dX2_forms_5 ⟨Nat.le_of_ble_eq_true rfl, Nat.le_of_ble_eq_true rfl⟩ (fun E ce q9 H1 locs1 hx9 hs9 hS9 g1 g2 g3 => m_out htab hlk (⟨hx9.1, fun z => hx9.2 z.2⟩) hs9 hS9 g1 g2 g3 (Nat.le_of_ble_eq_true rfl) (Nat.le_of_ble_eq_true rfl)) (fun H1 locs hp hS hk => ?_)
  obtain ⟨rfl, h2⟩ := hp
  obtain ⟨k, hk_k, rfl⟩ := okN_of h1 (by decide)
  obtain ⟨g, hk_g, rfl⟩ := okN_of h2 (by decide)
  have hl : lv_has ls 3 [(0, .ref o), (1, .int (nI k)), (2, .int (nI g))] := hl
  refine lv_aload_n hx hb dX2_forms_8 rfl (lv_at hl 0 rfl) ?_
  refine lv_iload_n hx hb dX2_forms_9 rfl (lv_at hl 1 rfl) ?_
  refine lv_iload_n hx hb dX2_forms_10 rfl (lv_at hl 2 rfl) ?_
  refine m_cVi (rest := []) ⟨hx, hb, hml, hown, hts⟩ hE hS (fun _ h => h) (kX2_countForms l K A H0 o ad f d ft li T hP fm hfm k g hk_k hk_g) (cwV 2 hts gX2_forms_X2_countForms rfl rfl rfl (by decide +kernel) ⟨Nat.le_of_ble_eq_true rfl, Nat.le_of_ble_eq_true rfl⟩) (va_recv hE.k hP (ci := 3) (q0 := 0) rfl rfl) rfl rfl hl.1 rfl (Nat.le_of_ble_eq_true rfl) dX2_forms_11 ⟨Nat.le_of_ble_eq_true rfl, Nat.le_of_ble_eq_true rfl⟩ (fun r H1 locs hp hS hk => ?_)
  obtain ⟨rfl, rfl⟩ := hp
  exact vx_ret (m_iret hx hb hr hlk hS (Nat.le_of_ble_eq_true rfl) (Nat.le_of_ble_eq_true rfl) dX2_forms_14 (⟨⟨h1, h2⟩, by rw [tN_nI (by omega), tN_nI (by omega)], rfl⟩))

set_option maxHeartbeats 4000000 in
set_option maxRecDepth 100000 in
theorem kX2_version (l : Launch) (hl0 : l.stackTraces = false) (K : m_K) (A : Nat → Prop) (H0 : Heap) (o : Nat) (ad : Nat → Nat) (fb : Nat → Nat) (on fw : Nat → Int32) (dr : List Int32) (fm : Nat → Option Frm) (vs ch : Nat → Int32) (ps : List Pr) (hc9 : cOK K A H0 o ad fb on fw dr fm vs ch ps) (x : Int32) : vx_Met l yX2_version wsX2_version ({ frames := 7, cells := 1, slots := 6, locals := 104 } : Room) (m_Pc K A H0 [.ref o, .int x]) (va_Qi (fun r H1 => okN x 10 ∧ r = vs (tN x) ∧ H0 = H1) m_B A) (m_X (fun E => E = m_IO ∧ ¬ okN x 10) H0 A) 1 6 A := by
  refine m_ofX (by decide) rfl (Nat.le_of_ble_eq_true rfl) ?_
  intro p e s m args below meth c ls hx hb hr hml hown hts hlk hnm htab hE hsz hS hl
  have hl : lv_has ls 2 [(0, .ref o), (1, .int x)] := hl
  obtain ⟨f, d, ft, li, T, hP, hD, hR⟩ := hc9
  obtain ⟨hfb, hon, hfw, hdr, hfm, hvs, hch, hls⟩ := id hR
  obtain ⟨hd9, hdl, hdj⟩ := hdr
  have iX2 : ∀ w ∈ wsX20, w ∈ wsX2_version := by decide +kernel
  have f38 := hts (.fieldLink RX2 38 "PhraseCatalogue" "sourceVersions" "[I") (by decide +kernel)
  refine lv_iload_n hx hb dX2_version_0 rfl (lv_at hl 1 rfl) ?_
  refine m_xSv (rest := []) ⟨hx, hb, hml, hown, hts⟩ hE hS (fun _ h => h) (kX2_requireKey l hl0 K A H0 x) (va_cwS 1 hts gX2_version_X2_requireKey rfl rfl rfl (by decide +kernel) ⟨Nat.le_of_ble_eq_true rfl, Nat.le_of_ble_eq_true rfl⟩) rfl rfl hl.1 rfl (Nat.le_of_ble_eq_true rfl) dX2_version_1 ⟨Nat.le_of_ble_eq_true rfl, Nat.le_of_ble_eq_true rfl⟩ (fun E ce q9 H1 locs1 hx9 hs9 hS9 g1 g2 g3 => m_out htab hlk hx9 hs9 hS9 g1 g2 g3 (Nat.le_of_ble_eq_true rfl) (Nat.le_of_ble_eq_true rfl)) (fun H1 locs hp hS hk => ?_)
  obtain ⟨rfl, h1⟩ := hp
  obtain ⟨k, hk_k, rfl⟩ := okN_of h1 (by decide)
  have hl : lv_has ls 2 [(0, .ref o), (1, .int (nI k))] := hl
  refine lv_aload_n hx hb dX2_version_4 rfl (lv_at hl 0 rfl) ?_
  refine va_get (D := K.1) (ci := 3) (v := .ref (ad 6)) (C := RX2) (T := TX2) (N := 10) hx hb hts iX2 hown hE.k hP 0 rfl rfl 6 (by decide) f38 (fun _ h9 => h9) rfl dX2_version_5 ?_
  refine lv_iload_n hx hb dX2_version_8 rfl (lv_at hl 1 rfl) ?_
  refine m_iald hx hb hE.k hP 6 rfl (by omega) (by omega) (hvs _ (by omega)) dX2_version_9 ?_
  exact vx_ret (m_iret hx hb hr hlk hS (Nat.le_of_ble_eq_true rfl) (Nat.le_of_ble_eq_true rfl) dX2_version_10 (⟨h1, by rw [tN_nI (by omega)], rfl⟩))

set_option maxHeartbeats 4000000 in
set_option maxRecDepth 100000 in
theorem kX2_staleBy (l : Launch) (hl0 : l.stackTraces = false) (K : m_K) (A : Nat → Prop) (H0 : Heap) (o : Nat) (ad : Nat → Nat) (fb : Nat → Nat) (on fw : Nat → Int32) (dr : List Int32) (fm : Nat → Option Frm) (vs ch : Nat → Int32) (ps : List Pr) (hc9 : cOK K A H0 o ad fb on fw dr fm vs ch ps) (x y : Int32) : vx_Met l yX2_staleBy wsX2_staleBy ({ frames := 7, cells := 2, slots := 12, locals := 104 } : Room) (m_Pc K A H0 [.ref o, .int x, .int y]) (va_Qi (fun r H1 => (okN x 10 ∧ okN y 6) ∧ r = staleS fm vs ch (tN x) (tN y) ∧ H0 = H1) m_B A) (m_X (fun E => E = m_IO ∧ ¬ (okN x 10 ∧ okN y 6)) H0 A) 2 12 A := by
  refine m_ofX (by decide) rfl (Nat.le_of_ble_eq_true rfl) ?_
  intro p e s m args below meth c ls hx hb hr hml hown hts hlk hnm htab hE hsz hS hl
  have hl : lv_has ls 3 [(0, .ref o), (1, .int x), (2, .int y)] := hl
  obtain ⟨f, d, ft, li, T, hP, hD, hR⟩ := hc9
  obtain ⟨hfb, hon, hfw, hdr, hfm, hvs, hch, hls⟩ := id hR
  obtain ⟨hd9, hdl, hdj⟩ := hdr
  have iX2 : ∀ w ∈ wsX20, w ∈ wsX2_staleBy := by decide +kernel
  have f38 := hts (.fieldLink RX2 38 "PhraseCatalogue" "sourceVersions" "[I") (by decide +kernel)
  have f41 := hts (.fieldLink RX2 41 "PhraseCatalogue" "seenVersions" "[I") (by decide +kernel)
  refine lv_iload_n hx hb dX2_staleBy_0 rfl (lv_at hl 1 rfl) ?_
  refine m_xSv (rest := []) ⟨hx, hb, hml, hown, hts⟩ hE hS (fun _ h => h) (kX2_requireKey l hl0 K A H0 x) (va_cwS 1 hts gX2_staleBy_X2_requireKey rfl rfl rfl (by decide +kernel) ⟨Nat.le_of_ble_eq_true rfl, Nat.le_of_ble_eq_true rfl⟩) rfl rfl hl.1 rfl (Nat.le_of_ble_eq_true rfl) dX2_staleBy_1 ⟨Nat.le_of_ble_eq_true rfl, Nat.le_of_ble_eq_true rfl⟩ (fun E ce q9 H1 locs1 hx9 hs9 hS9 g1 g2 g3 => m_out htab hlk (⟨hx9.1, fun z => hx9.2 z.1⟩) hs9 hS9 g1 g2 g3 (Nat.le_of_ble_eq_true rfl) (Nat.le_of_ble_eq_true rfl)) (fun H1 locs hp hS hk => ?_)
  obtain ⟨rfl, h1⟩ := hp
  refine lv_iload_n hx hb dX2_staleBy_4 rfl (lv_at hl 2 rfl) ?_
  refine m_xSv (rest := []) ⟨hx, hb, hml, hown, hts⟩ hE hS (fun _ h => h) (kX2_requireLanguage l hl0 K A H0 y) (va_cwS 1 hts gX2_staleBy_X2_requireLanguage rfl rfl rfl (by decide +kernel) ⟨Nat.le_of_ble_eq_true rfl, Nat.le_of_ble_eq_true rfl⟩) rfl rfl hl.1 rfl (Nat.le_of_ble_eq_true rfl) dX2_staleBy_5 ⟨Nat.le_of_ble_eq_true rfl, Nat.le_of_ble_eq_true rfl⟩ (fun E ce q9 H1 locs1 hx9 hs9 hS9 g1 g2 g3 => m_out htab hlk (⟨hx9.1, fun z => hx9.2 z.2⟩) hs9 hS9 g1 g2 g3 (Nat.le_of_ble_eq_true rfl) (Nat.le_of_ble_eq_true rfl)) (fun H1 locs hp hS hk => ?_)
  obtain ⟨rfl, h2⟩ := hp
  obtain ⟨k, hk_k, rfl⟩ := okN_of h1 (by decide)
  obtain ⟨g, hk_g, rfl⟩ := okN_of h2 (by decide)
  have hl : lv_has ls 3 [(0, .ref o), (1, .int (nI k)), (2, .int (nI g))] := hl
  refine lv_aload_n hx hb dX2_staleBy_8 rfl (lv_at hl 0 rfl) ?_
  refine lv_iload_n hx hb dX2_staleBy_9 rfl (lv_at hl 1 rfl) ?_
  refine lv_iload_n hx hb dX2_staleBy_10 rfl (lv_at hl 2 rfl) ?_
  refine m_cVi (rest := []) ⟨hx, hb, hml, hown, hts⟩ hE hS (fun _ h => h) (kX2_countForms l K A H0 o ad f d ft li T hP fm hfm k g hk_k hk_g) (cwV 2 hts gX2_staleBy_X2_countForms rfl rfl rfl (by decide +kernel) ⟨Nat.le_of_ble_eq_true rfl, Nat.le_of_ble_eq_true rfl⟩) (va_recv hE.k hP (ci := 3) (q0 := 0) rfl rfl) rfl rfl hl.1 rfl (Nat.le_of_ble_eq_true rfl) dX2_staleBy_11 ⟨Nat.le_of_ble_eq_true rfl, Nat.le_of_ble_eq_true rfl⟩ (fun r H1 locs hp hS hk => ?_)
  obtain ⟨rfl, rfl⟩ := hp
  have hcf14 := cntF_le fm (54 * k + 9 * g)
  refine m_if_ne (tgt := 19) hx hb (by omega) dX2_staleBy_14 (by decide) (fun c_14 => ?_) (fun c_14 => ?_)
  · refine lv_iload_n hx hb dX2_staleBy_19 rfl (lv_at hl 2 rfl) ?_
    refine m_if_ne (tgt := 27) hx hb (by omega) dX2_staleBy_20 (by decide) (fun c_20 => ?_) (fun c_20 => ?_)
    · refine lv_aload_n hx hb dX2_staleBy_27 rfl (lv_at hl 0 rfl) ?_
      refine va_get (D := K.1) (ci := 3) (v := .ref (ad 6)) (C := RX2) (T := TX2) (N := 10) hx hb hts iX2 hown hE.k hP 0 rfl rfl 6 (by decide) f38 (fun _ h9 => h9) rfl dX2_staleBy_28 ?_
      refine lv_iload_n hx hb dX2_staleBy_31 rfl (lv_at hl 1 rfl) ?_
      refine m_iald hx hb hE.k hP 6 rfl (by omega) (by omega) (hvs _ (by omega)) dX2_staleBy_32 ?_
      refine lv_aload_n hx hb dX2_staleBy_33 rfl (lv_at hl 0 rfl) ?_
      refine va_get (D := K.1) (ci := 3) (v := .ref (ad 7)) (C := RX2) (T := TX2) (N := 10) hx hb hts iX2 hown hE.k hP 0 rfl rfl 7 (by decide) f41 (fun _ h9 => h9) rfl dX2_staleBy_34 ?_
      refine lv_iload_n hx hb dX2_staleBy_37 rfl (lv_at hl 1 rfl) ?_
      refine lv_iload_n hx hb dX2_staleBy_38 rfl (lv_at hl 2 rfl) ?_
      refine m_cSi (rest := [.ref (ad 7), .int (vs k)]) ⟨hx, hb, hml, hown, hts⟩ hE hS (fun _ h => h) (kX2_textOf l K A H0 k g) (va_cwS 2 hts gX2_staleBy_X2_textOf rfl rfl rfl (by decide +kernel) ⟨Nat.le_of_ble_eq_true rfl, Nat.le_of_ble_eq_true rfl⟩) rfl rfl hl.1 rfl (Nat.le_of_ble_eq_true rfl) dX2_staleBy_39 ⟨Nat.le_of_ble_eq_true rfl, Nat.le_of_ble_eq_true rfl⟩ (fun r H1 locs hp hS hk => ?_)
      obtain ⟨rfl, rfl⟩ := hp
      refine m_iald hx hb hE.k hP 7 rfl (by omega) (by omega) (hch k g hk_k hk_g c_20) dX2_staleBy_42 ?_
      refine lv_isub hx hb dX2_staleBy_43 ?_
      exact vx_ret (m_iret hx hb hr hlk hS (Nat.le_of_ble_eq_true rfl) (Nat.le_of_ble_eq_true rfl) dX2_staleBy_44 (⟨⟨h1, h2⟩, by rw [tN_nI (by omega), tN_nI (by omega), staleS, if_neg c_14, if_neg c_20], rfl⟩))
    · refine lv_iconst (v := nI 0) hx hb dX2_staleBy_23 (by decide) ?_
      refine lv_goto (tgt := 44) hx hb dX2_staleBy_24 (by decide) ?_
      exact vx_ret (m_iret hx hb hr hlk hS (Nat.le_of_ble_eq_true rfl) (Nat.le_of_ble_eq_true rfl) dX2_staleBy_44 (⟨⟨h1, h2⟩, by rw [tN_nI (by omega), tN_nI (by omega), staleS, if_neg c_14, if_pos c_20], rfl⟩))
  · refine lv_iconst (v := (-1)) hx hb dX2_staleBy_17 (by decide) ?_
    exact vx_ret (m_iret hx hb hr hlk hS (Nat.le_of_ble_eq_true rfl) (Nat.le_of_ble_eq_true rfl) dX2_staleBy_18 (⟨⟨h1, h2⟩, by rw [tN_nI (by omega), tN_nI (by omega), staleS, if_pos c_14], rfl⟩))

theorem ms_y {a b n : Nat} (h1 : ¬ a ≤ 0) (h2 : b = 0) : n + 1 = n + (if (decide (0 < a) && decide (b = 0)) = true then 1 else 0) := by
  rw [if_pos (by simp; omega)]
theorem ms_n {a b n : Nat} (h : a ≤ 0 ∨ ¬ b = 0) : n = n + (if (decide (0 < a) && decide (b = 0)) = true then 1 else 0) := by
  rw [if_neg (by simp; omega), Nat.add_zero]

set_option maxHeartbeats 4000000 in
set_option maxRecDepth 100000 in
theorem kX2_missing (l : Launch) (hl0 : l.stackTraces = false) (K : m_K) (A : Nat → Prop) (H0 : Heap) (o : Nat) (ad : Nat → Nat) (fb : Nat → Nat) (on fw : Nat → Int32) (dr : List Int32) (fm : Nat → Option Frm) (vs ch : Nat → Int32) (ps : List Pr) (hc9 : cOK K A H0 o ad fb on fw dr fm vs ch ps) (x : Int32) : vx_Met l yX2_missing wsX2_missing ({ frames := 7, cells := 1, slots := 6, locals := 104 } : Room) (m_Pc K A H0 [.ref o, .int x]) (va_Qi (fun r H1 => okN x 6 ∧ r = nI (missS fm (tN x) 10) ∧ H0 = H1) m_B A) (m_X (fun E => E = m_IO ∧ ¬ okN x 6) H0 A) 1 6 A := by
  refine m_ofX (by decide) rfl (Nat.le_of_ble_eq_true rfl) ?_
  intro p e s m args below meth c ls hx hb hr hml hown hts hlk hnm htab hE hsz hS hl
  have hl : lv_has ls 4 [(0, .ref o), (1, .int x)] := hl
  obtain ⟨f, d, ft, li, T, hP, hD, hR⟩ := hc9
  obtain ⟨hfb, hon, hfw, hdr, hfm, hvs, hch, hls⟩ := id hR
  obtain ⟨hd9, hdl, hdj⟩ := hdr
  refine lv_iload_n hx hb dX2_missing_0 rfl (lv_at hl 1 rfl) ?_
  refine m_xSv (rest := []) ⟨hx, hb, hml, hown, hts⟩ hE hS (fun _ h => h) (kX2_requireLanguage l hl0 K A H0 x) (va_cwS 1 hts gX2_missing_X2_requireLanguage rfl rfl rfl (by decide +kernel) ⟨Nat.le_of_ble_eq_true rfl, Nat.le_of_ble_eq_true rfl⟩) rfl rfl hl.1 rfl (Nat.le_of_ble_eq_true rfl) dX2_missing_1 ⟨Nat.le_of_ble_eq_true rfl, Nat.le_of_ble_eq_true rfl⟩ (fun E ce q9 H1 locs1 hx9 hs9 hS9 g1 g2 g3 => m_out htab hlk hx9 hs9 hS9 g1 g2 g3 (Nat.le_of_ble_eq_true rfl) (Nat.le_of_ble_eq_true rfl)) (fun H1 locs hp hS hk => ?_)
  obtain ⟨rfl, h1⟩ := hp
  obtain ⟨g, hk_g, rfl⟩ := okN_of h1 (by decide)
  have hl : lv_has ls 4 [(0, .ref o), (1, .int (nI g))] := hl
  refine lv_iconst (v := nI 0) hx hb dX2_missing_4 (by decide) ?_
  refine lv_istore_n (lv' := [(2, .int (nI 0)), (0, .ref o), (1, .int (nI g))]) hx hb dX2_missing_5 rfl hl (by decide) rfl (fun ls hl => ?_)
  refine lv_iconst (v := nI 0) hx hb dX2_missing_6 (by decide) ?_
  refine lv_istore_n (lv' := [(3, .int (nI 0)), (2, .int (nI 0)), (0, .ref o), (1, .int (nI g))]) hx hb dX2_missing_7 rfl hl (by decide) rfl (fun ls hl => ?_)
  refine (?_ : ∀ (n9 : Nat) (k : Nat) (n : Nat) (locs : List Loc) (ls : Array Slot), k ≤ 10 → 10 < k + n9 → n ≤ k → n = missS fm g k → va_S A s.heap H0 locs → lv_has ls 4 [(3, .int (nI k)), (2, .int (nI n)), (0, .ref o), (1, .int (nI g))] → W p l e _ s m args below meth c H0 locs (0 + 1) (0 + 6) _ (F0 m 8 ls [])) (10 + 1) 0 0 _ ls (by omega) (by omega) (Nat.le_refl _) rfl hS (lv_sub hl [0, 1, 2, 3] rfl)
  clear hS hl
  intro n9
  induction n9 with
  | zero => intro k n locs ls hi9 hn9; exact absurd hn9 (by omega)
  | succ n9 ih =>
    intro k n locs ls hi9 hn9 hn10 hinv hS hl
    refine lv_iload_n hx hb dX2_missing_8 rfl (lv_at hl 0 rfl) ?_
    refine lv_bipush (v := nI 10) hx hb dX2_missing_9 (by decide) ?_
    refine m_icmp_ge (tgt := 41) hx hb (by omega) (by omega) dX2_missing_11 (by decide) (fun c_11 => ?_) (fun c_11 => ?_)
    · refine lv_iload_n hx hb dX2_missing_41 rfl (lv_at hl 1 rfl) ?_
      exact vx_ret (m_iret hx hb hr hlk hS (Nat.le_of_ble_eq_true rfl) (Nat.le_of_ble_eq_true rfl) dX2_missing_42 (⟨h1, by rw [tN_nI (by omega), hinv, show k = 10 by omega], rfl⟩))
    · refine lv_aload_n hx hb dX2_missing_14 rfl (lv_at hl 2 rfl) ?_
      refine lv_iload_n hx hb dX2_missing_15 rfl (lv_at hl 0 rfl) ?_
      refine lv_iconst (v := nI 0) hx hb dX2_missing_16 (by decide) ?_
      refine m_cVi (rest := []) ⟨hx, hb, hml, hown, hts⟩ hE hS (fun _ h => h) (kX2_countForms l K A H0 o ad f d ft li T hP fm hfm k 0 (by omega) (by decide)) (cwV 2 hts gX2_missing_X2_countForms rfl rfl rfl (by decide +kernel) ⟨Nat.le_of_ble_eq_true rfl, Nat.le_of_ble_eq_true rfl⟩) (va_recv hE.k hP (ci := 3) (q0 := 0) rfl rfl) rfl rfl hl.1 rfl (Nat.le_of_ble_eq_true rfl) dX2_missing_17 ⟨Nat.le_of_ble_eq_true rfl, Nat.le_of_ble_eq_true rfl⟩ (fun r H1 locs hp hS hk => ?_)
      obtain ⟨rfl, rfl⟩ := hp
      have hcf20 := cntF_le fm (54 * k + 9 * 0)
      refine m_if_le (tgt := 35) hx hb (by omega) dX2_missing_20 (by decide) (fun c_20 => ?_) (fun c_20 => ?_)
      · refine lv_iinc (v := nI (k + 1)) (lv' := [(3, .int (nI (k + 1))), (2, .int (nI n)), (0, .ref o), (1, .int (nI g))]) hx hb dX2_missing_35 hl (k := 0) rfl (m_inc _) (by decide) rfl (fun ls hl => ?_)
        refine lv_goto (tgt := 8) hx hb dX2_missing_38 (by decide) ?_
        exact ih (k + 1) n _ ls (by omega) (by omega) (by omega) (by rw [missS, cntN, ← missS, ← hinv]; exact ms_n (Or.inl c_20)) hS (lv_sub hl [0, 1, 2, 3] rfl)
      · refine lv_aload_n hx hb dX2_missing_23 rfl (lv_at hl 2 rfl) ?_
        refine lv_iload_n hx hb dX2_missing_24 rfl (lv_at hl 0 rfl) ?_
        refine lv_iload_n hx hb dX2_missing_25 rfl (lv_at hl 3 rfl) ?_
        refine m_cVi (rest := []) ⟨hx, hb, hml, hown, hts⟩ hE hS (fun _ h => h) (kX2_countForms l K A H0 o ad f d ft li T hP fm hfm k g (by omega) hk_g) (cwV 2 hts gX2_missing_X2_countForms rfl rfl rfl (by decide +kernel) ⟨Nat.le_of_ble_eq_true rfl, Nat.le_of_ble_eq_true rfl⟩) (va_recv hE.k hP (ci := 3) (q0 := 0) rfl rfl) rfl rfl hl.1 rfl (Nat.le_of_ble_eq_true rfl) dX2_missing_26 ⟨Nat.le_of_ble_eq_true rfl, Nat.le_of_ble_eq_true rfl⟩ (fun r H1 locs hp hS hk => ?_)
        obtain ⟨rfl, rfl⟩ := hp
        have hcf29 := cntF_le fm (54 * k + 9 * g)
        refine m_if_ne (tgt := 35) hx hb (by omega) dX2_missing_29 (by decide) (fun c_29 => ?_) (fun c_29 => ?_)
        · refine lv_iinc (v := nI (k + 1)) (lv' := [(3, .int (nI (k + 1))), (2, .int (nI n)), (0, .ref o), (1, .int (nI g))]) hx hb dX2_missing_35 hl (k := 0) rfl (m_inc _) (by decide) rfl (fun ls hl => ?_)
          refine lv_goto (tgt := 8) hx hb dX2_missing_38 (by decide) ?_
          exact ih (k + 1) n _ ls (by omega) (by omega) (by omega) (by rw [missS, cntN, ← missS, ← hinv]; exact ms_n (Or.inr c_29)) hS (lv_sub hl [0, 1, 2, 3] rfl)
        · refine lv_iinc (v := nI (n + 1)) (lv' := [(2, .int (nI (n + 1))), (3, .int (nI k)), (0, .ref o), (1, .int (nI g))]) hx hb dX2_missing_32 hl (k := 1) rfl (m_inc _) (by decide) rfl (fun ls hl => ?_)
          refine lv_iinc (v := nI (k + 1)) (lv' := [(3, .int (nI (k + 1))), (2, .int (nI (n + 1))), (0, .ref o), (1, .int (nI g))]) hx hb dX2_missing_35 hl (k := 1) rfl (m_inc _) (by decide) rfl (fun ls hl => ?_)
          refine lv_goto (tgt := 8) hx hb dX2_missing_38 (by decide) ?_
          exact ih (k + 1) (n + 1) _ ls (by omega) (by omega) (by omega) (by rw [missS, cntN, ← missS, ← hinv]; exact ms_y c_20 c_29) hS (lv_sub hl [0, 1, 2, 3] rfl)

set_option maxHeartbeats 4000000 in
set_option maxRecDepth 100000 in
theorem kX2_fits (l : Launch) (hl0 : l.stackTraces = false) (K : m_K) (A : Nat → Prop) (H0 : Heap) (o : Nat) (ad : Nat → Nat) (fb : Nat → Nat) (on fw : Nat → Int32) (dr : List Int32) (fm : Nat → Option Frm) (vs ch : Nat → Int32) (ps : List Pr) (hc9 : cOK K A H0 o ad fb on fw dr fm vs ch ps) (x y z w : Int32) : vx_Met l yX2_fits wsX2_fits ({ frames := 8, cells := 4, slots := 24, locals := 127 } : Room) (m_Pc K A H0 [.ref o, .int x, .int y, .int z, .int w]) (va_Qi (fun r H1 => okF x y z w ∧ r = bI (fitF fm (tN x) (fm (54 * tN x + 9 * tN y + 3 * tN z + tN w))) ∧ H0 = H1) m_B A) (m_X (fun E => E = m_IO ∧ ¬ okF x y z w) H0 A) 4 24 A := by
  refine m_ofX (by decide) rfl (Nat.le_of_ble_eq_true rfl) ?_
  intro p e s m args below meth c ls hx hb hr hml hown hts hlk hnm htab hE hsz hS hl
  have hl : lv_has ls 5 [(0, .ref o), (1, .int x), (2, .int y), (3, .int z), (4, .int w)] := hl
  obtain ⟨f, d, ft, li, T, hP, hD, hR⟩ := hc9
  obtain ⟨hfb, hon, hfw, hdr, hfm, hvs, hch, hls⟩ := id hR
  obtain ⟨hd9, hdl, hdj⟩ := hdr
  have iX2 : ∀ w ∈ wsX20, w ∈ wsX2_fits := by decide +kernel
  have f34 := hts (.fieldLink RX2 34 "PhraseCatalogue" "formTable" "[LPhraseCatalogue$Form;") (by decide +kernel)
  refine lv_iload_n hx hb dX2_fits_0 rfl (lv_at hl 1 rfl) ?_
  refine lv_iload_n hx hb dX2_fits_1 rfl (lv_at hl 2 rfl) ?_
  refine lv_iload_n hx hb dX2_fits_2 rfl (lv_at hl 3 rfl) ?_
  refine lv_iload hx hb dX2_fits_3 (lv_at hl 4 rfl) ?_
  refine m_xSv (rest := []) ⟨hx, hb, hml, hown, hts⟩ hE hS (fun _ h => h) (kX2_requireForm l hl0 K A H0 x y z w) (va_cwS 4 hts gX2_fits_X2_requireForm rfl rfl rfl (by decide +kernel) ⟨Nat.le_of_ble_eq_true rfl, Nat.le_of_ble_eq_true rfl⟩) rfl rfl hl.1 rfl (Nat.le_of_ble_eq_true rfl) dX2_fits_5 ⟨Nat.le_of_ble_eq_true rfl, Nat.le_of_ble_eq_true rfl⟩ (fun E ce q9 H1 locs1 hx9 hs9 hS9 g1 g2 g3 => m_out htab hlk hx9 hs9 hS9 g1 g2 g3 (Nat.le_of_ble_eq_true rfl) (Nat.le_of_ble_eq_true rfl)) (fun H1 locs hp hS hk => ?_)
  obtain ⟨rfl, h1⟩ := hp
  obtain ⟨k, hk_k, rfl⟩ := okN_of h1.1 (by decide)
  obtain ⟨g, hk_g, rfl⟩ := okN_of h1.2.1 (by decide)
  obtain ⟨i, hk_i, rfl⟩ := okN_of h1.2.2.1 (by decide)
  obtain ⟨u, hk_u, rfl⟩ := okN_of h1.2.2.2 (by decide)
  have hl : lv_has ls 5 [(0, .ref o), (1, .int (nI k)), (2, .int (nI g)), (3, .int (nI i)), (4, .int (nI u))] := hl
  refine lv_aload_n hx hb dX2_fits_8 rfl (lv_at hl 0 rfl) ?_
  refine lv_iload_n hx hb dX2_fits_9 rfl (lv_at hl 1 rfl) ?_
  refine lv_aload_n hx hb dX2_fits_10 rfl (lv_at hl 0 rfl) ?_
  refine va_get (D := K.1) (ci := 3) (v := .ref (ad 5)) (C := RX2) (T := TX2) (N := 10) hx hb hts iX2 hown hE.k hP 0 rfl rfl 5 (by decide) f34 (fun _ h9 => h9) rfl dX2_fits_11 ?_
  refine lv_iload_n hx hb dX2_fits_14 rfl (lv_at hl 1 rfl) ?_
  refine lv_iload_n hx hb dX2_fits_15 rfl (lv_at hl 2 rfl) ?_
  refine lv_iload_n hx hb dX2_fits_16 rfl (lv_at hl 3 rfl) ?_
  refine lv_iload hx hb dX2_fits_17 (lv_at hl 4 rfl) ?_
  refine m_cSi (rest := [.ref (ad 5), .int (nI k), .ref o]) ⟨hx, hb, hml, hown, hts⟩ hE hS (fun _ h => h) (kX2_slotOf l K A _ k g i u (54 * k + 9 * g + 3 * i + u) (by omega)) (va_cwS 4 hts gX2_fits_X2_slotOf rfl rfl rfl (by decide +kernel) ⟨Nat.le_of_ble_eq_true rfl, Nat.le_of_ble_eq_true rfl⟩) rfl rfl hl.1 rfl (Nat.le_of_ble_eq_true rfl) dX2_fits_19 ⟨Nat.le_of_ble_eq_true rfl, Nat.le_of_ble_eq_true rfl⟩ (fun r H1 locs hp hS hk => ?_)
  obtain ⟨rfl, rfl⟩ := hp
  refine m_aald2 hx hb hE.k hP 5 rfl (by omega) (by omega) rfl dX2_fits_22 ?_
  refine m_cVi (rest := []) ⟨hx, hb, hml, hown, hts⟩ hE hS (fun _ h => h) (kX2_isFitting l K A H0 o ad f d ft li T hP fm hfm k hk_k (ft (54 * k + 9 * g + 3 * i + u)) (fm (54 * k + 9 * g + 3 * i + u)) (hfm _ (by omega))) (cwV 2 hts gX2_fits_X2_isFitting rfl rfl rfl (by decide +kernel) ⟨Nat.le_of_ble_eq_true rfl, Nat.le_of_ble_eq_true rfl⟩) (va_recv hE.k hP (ci := 3) (q0 := 0) rfl rfl) rfl rfl hl.1 rfl (Nat.le_of_ble_eq_true rfl) dX2_fits_23 ⟨Nat.le_of_ble_eq_true rfl, Nat.le_of_ble_eq_true rfl⟩ (fun r H1 locs hp hS hk => ?_)
  obtain ⟨rfl, rfl⟩ := hp
  exact vx_ret (m_zret hx hb hr hlk hS (Nat.le_of_ble_eq_true rfl) (Nat.le_of_ble_eq_true rfl) dX2_fits_26 (⟨h1, by rw [tN_nI (by omega), tN_nI (by omega), tN_nI (by omega), tN_nI (by omega)], rfl⟩))

set_option maxHeartbeats 4000000 in
set_option maxRecDepth 100000 in
theorem kX2_toldBy (l : Launch) (hl0 : l.stackTraces = false) (K : m_K) (A : Nat → Prop) (H0 : Heap) (o : Nat) (ad : Nat → Nat) (fb : Nat → Nat) (on fw : Nat → Int32) (dr : List Int32) (fm : Nat → Option Frm) (vs ch : Nat → Int32) (ps : List Pr) (hc9 : cOK K A H0 o ad fb on fw dr fm vs ch ps) (x y z w : Int32) : vx_Met l yX2_toldBy wsX2_toldBy ({ frames := 8, cells := 4, slots := 24, locals := 172 } : Room) (m_Pc K A H0 [.ref o, .int x, .int y, .int z, .int w]) (va_Qi (fun r H1 => (okQ x y w ∧ okN z 2147483648) ∧ r = lgS (tellS fb on fw fm (tN x) (tN y) z (tN w)) ∧ H0 = H1) m_B A) (m_X (fun E => (E = m_IO ∧ ¬ okQ x y w) ∨ (E = m_IA ∧ okQ x y w ∧ ¬ okN z 2147483648)) H0 A) 4 24 A := by
  refine m_ofX (by decide) rfl (Nat.le_of_ble_eq_true rfl) ?_
  intro p e s m args below meth c ls hx hb hr hml hown hts hlk hnm htab hE hsz hS hl
  have hl : lv_has ls 5 [(0, .ref o), (1, .int x), (2, .int y), (3, .int z), (4, .int w)] := hl
  obtain ⟨f, d, ft, li, T, hP, hD, hR⟩ := hc9
  obtain ⟨hfb, hon, hfw, hdr, hfm, hvs, hch, hls⟩ := id hR
  obtain ⟨hd9, hdl, hdj⟩ := hdr
  refine lv_iload_n hx hb dX2_toldBy_0 rfl (lv_at hl 1 rfl) ?_
  refine lv_iload_n hx hb dX2_toldBy_1 rfl (lv_at hl 2 rfl) ?_
  refine lv_iload_n hx hb dX2_toldBy_2 rfl (lv_at hl 3 rfl) ?_
  refine lv_iload hx hb dX2_toldBy_3 (lv_at hl 4 rfl) ?_
  refine m_xSv (rest := []) ⟨hx, hb, hml, hown, hts⟩ hE hS (fun _ h => h) (kX2_requireQuestion l hl0 K A H0 x y z w) (va_cwS 4 hts gX2_toldBy_X2_requireQuestion rfl rfl rfl (by decide +kernel) ⟨Nat.le_of_ble_eq_true rfl, Nat.le_of_ble_eq_true rfl⟩) rfl rfl hl.1 rfl (Nat.le_of_ble_eq_true rfl) dX2_toldBy_5 ⟨Nat.le_of_ble_eq_true rfl, Nat.le_of_ble_eq_true rfl⟩ (fun E ce q9 H1 locs1 hx9 hs9 hS9 g1 g2 g3 => m_out htab hlk hx9 hs9 hS9 g1 g2 g3 (Nat.le_of_ble_eq_true rfl) (Nat.le_of_ble_eq_true rfl)) (fun H1 locs hp hS hk => ?_)
  obtain ⟨rfl, ⟨h1, h3⟩⟩ := hp
  obtain ⟨k, hk_k, rfl⟩ := okN_of h1.1 (by decide)
  obtain ⟨g, hk_g, rfl⟩ := okN_of h1.2.1 (by decide)
  obtain ⟨u, hk_u, rfl⟩ := okN_of h1.2.2 (by decide)
  have hl : lv_has ls 5 [(0, .ref o), (1, .int (nI k)), (2, .int (nI g)), (3, .int z), (4, .int (nI u))] := hl
  refine lv_aload_n hx hb dX2_toldBy_8 rfl (lv_at hl 0 rfl) ?_
  refine lv_iload_n hx hb dX2_toldBy_9 rfl (lv_at hl 1 rfl) ?_
  refine lv_iload_n hx hb dX2_toldBy_10 rfl (lv_at hl 2 rfl) ?_
  refine lv_iload_n hx hb dX2_toldBy_11 rfl (lv_at hl 3 rfl) ?_
  refine lv_iload hx hb dX2_toldBy_12 (lv_at hl 4 rfl) ?_
  refine m_cVi (rest := []) ⟨hx, hb, hml, hown, hts⟩ hE hS (fun _ h => h) (kX2_findAlongChain l K A H0 o ad f d ft li T hP fb hfb fm hfm on fw hon hfw k g z u hk_k hk_g hk_u) (cwV 4 hts gX2_toldBy_X2_findAlongChain rfl rfl rfl (by decide +kernel) ⟨Nat.le_of_ble_eq_true rfl, Nat.le_of_ble_eq_true rfl⟩) (va_recv hE.k hP (ci := 3) (q0 := 0) rfl rfl) rfl rfl hl.1 rfl (Nat.le_of_ble_eq_true rfl) dX2_toldBy_14 ⟨Nat.le_of_ble_eq_true rfl, Nat.le_of_ble_eq_true rfl⟩ (fun r H1 locs hp hS hk => ?_)
  obtain ⟨rfl, rfl⟩ := hp
  refine m_cSi (rest := []) ⟨hx, hb, hml, hown, hts⟩ hE hS (fun _ h => h) (kX2_languageOfSlot l K A H0 (tellS fb on fw fm k g z u) (fun z9 hz => Nat.lt_trans (tellS_lt (fun i hi => (hfb i hi).2) hk_k hk_g hk_u hz) (by decide))) (va_cwS 1 hts gX2_toldBy_X2_languageOfSlot rfl rfl rfl (by decide +kernel) ⟨Nat.le_of_ble_eq_true rfl, Nat.le_of_ble_eq_true rfl⟩) rfl rfl hl.1 rfl (Nat.le_of_ble_eq_true rfl) dX2_toldBy_17 ⟨Nat.le_of_ble_eq_true rfl, Nat.le_of_ble_eq_true rfl⟩ (fun r H1 locs hp hS hk => ?_)
  obtain ⟨rfl, rfl⟩ := hp
  exact vx_ret (m_iret hx hb hr hlk hS (Nat.le_of_ble_eq_true rfl) (Nat.le_of_ble_eq_true rfl) dX2_toldBy_20 (⟨⟨h1, h3⟩, by rw [tN_nI (by omega), tN_nI (by omega), tN_nI (by omega)]; rfl, rfl⟩))

set_option maxHeartbeats 4000000 in
set_option maxRecDepth 100000 in
theorem kX2_toldByLooking (l : Launch) (hl0 : l.stackTraces = false) (K : m_K) (A : Nat → Prop) (H0 : Heap) (o : Nat) (ad : Nat → Nat) (fb : Nat → Nat) (on fw : Nat → Int32) (dr : List Int32) (fm : Nat → Option Frm) (vs ch : Nat → Int32) (ps : List Pr) (hc9 : cOK K A H0 o ad fb on fw dr fm vs ch ps) (x y z w : Int32) : vx_Met l yX2_toldByLooking wsX2_toldByLooking ({ frames := 8, cells := 4, slots := 24, locals := 127 } : Room) (m_Pc K A H0 [.ref o, .int x, .int y, .int z, .int w]) (va_Qi (fun r H1 => (okQ x y w ∧ okN z 2147483648) ∧ r = lgS (lookS fb on fw fm (tN x) (tN y) z (tN w)) ∧ H0 = H1) m_B A) (m_X (fun E => (E = m_IO ∧ ¬ okQ x y w) ∨ (E = m_IA ∧ okQ x y w ∧ ¬ okN z 2147483648)) H0 A) 4 24 A := by
  refine m_ofX (by decide) rfl (Nat.le_of_ble_eq_true rfl) ?_
  intro p e s m args below meth c ls hx hb hr hml hown hts hlk hnm htab hE hsz hS hl
  have hl : lv_has ls 5 [(0, .ref o), (1, .int x), (2, .int y), (3, .int z), (4, .int w)] := hl
  obtain ⟨f, d, ft, li, T, hP, hD, hR⟩ := hc9
  obtain ⟨hfb, hon, hfw, hdr, hfm, hvs, hch, hls⟩ := id hR
  obtain ⟨hd9, hdl, hdj⟩ := hdr
  refine lv_iload_n hx hb dX2_toldByLooking_0 rfl (lv_at hl 1 rfl) ?_
  refine lv_iload_n hx hb dX2_toldByLooking_1 rfl (lv_at hl 2 rfl) ?_
  refine lv_iload_n hx hb dX2_toldByLooking_2 rfl (lv_at hl 3 rfl) ?_
  refine lv_iload hx hb dX2_toldByLooking_3 (lv_at hl 4 rfl) ?_
  refine m_xSv (rest := []) ⟨hx, hb, hml, hown, hts⟩ hE hS (fun _ h => h) (kX2_requireQuestion l hl0 K A H0 x y z w) (va_cwS 4 hts gX2_toldByLooking_X2_requireQuestion rfl rfl rfl (by decide +kernel) ⟨Nat.le_of_ble_eq_true rfl, Nat.le_of_ble_eq_true rfl⟩) rfl rfl hl.1 rfl (Nat.le_of_ble_eq_true rfl) dX2_toldByLooking_5 ⟨Nat.le_of_ble_eq_true rfl, Nat.le_of_ble_eq_true rfl⟩ (fun E ce q9 H1 locs1 hx9 hs9 hS9 g1 g2 g3 => m_out htab hlk hx9 hs9 hS9 g1 g2 g3 (Nat.le_of_ble_eq_true rfl) (Nat.le_of_ble_eq_true rfl)) (fun H1 locs hp hS hk => ?_)
  obtain ⟨rfl, ⟨h1, h3⟩⟩ := hp
  obtain ⟨k, hk_k, rfl⟩ := okN_of h1.1 (by decide)
  obtain ⟨g, hk_g, rfl⟩ := okN_of h1.2.1 (by decide)
  obtain ⟨u, hk_u, rfl⟩ := okN_of h1.2.2 (by decide)
  have hl : lv_has ls 5 [(0, .ref o), (1, .int (nI k)), (2, .int (nI g)), (3, .int z), (4, .int (nI u))] := hl
  refine lv_aload_n hx hb dX2_toldByLooking_8 rfl (lv_at hl 0 rfl) ?_
  refine lv_iload_n hx hb dX2_toldByLooking_9 rfl (lv_at hl 1 rfl) ?_
  refine lv_iload_n hx hb dX2_toldByLooking_10 rfl (lv_at hl 2 rfl) ?_
  refine lv_iload_n hx hb dX2_toldByLooking_11 rfl (lv_at hl 3 rfl) ?_
  refine lv_iload hx hb dX2_toldByLooking_12 (lv_at hl 4 rfl) ?_
  refine m_cVi (rest := []) ⟨hx, hb, hml, hown, hts⟩ hE hS (fun _ h => h) (kX2_findByLooking l K A H0 o ad f d ft li T hP fb hfb fm hfm on fw hon hfw k g z u hk_k hk_g hk_u) (cwV 4 hts gX2_toldByLooking_X2_findByLooking rfl rfl rfl (by decide +kernel) ⟨Nat.le_of_ble_eq_true rfl, Nat.le_of_ble_eq_true rfl⟩) (va_recv hE.k hP (ci := 3) (q0 := 0) rfl rfl) rfl rfl hl.1 rfl (Nat.le_of_ble_eq_true rfl) dX2_toldByLooking_14 ⟨Nat.le_of_ble_eq_true rfl, Nat.le_of_ble_eq_true rfl⟩ (fun r H1 locs hp hS hk => ?_)
  obtain ⟨rfl, rfl⟩ := hp
  refine m_cSi (rest := []) ⟨hx, hb, hml, hown, hts⟩ hE hS (fun _ h => h) (kX2_languageOfSlot l K A H0 (lookS fb on fw fm k g z u) (fun z9 hz => Nat.lt_trans (lookS_lt hk_k hz) (by decide))) (va_cwS 1 hts gX2_toldByLooking_X2_languageOfSlot rfl rfl rfl (by decide +kernel) ⟨Nat.le_of_ble_eq_true rfl, Nat.le_of_ble_eq_true rfl⟩) rfl rfl hl.1 rfl (Nat.le_of_ble_eq_true rfl) dX2_toldByLooking_17 ⟨Nat.le_of_ble_eq_true rfl, Nat.le_of_ble_eq_true rfl⟩ (fun r H1 locs hp hS hk => ?_)
  obtain ⟨rfl, rfl⟩ := hp
  exact vx_ret (m_iret hx hb hr hlk hS (Nat.le_of_ble_eq_true rfl) (Nat.le_of_ble_eq_true rfl) dX2_toldByLooking_20 (⟨⟨h1, h3⟩, by rw [tN_nI (by omega), tN_nI (by omega), tN_nI (by omega)]; rfl, rfl⟩))

set_option maxHeartbeats 4000000 in
set_option maxRecDepth 100000 in
theorem kX2_toldForm (l : Launch) (hl0 : l.stackTraces = false) (K : m_K) (A : Nat → Prop) (H0 : Heap) (o : Nat) (ad : Nat → Nat) (fb : Nat → Nat) (on fw : Nat → Int32) (dr : List Int32) (fm : Nat → Option Frm) (vs ch : Nat → Int32) (ps : List Pr) (hc9 : cOK K A H0 o ad fb on fw dr fm vs ch ps) (x y z w : Int32) : vx_Met l yX2_toldForm wsX2_toldForm ({ frames := 8, cells := 4, slots := 24, locals := 172 } : Room) (m_Pc K A H0 [.ref o, .int x, .int y, .int z, .int w]) (va_Qi (fun r H1 => (okQ x y w ∧ okN z 2147483648) ∧ r = fmS (tellS fb on fw fm (tN x) (tN y) z (tN w)) ∧ H0 = H1) m_B A) (m_X (fun E => (E = m_IO ∧ ¬ okQ x y w) ∨ (E = m_IA ∧ okQ x y w ∧ ¬ okN z 2147483648)) H0 A) 4 24 A := by
  refine m_ofX (by decide) rfl (Nat.le_of_ble_eq_true rfl) ?_
  intro p e s m args below meth c ls hx hb hr hml hown hts hlk hnm htab hE hsz hS hl
  have hl : lv_has ls 6 [(0, .ref o), (1, .int x), (2, .int y), (3, .int z), (4, .int w)] := hl
  obtain ⟨f, d, ft, li, T, hP, hD, hR⟩ := hc9
  obtain ⟨hfb, hon, hfw, hdr, hfm, hvs, hch, hls⟩ := id hR
  obtain ⟨hd9, hdl, hdj⟩ := hdr
  refine lv_iload_n hx hb dX2_toldForm_0 rfl (lv_at hl 1 rfl) ?_
  refine lv_iload_n hx hb dX2_toldForm_1 rfl (lv_at hl 2 rfl) ?_
  refine lv_iload_n hx hb dX2_toldForm_2 rfl (lv_at hl 3 rfl) ?_
  refine lv_iload hx hb dX2_toldForm_3 (lv_at hl 4 rfl) ?_
  refine m_xSv (rest := []) ⟨hx, hb, hml, hown, hts⟩ hE hS (fun _ h => h) (kX2_requireQuestion l hl0 K A H0 x y z w) (va_cwS 4 hts gX2_toldForm_X2_requireQuestion rfl rfl rfl (by decide +kernel) ⟨Nat.le_of_ble_eq_true rfl, Nat.le_of_ble_eq_true rfl⟩) rfl rfl hl.1 rfl (Nat.le_of_ble_eq_true rfl) dX2_toldForm_5 ⟨Nat.le_of_ble_eq_true rfl, Nat.le_of_ble_eq_true rfl⟩ (fun E ce q9 H1 locs1 hx9 hs9 hS9 g1 g2 g3 => m_out htab hlk hx9 hs9 hS9 g1 g2 g3 (Nat.le_of_ble_eq_true rfl) (Nat.le_of_ble_eq_true rfl)) (fun H1 locs hp hS hk => ?_)
  obtain ⟨rfl, ⟨h1, h3⟩⟩ := hp
  obtain ⟨k, hk_k, rfl⟩ := okN_of h1.1 (by decide)
  obtain ⟨g, hk_g, rfl⟩ := okN_of h1.2.1 (by decide)
  obtain ⟨u, hk_u, rfl⟩ := okN_of h1.2.2 (by decide)
  have hl : lv_has ls 6 [(0, .ref o), (1, .int (nI k)), (2, .int (nI g)), (3, .int z), (4, .int (nI u))] := hl
  refine lv_aload_n hx hb dX2_toldForm_8 rfl (lv_at hl 0 rfl) ?_
  refine lv_iload_n hx hb dX2_toldForm_9 rfl (lv_at hl 1 rfl) ?_
  refine lv_iload_n hx hb dX2_toldForm_10 rfl (lv_at hl 2 rfl) ?_
  refine lv_iload_n hx hb dX2_toldForm_11 rfl (lv_at hl 3 rfl) ?_
  refine lv_iload hx hb dX2_toldForm_12 (lv_at hl 4 rfl) ?_
  refine m_cVi (rest := []) ⟨hx, hb, hml, hown, hts⟩ hE hS (fun _ h => h) (kX2_findAlongChain l K A H0 o ad f d ft li T hP fb hfb fm hfm on fw hon hfw k g z u hk_k hk_g hk_u) (cwV 4 hts gX2_toldForm_X2_findAlongChain rfl rfl rfl (by decide +kernel) ⟨Nat.le_of_ble_eq_true rfl, Nat.le_of_ble_eq_true rfl⟩) (va_recv hE.k hP (ci := 3) (q0 := 0) rfl rfl) rfl rfl hl.1 rfl (Nat.le_of_ble_eq_true rfl) dX2_toldForm_14 ⟨Nat.le_of_ble_eq_true rfl, Nat.le_of_ble_eq_true rfl⟩ (fun r H1 locs hp hS hk => ?_)
  obtain ⟨rfl, rfl⟩ := hp
  refine lv_istore (lv' := [(5, .int (oI (tellS fb on fw fm k g z u))), (0, .ref o), (1, .int (nI k)), (2, .int (nI g)), (3, .int z), (4, .int (nI u))]) hx hb dX2_toldForm_17 hl (by decide) rfl (fun ls hl => ?_)
  refine lv_iload hx hb dX2_toldForm_19 (lv_at hl 0 rfl) ?_
  refine lv_iconst (v := (-1)) hx hb dX2_toldForm_21 (by decide) ?_
  refine m_icmp_ne_o (tgt := 29) hx hb (fun z9 hz => Nat.lt_trans (tellS_lt (fun i hi => (hfb i hi).2) hk_k hk_g hk_u hz) (by decide)) dX2_toldForm_22 (by decide) (fun k_22 c_22 => ?_) (fun c_22 => ?_)
  · rw [c_22] at hl
    have hl : lv_has ls 6 [(5, .int (nI k_22)), (0, .ref o), (1, .int (nI k)), (2, .int (nI g)), (3, .int z), (4, .int (nI u))] := hl
    have hs22 := tellS_lt (fun i hi => (hfb i hi).2) hk_k hk_g hk_u c_22
    refine lv_iload hx hb dX2_toldForm_29 (lv_at hl 0 rfl) ?_
    refine lv_bipush (v := nI 9) hx hb dX2_toldForm_31 (by decide) ?_
    refine m_irem hx hb (by omega) (by omega) (by omega) dX2_toldForm_33 ?_
    exact vx_ret (m_iret hx hb hr hlk hS (Nat.le_of_ble_eq_true rfl) (Nat.le_of_ble_eq_true rfl) dX2_toldForm_34 (⟨⟨h1, h3⟩, by rw [tN_nI (by omega), tN_nI (by omega), tN_nI (by omega), c_22]; rfl, rfl⟩))
  · refine lv_iconst (v := (-1)) hx hb dX2_toldForm_25 (by decide) ?_
    refine lv_goto (tgt := 34) hx hb dX2_toldForm_26 (by decide) ?_
    exact vx_ret (m_iret hx hb hr hlk hS (Nat.le_of_ble_eq_true rfl) (Nat.le_of_ble_eq_true rfl) dX2_toldForm_34 (⟨⟨h1, h3⟩, by rw [tN_nI (by omega), tN_nI (by omega), tN_nI (by omega), c_22]; rfl, rfl⟩))

set_option maxHeartbeats 4000000 in
set_option maxRecDepth 100000 in
theorem kX2_toldSign (l : Launch) (hl0 : l.stackTraces = false) (K : m_K) (A : Nat → Prop) (H0 : Heap) (o : Nat) (ad : Nat → Nat) (fb : Nat → Nat) (on fw : Nat → Int32) (dr : List Int32) (fm : Nat → Option Frm) (vs ch : Nat → Int32) (ps : List Pr) (hc9 : cOK K A H0 o ad fb on fw dr fm vs ch ps) (x y z w v : Int32) : vx_Met l yX2_toldSign wsX2_toldSign ({ frames := 8, cells := 6, slots := 36, locals := 172 } : Room) (m_Pc K A H0 [.ref o, .int x, .int y, .int z, .int w, .int v]) (va_Qi (fun r H1 => (okQ x y w ∧ okN z 2147483648) ∧ signS fm (tellS fb on fw fm (tN x) (tN y) z (tN w)) v = some r ∧ H0 = H1) m_B A) (m_X (fun E => (E = m_IO ∧ ¬ okQ x y w) ∨ (E = m_IA ∧ okQ x y w ∧ ¬ okN z 2147483648) ∨ (E = m_IO ∧ okQ x y w ∧ okN z 2147483648 ∧ signS fm (tellS fb on fw fm (tN x) (tN y) z (tN w)) v = none)) H0 A) 6 36 A := by
  refine m_ofX (by decide) rfl (Nat.le_of_ble_eq_true rfl) ?_
  intro p e s m args below meth c ls hx hb hr hml hown hts hlk hnm htab hE hsz hS hl
  have hl : lv_has ls 8 [(0, .ref o), (1, .int x), (2, .int y), (3, .int z), (4, .int w), (5, .int v)] := hl
  obtain ⟨f, d, ft, li, T, hP, hD, hR⟩ := hc9
  obtain ⟨hfb, hon, hfw, hdr, hfm, hvs, hch, hls⟩ := id hR
  obtain ⟨hd9, hdl, hdj⟩ := hdr
  have iX2 : ∀ w ∈ wsX20, w ∈ wsX2_toldSign := by decide +kernel
  have f34 := hts (.fieldLink RX2 34 "PhraseCatalogue" "formTable" "[LPhraseCatalogue$Form;") (by decide +kernel)
  have k58 := hts (.classLink RX2 58 m_IO) (by decide +kernel)
  have kk58 := hts (.initialized m_IO) (by decide +kernel)
  have kg58 : ∀ w ∈ (vx_atS RX2 62 m_IO m_RT).filter goodWord, w.before args s = true := fun w hw => hts w (m_gIO_X2_toldSign w hw)
  have iX0 : ∀ w ∈ wsX00, w ∈ wsX2_toldSign := by decide +kernel
  have f118 := hts (.fieldLink RX2 118 "PhraseCatalogue$Form" "signs" "[I") (by decide +kernel)
  refine lv_iload_n hx hb dX2_toldSign_0 rfl (lv_at hl 1 rfl) ?_
  refine lv_iload_n hx hb dX2_toldSign_1 rfl (lv_at hl 2 rfl) ?_
  refine lv_iload_n hx hb dX2_toldSign_2 rfl (lv_at hl 3 rfl) ?_
  refine lv_iload hx hb dX2_toldSign_3 (lv_at hl 4 rfl) ?_
  refine m_xSv (rest := []) ⟨hx, hb, hml, hown, hts⟩ hE hS (fun _ h => h) (kX2_requireQuestion l hl0 K A H0 x y z w) (va_cwS 4 hts gX2_toldSign_X2_requireQuestion rfl rfl rfl (by decide +kernel) ⟨Nat.le_of_ble_eq_true rfl, Nat.le_of_ble_eq_true rfl⟩) rfl rfl hl.1 rfl (Nat.le_of_ble_eq_true rfl) dX2_toldSign_5 ⟨Nat.le_of_ble_eq_true rfl, Nat.le_of_ble_eq_true rfl⟩ (fun E ce q9 H1 locs1 hx9 hs9 hS9 g1 g2 g3 => m_out htab hlk (hx9.elim (fun z => Or.inl z) (fun z => Or.inr (Or.inl z))) hs9 hS9 g1 g2 g3 (Nat.le_of_ble_eq_true rfl) (Nat.le_of_ble_eq_true rfl)) (fun H1 locs hp hS hk => ?_)
  obtain ⟨rfl, ⟨h1, h3⟩⟩ := hp
  obtain ⟨k, hk_k, rfl⟩ := okN_of h1.1 (by decide)
  obtain ⟨g, hk_g, rfl⟩ := okN_of h1.2.1 (by decide)
  obtain ⟨u, hk_u, rfl⟩ := okN_of h1.2.2 (by decide)
  have hl : lv_has ls 8 [(0, .ref o), (1, .int (nI k)), (2, .int (nI g)), (3, .int z), (4, .int (nI u)), (5, .int v)] := hl
  refine lv_aload_n hx hb dX2_toldSign_8 rfl (lv_at hl 0 rfl) ?_
  refine lv_iload_n hx hb dX2_toldSign_9 rfl (lv_at hl 1 rfl) ?_
  refine lv_iload_n hx hb dX2_toldSign_10 rfl (lv_at hl 2 rfl) ?_
  refine lv_iload_n hx hb dX2_toldSign_11 rfl (lv_at hl 3 rfl) ?_
  refine lv_iload hx hb dX2_toldSign_12 (lv_at hl 4 rfl) ?_
  refine m_cVi (rest := []) ⟨hx, hb, hml, hown, hts⟩ hE hS (fun _ h => h) (kX2_findAlongChain l K A H0 o ad f d ft li T hP fb hfb fm hfm on fw hon hfw k g z u hk_k hk_g hk_u) (cwV 4 hts gX2_toldSign_X2_findAlongChain rfl rfl rfl (by decide +kernel) ⟨Nat.le_of_ble_eq_true rfl, Nat.le_of_ble_eq_true rfl⟩) (va_recv hE.k hP (ci := 3) (q0 := 0) rfl rfl) rfl rfl hl.1 rfl (Nat.le_of_ble_eq_true rfl) dX2_toldSign_14 ⟨Nat.le_of_ble_eq_true rfl, Nat.le_of_ble_eq_true rfl⟩ (fun r H1 locs hp hS hk => ?_)
  obtain ⟨rfl, rfl⟩ := hp
  refine lv_istore (lv' := [(6, .int (oI (tellS fb on fw fm k g z u))), (0, .ref o), (1, .int (nI k)), (2, .int (nI g)), (3, .int z), (4, .int (nI u)), (5, .int v)]) hx hb dX2_toldSign_17 hl (by decide) rfl (fun ls hl => ?_)
  refine lv_iload hx hb dX2_toldSign_19 (lv_at hl 0 rfl) ?_
  refine lv_iconst (v := (-1)) hx hb dX2_toldSign_21 (by decide) ?_
  refine m_icmp_ne_o (tgt := 29) hx hb (fun z9 hz => Nat.lt_trans (tellS_lt (fun i hi => (hfb i hi).2) hk_k hk_g hk_u hz) (by decide)) dX2_toldSign_22 (by decide) (fun k_22 c_22 => ?_) (fun c_22 => ?_)
  · rw [c_22] at hl
    have hl : lv_has ls 8 [(6, .int (nI k_22)), (0, .ref o), (1, .int (nI k)), (2, .int (nI g)), (3, .int z), (4, .int (nI u)), (5, .int v)] := hl
    have hs22 := tellS_lt (fun i hi => (hfb i hi).2) hk_k hk_g hk_u c_22
    refine lv_aload_n hx hb dX2_toldSign_29 rfl (lv_at hl 1 rfl) ?_
    refine va_get (D := K.1) (ci := 3) (v := .ref (ad 5)) (C := RX2) (T := TX2) (N := 10) hx hb hts iX2 hown hE.k hP 0 rfl rfl 5 (by decide) f34 (fun _ h9 => h9) rfl dX2_toldSign_30 ?_
    refine lv_iload hx hb dX2_toldSign_33 (lv_at hl 0 rfl) ?_
    refine m_aald2 hx hb hE.k hP 5 rfl (by omega) (by omega) rfl dX2_toldSign_35 ?_
    refine m_astoreq (lv' := [(6, .int (nI k_22)), (0, .ref o), (1, .int (nI k)), (2, .int (nI g)), (3, .int z), (4, .int (nI u)), (5, .int v)]) hx hb dX2_toldSign_36 hl (by decide) (fun v9 hv9 => rfl) (fun ls hl => ?_)
    refine m_aloadq hx hb dX2_toldSign_38 (lv_at hl 0 rfl) ?_
    refine m_ifnonnull (tgt := 53) hx hb dX2_toldSign_40 (by decide) (fun a_40 c_40 => ?_) (fun c_40 => ?_)
    · obtain ⟨F, hF, hFa⟩ := FOpt_at (hfm k_22 hs22) c_40
      obtain ⟨ix, sq, jx, sg, hix, hjx, hsg, hl1, hl8⟩ := id hFa
      rw [c_40] at hl
      have hl : lv_has ls 8 [(7, .ref a_40), (6, .int (nI k_22)), (0, .ref o), (1, .int (nI k)), (2, .int (nI g)), (3, .int z), (4, .int (nI u)), (5, .int v)] := hl
      refine lv_iload hx hb dX2_toldSign_53 (lv_at hl 7 rfl) ?_
      refine lv_if_lt (tgt := 69) hx hb dX2_toldSign_55 (by decide) (fun c_55 => ?_) (fun c_55 => ?_)
      · exact m_thrIO (is := 155) (text := "the form has no sign at this place") hx hb hl0 hown hE k58 kk58 kg58 (by decide +kernel) hS m_same.rf (hl.1.trans hml.symm) dX2_toldSign_69 dX2_toldSign_72 dX2_toldSign_73 dX2_toldSign_75 dX2_toldSign_78 htab hlk (Nat.le_of_ble_eq_true rfl) (Nat.le_of_ble_eq_true rfl) (Nat.le_of_ble_eq_true rfl) (Nat.le_of_ble_eq_true rfl) (Or.inr (Or.inr ⟨rfl, h1, h3, by rw [tN_nI (by omega), tN_nI (by omega), tN_nI (by omega)]; simp only [signS, c_22, hF]; rw [okB_f (okN_lo c_55)]; rfl⟩)) (Nat.le_of_ble_eq_true rfl) (Nat.le_of_ble_eq_true rfl)
      · refine lv_iload hx hb dX2_toldSign_58 (lv_at hl 7 rfl) ?_
        refine lv_aload hx hb dX2_toldSign_60 (lv_at hl 0 rfl) ?_
        refine va_get (D := K.1) (ci := 1) (v := .ref sq) (C := RX0) (T := TX0) (N := 3) hx hb hts iX0 hown hE.k hP (ix + 10) (cW_t hix) rfl 0 (by decide) f118 (fun _ h9 => h9) rfl dX2_toldSign_62 ?_
        refine va_alen (v := nI F.1.length) hx hb hE.k hP (jx + 10) 0 (cW_t hjx) rfl rfl dX2_toldSign_65 ?_
        refine lv_icmp_lt (tgt := 79) hx hb dX2_toldSign_66 (by decide) (fun c_66 => ?_) (fun c_66 => ?_)
        · have hp8 : okN v F.1.length := okN_in (by omega) c_55 (fun q => Int32.not_lt.mpr q c_66)
          have hbt := okB_t hp8
          obtain ⟨j9, hk_j9, rfl⟩ := okN_of hp8 (by omega)
          have hl : lv_has ls 8 [(7, .ref a_40), (6, .int (nI k_22)), (0, .ref o), (1, .int (nI k)), (2, .int (nI g)), (3, .int z), (4, .int (nI u)), (5, .int (nI j9))] := hl
          refine lv_aload hx hb dX2_toldSign_79 (lv_at hl 0 rfl) ?_
          refine va_get (D := K.1) (ci := 1) (v := .ref sq) (C := RX0) (T := TX0) (N := 3) hx hb hts iX0 hown hE.k hP (ix + 10) (cW_t hix) rfl 0 (by decide) f118 (fun _ h9 => h9) rfl dX2_toldSign_81 ?_
          refine lv_iload hx hb dX2_toldSign_84 (lv_at hl 7 rfl) ?_
          refine m_iald hx hb hE.k hP (jx + 10) (cW_t hjx) (by omega) (by omega) (hsg _ (by omega)) dX2_toldSign_86 ?_
          exact vx_ret (m_iret hx hb hr hlk hS (Nat.le_of_ble_eq_true rfl) (Nat.le_of_ble_eq_true rfl) dX2_toldSign_87 (⟨⟨h1, h3⟩, by rw [tN_nI (by omega), tN_nI (by omega), tN_nI (by omega)]; simp only [signS, c_22, hF]; rw [if_pos hbt, tN_nI (by omega)], rfl⟩))
        · exact m_thrIO (is := 155) (text := "the form has no sign at this place") hx hb hl0 hown hE k58 kk58 kg58 (by decide +kernel) hS m_same.rf (hl.1.trans hml.symm) dX2_toldSign_69 dX2_toldSign_72 dX2_toldSign_73 dX2_toldSign_75 dX2_toldSign_78 htab hlk (Nat.le_of_ble_eq_true rfl) (Nat.le_of_ble_eq_true rfl) (Nat.le_of_ble_eq_true rfl) (Nat.le_of_ble_eq_true rfl) (Or.inr (Or.inr ⟨rfl, h1, h3, by rw [tN_nI (by omega), tN_nI (by omega), tN_nI (by omega)]; simp only [signS, c_22, hF]; rw [okB_f (okN_hi (by omega) (Int32.not_lt.mp c_66))]; rfl⟩)) (Nat.le_of_ble_eq_true rfl) (Nat.le_of_ble_eq_true rfl)
    · exact m_thrIO (is := 153) (text := "nothing is told") hx hb hl0 hown hE k58 kk58 kg58 (by decide +kernel) hS m_same.rf (hl.1.trans hml.symm) dX2_toldSign_43 dX2_toldSign_46 dX2_toldSign_47 dX2_toldSign_49 dX2_toldSign_52 htab hlk (Nat.le_of_ble_eq_true rfl) (Nat.le_of_ble_eq_true rfl) (Nat.le_of_ble_eq_true rfl) (Nat.le_of_ble_eq_true rfl) (Or.inr (Or.inr ⟨rfl, h1, h3, by rw [tN_nI (by omega), tN_nI (by omega), tN_nI (by omega)]; simp only [signS, c_22, FOpt_has (hfm k_22 hs22) c_40]⟩)) (Nat.le_of_ble_eq_true rfl) (Nat.le_of_ble_eq_true rfl)
  · refine lv_null hx hb dX2_toldSign_25 ?_
    refine lv_goto (tgt := 36) hx hb dX2_toldSign_26 (by decide) ?_
    refine lv_astoreN (lv' := [(7, .null), (6, .int (oI (tellS fb on fw fm k g z u))), (0, .ref o), (1, .int (nI k)), (2, .int (nI g)), (3, .int z), (4, .int (nI u)), (5, .int v)]) hx hb dX2_toldSign_36 hl (by decide) rfl (fun ls hl => ?_)
    refine lv_aloadN hx hb dX2_toldSign_38 (lv_at hl 0 rfl) ?_
    refine lv_ifnonnullN hx hb dX2_toldSign_40 ?_
    exact m_thrIO (is := 153) (text := "nothing is told") hx hb hl0 hown hE k58 kk58 kg58 (by decide +kernel) hS m_same.rf (hl.1.trans hml.symm) dX2_toldSign_43 dX2_toldSign_46 dX2_toldSign_47 dX2_toldSign_49 dX2_toldSign_52 htab hlk (Nat.le_of_ble_eq_true rfl) (Nat.le_of_ble_eq_true rfl) (Nat.le_of_ble_eq_true rfl) (Nat.le_of_ble_eq_true rfl) (Or.inr (Or.inr ⟨rfl, h1, h3, by rw [tN_nI (by omega), tN_nI (by omega), tN_nI (by omega)]; simp only [signS, c_22]⟩)) (Nat.le_of_ble_eq_true rfl) (Nat.le_of_ble_eq_true rfl)
