theorem m_gIO_X2_requireForm : ∀ w ∈ (vx_atS RX2 62 m_IO m_RT).filter goodWord, w ∈ wsX2_requireForm := by decide +kernel
theorem m_gIO_X2_requireGender : ∀ w ∈ (vx_atS RX2 62 m_IO m_RT).filter goodWord, w ∈ wsX2_requireGender := by decide +kernel
theorem m_gIO_X2_requireKey : ∀ w ∈ (vx_atS RX2 62 m_IO m_RT).filter goodWord, w ∈ wsX2_requireKey := by decide +kernel
theorem m_gIO_X2_requireLanguage : ∀ w ∈ (vx_atS RX2 62 m_IO m_RT).filter goodWord, w ∈ wsX2_requireLanguage := by decide +kernel
theorem m_gIA_X2_requireNumber : ∀ w ∈ (vx_atS RX2 73 m_IA m_RT).filter goodWord, w ∈ wsX2_requireNumber := by decide +kernel
theorem m_gIA_X2_requireNumberLimit : ∀ w ∈ (vx_atS RX2 73 m_IA m_RT).filter goodWord, w ∈ wsX2_requireNumberLimit := by decide +kernel
set_option maxHeartbeats 4000000 in
set_option maxRecDepth 100000 in
/-- requireKey: in range, or IndexOutOfBoundsException -/
theorem kX2_requireKey (l : Launch) (hl0 : l.stackTraces = false) (K : m_K) (A : Nat → Prop) (H0 : Heap) (x : Int32) : vx_Met l yX2_requireKey wsX2_requireKey ({ frames := 6, cells := 1, slots := 6, locals := 84 } : Room) (m_Pc K A H0 [.int x]) (va_Qv (fun H1 => H0 = H1 ∧ okN x 10) m_B A) (m_X (fun E => E = m_IO ∧ ¬ okN x 10) H0 A) 1 6 A := by
  refine m_ofX (by decide) rfl (Nat.le_of_ble_eq_true rfl) ?_
  intro p e s m args below meth c ls hx hb hr hml hown hts hlk hnm htab hE hsz hS hl
  have hl : lv_has ls 1 [(0, .int x)] := hl
  have k58 := hts (.classLink RX2 58 m_IO) (by decide +kernel)
  have kk58 := hts (.initialized m_IO) (by decide +kernel)
  have kg58 : ∀ w ∈ (vx_atS RX2 62 m_IO m_RT).filter goodWord, w.before args s = true := fun w hw => hts w (m_gIO_X2_requireKey w hw)
  refine lv_iload_n hx hb dX2_requireKey_0 rfl (lv_at hl 0 rfl) ?_
  refine lv_if_lt (tgt := 10) hx hb dX2_requireKey_1 (by decide) (fun c_1 => ?_) (fun c_1 => ?_)
  · exact m_thrIO (is := 180) (text := "there is no such key") hx hb hl0 hown hE k58 kk58 kg58 (by decide +kernel) hS m_same.rf (hl.1.trans hml.symm) dX2_requireKey_10 dX2_requireKey_13 dX2_requireKey_14 dX2_requireKey_16 dX2_requireKey_19 htab hlk (Nat.le_of_ble_eq_true rfl) (Nat.le_of_ble_eq_true rfl) (Nat.le_of_ble_eq_true rfl) (Nat.le_of_ble_eq_true rfl) (⟨rfl, okN_lo c_1⟩) (Nat.le_of_ble_eq_true rfl) (Nat.le_of_ble_eq_true rfl)
  · refine lv_iload_n hx hb dX2_requireKey_4 rfl (lv_at hl 0 rfl) ?_
    refine lv_bipush (v := nI 10) hx hb dX2_requireKey_5 (by decide) ?_
    refine lv_icmp_lt (tgt := 20) hx hb dX2_requireKey_7 (by decide) (fun c_7 => ?_) (fun c_7 => ?_)
    · exact vx_ret (m_vret hx hb hr hlk hS (Nat.le_of_ble_eq_true rfl) (Nat.le_of_ble_eq_true rfl) dX2_requireKey_20 (⟨rfl, okN_in (by decide) c_1 (fun q => (Int32.not_lt.mpr q) c_7)⟩))
    · exact m_thrIO (is := 180) (text := "there is no such key") hx hb hl0 hown hE k58 kk58 kg58 (by decide +kernel) hS m_same.rf (hl.1.trans hml.symm) dX2_requireKey_10 dX2_requireKey_13 dX2_requireKey_14 dX2_requireKey_16 dX2_requireKey_19 htab hlk (Nat.le_of_ble_eq_true rfl) (Nat.le_of_ble_eq_true rfl) (Nat.le_of_ble_eq_true rfl) (Nat.le_of_ble_eq_true rfl) (⟨rfl, okN_hi (by decide) (Int32.not_lt.mp c_7)⟩) (Nat.le_of_ble_eq_true rfl) (Nat.le_of_ble_eq_true rfl)

set_option maxHeartbeats 4000000 in
set_option maxRecDepth 100000 in
/-- requireLanguage: in range, or IndexOutOfBoundsException -/
theorem kX2_requireLanguage (l : Launch) (hl0 : l.stackTraces = false) (K : m_K) (A : Nat → Prop) (H0 : Heap) (x : Int32) : vx_Met l yX2_requireLanguage wsX2_requireLanguage ({ frames := 6, cells := 1, slots := 6, locals := 84 } : Room) (m_Pc K A H0 [.int x]) (va_Qv (fun H1 => H0 = H1 ∧ okN x 6) m_B A) (m_X (fun E => E = m_IO ∧ ¬ okN x 6) H0 A) 1 6 A := by
  refine m_ofX (by decide) rfl (Nat.le_of_ble_eq_true rfl) ?_
  intro p e s m args below meth c ls hx hb hr hml hown hts hlk hnm htab hE hsz hS hl
  have hl : lv_has ls 1 [(0, .int x)] := hl
  have k58 := hts (.classLink RX2 58 m_IO) (by decide +kernel)
  have kk58 := hts (.initialized m_IO) (by decide +kernel)
  have kg58 : ∀ w ∈ (vx_atS RX2 62 m_IO m_RT).filter goodWord, w.before args s = true := fun w hw => hts w (m_gIO_X2_requireLanguage w hw)
  refine lv_iload_n hx hb dX2_requireLanguage_0 rfl (lv_at hl 0 rfl) ?_
  refine lv_if_lt (tgt := 10) hx hb dX2_requireLanguage_1 (by decide) (fun c_1 => ?_) (fun c_1 => ?_)
  · exact m_thrIO (is := 182) (text := "there is no such language") hx hb hl0 hown hE k58 kk58 kg58 (by decide +kernel) hS m_same.rf (hl.1.trans hml.symm) dX2_requireLanguage_10 dX2_requireLanguage_13 dX2_requireLanguage_14 dX2_requireLanguage_16 dX2_requireLanguage_19 htab hlk (Nat.le_of_ble_eq_true rfl) (Nat.le_of_ble_eq_true rfl) (Nat.le_of_ble_eq_true rfl) (Nat.le_of_ble_eq_true rfl) (⟨rfl, okN_lo c_1⟩) (Nat.le_of_ble_eq_true rfl) (Nat.le_of_ble_eq_true rfl)
  · refine lv_iload_n hx hb dX2_requireLanguage_4 rfl (lv_at hl 0 rfl) ?_
    refine lv_bipush (v := nI 6) hx hb dX2_requireLanguage_5 (by decide) ?_
    refine lv_icmp_lt (tgt := 20) hx hb dX2_requireLanguage_7 (by decide) (fun c_7 => ?_) (fun c_7 => ?_)
    · exact vx_ret (m_vret hx hb hr hlk hS (Nat.le_of_ble_eq_true rfl) (Nat.le_of_ble_eq_true rfl) dX2_requireLanguage_20 (⟨rfl, okN_in (by decide) c_1 (fun q => (Int32.not_lt.mpr q) c_7)⟩))
    · exact m_thrIO (is := 182) (text := "there is no such language") hx hb hl0 hown hE k58 kk58 kg58 (by decide +kernel) hS m_same.rf (hl.1.trans hml.symm) dX2_requireLanguage_10 dX2_requireLanguage_13 dX2_requireLanguage_14 dX2_requireLanguage_16 dX2_requireLanguage_19 htab hlk (Nat.le_of_ble_eq_true rfl) (Nat.le_of_ble_eq_true rfl) (Nat.le_of_ble_eq_true rfl) (Nat.le_of_ble_eq_true rfl) (⟨rfl, okN_hi (by decide) (Int32.not_lt.mp c_7)⟩) (Nat.le_of_ble_eq_true rfl) (Nat.le_of_ble_eq_true rfl)

set_option maxHeartbeats 4000000 in
set_option maxRecDepth 100000 in
/-- requireGender: in range, or IndexOutOfBoundsException -/
theorem kX2_requireGender (l : Launch) (hl0 : l.stackTraces = false) (K : m_K) (A : Nat → Prop) (H0 : Heap) (x : Int32) : vx_Met l yX2_requireGender wsX2_requireGender ({ frames := 6, cells := 1, slots := 6, locals := 84 } : Room) (m_Pc K A H0 [.int x]) (va_Qv (fun H1 => H0 = H1 ∧ okN x 3) m_B A) (m_X (fun E => E = m_IO ∧ ¬ okN x 3) H0 A) 1 6 A := by
  refine m_ofX (by decide) rfl (Nat.le_of_ble_eq_true rfl) ?_
  intro p e s m args below meth c ls hx hb hr hml hown hts hlk hnm htab hE hsz hS hl
  have hl : lv_has ls 1 [(0, .int x)] := hl
  have k58 := hts (.classLink RX2 58 m_IO) (by decide +kernel)
  have kk58 := hts (.initialized m_IO) (by decide +kernel)
  have kg58 : ∀ w ∈ (vx_atS RX2 62 m_IO m_RT).filter goodWord, w.before args s = true := fun w hw => hts w (m_gIO_X2_requireGender w hw)
  refine lv_iload_n hx hb dX2_requireGender_0 rfl (lv_at hl 0 rfl) ?_
  refine lv_if_lt (tgt := 9) hx hb dX2_requireGender_1 (by decide) (fun c_1 => ?_) (fun c_1 => ?_)
  · exact m_thrIO (is := 184) (text := "there is no such gender") hx hb hl0 hown hE k58 kk58 kg58 (by decide +kernel) hS m_same.rf (hl.1.trans hml.symm) dX2_requireGender_9 dX2_requireGender_12 dX2_requireGender_13 dX2_requireGender_15 dX2_requireGender_18 htab hlk (Nat.le_of_ble_eq_true rfl) (Nat.le_of_ble_eq_true rfl) (Nat.le_of_ble_eq_true rfl) (Nat.le_of_ble_eq_true rfl) (⟨rfl, okN_lo c_1⟩) (Nat.le_of_ble_eq_true rfl) (Nat.le_of_ble_eq_true rfl)
  · refine lv_iload_n hx hb dX2_requireGender_4 rfl (lv_at hl 0 rfl) ?_
    refine lv_iconst (v := nI 3) hx hb dX2_requireGender_5 (by decide) ?_
    refine lv_icmp_lt (tgt := 19) hx hb dX2_requireGender_6 (by decide) (fun c_6 => ?_) (fun c_6 => ?_)
    · exact vx_ret (m_vret hx hb hr hlk hS (Nat.le_of_ble_eq_true rfl) (Nat.le_of_ble_eq_true rfl) dX2_requireGender_19 (⟨rfl, okN_in (by decide) c_1 (fun q => (Int32.not_lt.mpr q) c_6)⟩))
    · exact m_thrIO (is := 184) (text := "there is no such gender") hx hb hl0 hown hE k58 kk58 kg58 (by decide +kernel) hS m_same.rf (hl.1.trans hml.symm) dX2_requireGender_9 dX2_requireGender_12 dX2_requireGender_13 dX2_requireGender_15 dX2_requireGender_18 htab hlk (Nat.le_of_ble_eq_true rfl) (Nat.le_of_ble_eq_true rfl) (Nat.le_of_ble_eq_true rfl) (Nat.le_of_ble_eq_true rfl) (⟨rfl, okN_hi (by decide) (Int32.not_lt.mp c_6)⟩) (Nat.le_of_ble_eq_true rfl) (Nat.le_of_ble_eq_true rfl)

theorem lim_gt {x : Int32} (h : ¬ x ≤ nI 100) : nI 101 ≤ x := by
  have h1 := Int32.not_le.mp h
  rw [Int32.lt_iff_toInt_lt, nI_toInt (by decide)] at h1
  rw [Int32.le_iff_toInt_le, nI_toInt (by decide)]
  omega
theorem lim_le {x : Int32} (h : x ≤ nI 100) (q : nI 101 ≤ x) : False := by
  rw [Int32.le_iff_toInt_le, nI_toInt (by decide)] at h q
  omega

set_option maxHeartbeats 4000000 in
set_option maxRecDepth 100000 in
/-- requireNumberLimit -/
theorem kX2_requireNumberLimit (l : Launch) (hl0 : l.stackTraces = false) (K : m_K) (A : Nat → Prop) (H0 : Heap) (x : Int32) : vx_Met l yX2_requireNumberLimit wsX2_requireNumberLimit ({ frames := 6, cells := 1, slots := 6, locals := 84 } : Room) (m_Pc K A H0 [.int x]) (va_Qv (fun H1 => H0 = H1 ∧ okN x 101) m_B A) (m_X (fun E => E = m_IA ∧ ¬ okN x 101) H0 A) 1 6 A := by
  refine m_ofX (by decide) rfl (Nat.le_of_ble_eq_true rfl) ?_
  intro p e s m args below meth c ls hx hb hr hml hown hts hlk hnm htab hE hsz hS hl
  have hl : lv_has ls 1 [(0, .int x)] := hl
  have k69 := hts (.classLink RX2 69 m_IA) (by decide +kernel)
  have kk69 := hts (.initialized m_IA) (by decide +kernel)
  have kg69 : ∀ w ∈ (vx_atS RX2 73 m_IA m_RT).filter goodWord, w.before args s = true := fun w hw => hts w (m_gIA_X2_requireNumberLimit w hw)
  refine lv_iload_n hx hb dX2_requireNumberLimit_0 rfl (lv_at hl 0 rfl) ?_
  refine lv_if_lt (tgt := 10) hx hb dX2_requireNumberLimit_1 (by decide) (fun c_1 => ?_) (fun c_1 => ?_)
  · exact m_thrIA (is := 193) (text := "ones and few are 0 to 100") hx hb hl0 hown hE k69 kk69 kg69 (by decide +kernel) hS m_same.rf (hl.1.trans hml.symm) dX2_requireNumberLimit_10 dX2_requireNumberLimit_13 dX2_requireNumberLimit_14 dX2_requireNumberLimit_16 dX2_requireNumberLimit_19 htab hlk (Nat.le_of_ble_eq_true rfl) (Nat.le_of_ble_eq_true rfl) (Nat.le_of_ble_eq_true rfl) (Nat.le_of_ble_eq_true rfl) (⟨rfl, okN_lo c_1⟩) (Nat.le_of_ble_eq_true rfl) (Nat.le_of_ble_eq_true rfl)
  · refine lv_iload_n hx hb dX2_requireNumberLimit_4 rfl (lv_at hl 0 rfl) ?_
    refine lv_bipush (v := nI 100) hx hb dX2_requireNumberLimit_5 (by decide) ?_
    refine lv_icmp_le (tgt := 20) hx hb dX2_requireNumberLimit_7 (by decide) (fun c_7 => ?_) (fun c_7 => ?_)
    · exact vx_ret (m_vret hx hb hr hlk hS (Nat.le_of_ble_eq_true rfl) (Nat.le_of_ble_eq_true rfl) dX2_requireNumberLimit_20 (⟨rfl, okN_in (by decide) c_1 (fun q => lim_le c_7 q)⟩))
    · exact m_thrIA (is := 193) (text := "ones and few are 0 to 100") hx hb hl0 hown hE k69 kk69 kg69 (by decide +kernel) hS m_same.rf (hl.1.trans hml.symm) dX2_requireNumberLimit_10 dX2_requireNumberLimit_13 dX2_requireNumberLimit_14 dX2_requireNumberLimit_16 dX2_requireNumberLimit_19 htab hlk (Nat.le_of_ble_eq_true rfl) (Nat.le_of_ble_eq_true rfl) (Nat.le_of_ble_eq_true rfl) (Nat.le_of_ble_eq_true rfl) (⟨rfl, okN_hi (by decide) (lim_gt c_7)⟩) (Nat.le_of_ble_eq_true rfl) (Nat.le_of_ble_eq_true rfl)

theorem num_neg {x : Int32} (h : ¬ 0 ≤ x) : ¬ okN x 2147483648 := okN_lo (Int32.not_le.mp h)
theorem num_pos {x : Int32} (h : 0 ≤ x) : okN x 2147483648 := by
  rw [Int32.le_iff_toInt_le] at h
  exact ⟨by simpa using h, by have := x.toInt_lt; omega⟩

set_option maxHeartbeats 4000000 in
set_option maxRecDepth 100000 in
/-- requireNumber: 0 or more -/
theorem kX2_requireNumber (l : Launch) (hl0 : l.stackTraces = false) (K : m_K) (A : Nat → Prop) (H0 : Heap) (x : Int32) : vx_Met l yX2_requireNumber wsX2_requireNumber ({ frames := 6, cells := 1, slots := 6, locals := 84 } : Room) (m_Pc K A H0 [.int x]) (va_Qv (fun H1 => H0 = H1 ∧ okN x 2147483648) m_B A) (m_X (fun E => E = m_IA ∧ ¬ okN x 2147483648) H0 A) 1 6 A := by
  refine m_ofX (by decide) rfl (Nat.le_of_ble_eq_true rfl) ?_
  intro p e s m args below meth c ls hx hb hr hml hown hts hlk hnm htab hE hsz hS hl
  have hl : lv_has ls 1 [(0, .int x)] := hl
  have k69 := hts (.classLink RX2 69 m_IA) (by decide +kernel)
  have kk69 := hts (.initialized m_IA) (by decide +kernel)
  have kg69 : ∀ w ∈ (vx_atS RX2 73 m_IA m_RT).filter goodWord, w.before args s = true := fun w hw => hts w (m_gIA_X2_requireNumber w hw)
  refine lv_iload_n hx hb dX2_requireNumber_0 rfl (lv_at hl 0 rfl) ?_
  refine lv_if_ge (tgt := 14) hx hb dX2_requireNumber_1 (by decide) (fun c_1 => ?_) (fun c_1 => ?_)
  · exact vx_ret (m_vret hx hb hr hlk hS (Nat.le_of_ble_eq_true rfl) (Nat.le_of_ble_eq_true rfl) dX2_requireNumber_14 (⟨rfl, num_pos c_1⟩))
  · exact m_thrIA (is := 191) (text := "a number is not below 0") hx hb hl0 hown hE k69 kk69 kg69 (by decide +kernel) hS m_same.rf (hl.1.trans hml.symm) dX2_requireNumber_4 dX2_requireNumber_7 dX2_requireNumber_8 dX2_requireNumber_10 dX2_requireNumber_13 htab hlk (Nat.le_of_ble_eq_true rfl) (Nat.le_of_ble_eq_true rfl) (Nat.le_of_ble_eq_true rfl) (Nat.le_of_ble_eq_true rfl) (⟨rfl, num_neg c_1⟩) (Nat.le_of_ble_eq_true rfl) (Nat.le_of_ble_eq_true rfl)

def okF (x y z u : Int32) : Prop := okN x 10 ∧ okN y 6 ∧ okN z 3 ∧ okN u 3
def okQ (x y u : Int32) : Prop := okN x 10 ∧ okN y 6 ∧ okN u 3

set_option maxHeartbeats 4000000 in
set_option maxRecDepth 100000 in
/-- requireForm -/
theorem kX2_requireForm (l : Launch) (hl0 : l.stackTraces = false) (K : m_K) (A : Nat → Prop) (H0 : Heap) (x y z u : Int32) : vx_Met l yX2_requireForm wsX2_requireForm ({ frames := 7, cells := 4, slots := 24, locals := 104 } : Room) (m_Pc K A H0 [.int x, .int y, .int z, .int u]) (va_Qv (fun H1 => H0 = H1 ∧ okF x y z u) m_B A) (m_X (fun E => E = m_IO ∧ ¬ okF x y z u) H0 A) 4 24 A := by
  refine m_ofX (by decide) rfl (Nat.le_of_ble_eq_true rfl) ?_
  intro p e s m args below meth c ls hx hb hr hml hown hts hlk hnm htab hE hsz hS hl
  have hl : lv_has ls 4 [(0, .int x), (1, .int y), (2, .int z), (3, .int u)] := hl
  have k58 := hts (.classLink RX2 58 m_IO) (by decide +kernel)
  have kk58 := hts (.initialized m_IO) (by decide +kernel)
  have kg58 : ∀ w ∈ (vx_atS RX2 62 m_IO m_RT).filter goodWord, w.before args s = true := fun w hw => hts w (m_gIO_X2_requireForm w hw)
  refine lv_iload_n hx hb dX2_requireForm_0 rfl (lv_at hl 0 rfl) ?_
  refine m_xSv (rest := []) ⟨hx, hb, hml, hown, hts⟩ hE hS (fun _ h => h) (kX2_requireKey l hl0 K A H0 x) (va_cwS 1 hts gX2_requireForm_X2_requireKey rfl rfl rfl (by decide +kernel) ⟨Nat.le_of_ble_eq_true rfl, Nat.le_of_ble_eq_true rfl⟩) rfl rfl hl.1 rfl (Nat.le_of_ble_eq_true rfl) dX2_requireForm_1 ⟨Nat.le_of_ble_eq_true rfl, Nat.le_of_ble_eq_true rfl⟩ (fun E ce q9 H1 locs1 hx9 hs9 hS9 g1 g2 g3 => m_out htab hlk (⟨hx9.1, fun q => hx9.2 q.1⟩) hs9 hS9 g1 g2 g3 (Nat.le_of_ble_eq_true rfl) (Nat.le_of_ble_eq_true rfl)) (fun H1 locs hp hS hk => ?_)
  obtain ⟨rfl, h1⟩ := hp
  refine lv_iload_n hx hb dX2_requireForm_4 rfl (lv_at hl 1 rfl) ?_
  refine m_xSv (rest := []) ⟨hx, hb, hml, hown, hts⟩ hE hS (fun _ h => h) (kX2_requireLanguage l hl0 K A H0 y) (va_cwS 1 hts gX2_requireForm_X2_requireLanguage rfl rfl rfl (by decide +kernel) ⟨Nat.le_of_ble_eq_true rfl, Nat.le_of_ble_eq_true rfl⟩) rfl rfl hl.1 rfl (Nat.le_of_ble_eq_true rfl) dX2_requireForm_5 ⟨Nat.le_of_ble_eq_true rfl, Nat.le_of_ble_eq_true rfl⟩ (fun E ce q9 H1 locs1 hx9 hs9 hS9 g1 g2 g3 => m_out htab hlk (⟨hx9.1, fun q => hx9.2 q.2.1⟩) hs9 hS9 g1 g2 g3 (Nat.le_of_ble_eq_true rfl) (Nat.le_of_ble_eq_true rfl)) (fun H1 locs hp hS hk => ?_)
  obtain ⟨rfl, h2⟩ := hp
  refine lv_iload_n hx hb dX2_requireForm_8 rfl (lv_at hl 2 rfl) ?_
  refine lv_if_lt (tgt := 17) hx hb dX2_requireForm_9 (by decide) (fun c_9 => ?_) (fun c_9 => ?_)
  · exact m_thrIO (is := 186) (text := "there is no such number class") hx hb hl0 hown hE k58 kk58 kg58 (by decide +kernel) hS m_same.rf (hl.1.trans hml.symm) dX2_requireForm_17 dX2_requireForm_20 dX2_requireForm_21 dX2_requireForm_23 dX2_requireForm_26 htab hlk (Nat.le_of_ble_eq_true rfl) (Nat.le_of_ble_eq_true rfl) (Nat.le_of_ble_eq_true rfl) (Nat.le_of_ble_eq_true rfl) (⟨rfl, fun q => okN_lo c_9 q.2.2.1⟩) (Nat.le_of_ble_eq_true rfl) (Nat.le_of_ble_eq_true rfl)
  · refine lv_iload_n hx hb dX2_requireForm_12 rfl (lv_at hl 2 rfl) ?_
    refine lv_iconst (v := nI 3) hx hb dX2_requireForm_13 (by decide) ?_
    refine lv_icmp_lt (tgt := 27) hx hb dX2_requireForm_14 (by decide) (fun c_14 => ?_) (fun c_14 => ?_)
    · refine lv_iload_n hx hb dX2_requireForm_27 rfl (lv_at hl 3 rfl) ?_
      refine m_xSv (rest := []) ⟨hx, hb, hml, hown, hts⟩ hE hS (fun _ h => h) (kX2_requireGender l hl0 K A H0 u) (va_cwS 1 hts gX2_requireForm_X2_requireGender rfl rfl rfl (by decide +kernel) ⟨Nat.le_of_ble_eq_true rfl, Nat.le_of_ble_eq_true rfl⟩) rfl rfl hl.1 rfl (Nat.le_of_ble_eq_true rfl) dX2_requireForm_28 ⟨Nat.le_of_ble_eq_true rfl, Nat.le_of_ble_eq_true rfl⟩ (fun E ce q9 H1 locs1 hx9 hs9 hS9 g1 g2 g3 => m_out htab hlk (⟨hx9.1, fun q => hx9.2 q.2.2.2⟩) hs9 hS9 g1 g2 g3 (Nat.le_of_ble_eq_true rfl) (Nat.le_of_ble_eq_true rfl)) (fun H1 locs hp hS hk => ?_)
      obtain ⟨rfl, h4⟩ := hp
      exact vx_ret (m_vret hx hb hr hlk hS (Nat.le_of_ble_eq_true rfl) (Nat.le_of_ble_eq_true rfl) dX2_requireForm_31 (⟨rfl, h1, h2, okN_in (by decide) c_9 (fun q => (Int32.not_lt.mpr q) c_14), h4⟩))
    · exact m_thrIO (is := 186) (text := "there is no such number class") hx hb hl0 hown hE k58 kk58 kg58 (by decide +kernel) hS m_same.rf (hl.1.trans hml.symm) dX2_requireForm_17 dX2_requireForm_20 dX2_requireForm_21 dX2_requireForm_23 dX2_requireForm_26 htab hlk (Nat.le_of_ble_eq_true rfl) (Nat.le_of_ble_eq_true rfl) (Nat.le_of_ble_eq_true rfl) (Nat.le_of_ble_eq_true rfl) (⟨rfl, fun q => okN_hi (by decide) (Int32.not_lt.mp c_14) q.2.2.1⟩) (Nat.le_of_ble_eq_true rfl) (Nat.le_of_ble_eq_true rfl)

set_option maxHeartbeats 4000000 in
set_option maxRecDepth 100000 in
/-- requireQuestion: the number comes last -/
theorem kX2_requireQuestion (l : Launch) (hl0 : l.stackTraces = false) (K : m_K) (A : Nat → Prop) (H0 : Heap) (x y z u : Int32) : vx_Met l yX2_requireQuestion wsX2_requireQuestion ({ frames := 7, cells := 4, slots := 24, locals := 104 } : Room) (m_Pc K A H0 [.int x, .int y, .int z, .int u]) (va_Qv (fun H1 => H0 = H1 ∧ okQ x y u ∧ okN z 2147483648) m_B A) (m_X (fun E => (E = m_IO ∧ ¬ okQ x y u) ∨ (E = m_IA ∧ okQ x y u ∧ ¬ okN z 2147483648)) H0 A) 4 24 A := by
  refine m_ofX (by decide) rfl (Nat.le_of_ble_eq_true rfl) ?_
  intro p e s m args below meth c ls hx hb hr hml hown hts hlk hnm htab hE hsz hS hl
  have hl : lv_has ls 4 [(0, .int x), (1, .int y), (2, .int z), (3, .int u)] := hl
  refine lv_iload_n hx hb dX2_requireQuestion_0 rfl (lv_at hl 0 rfl) ?_
  refine m_xSv (rest := []) ⟨hx, hb, hml, hown, hts⟩ hE hS (fun _ h => h) (kX2_requireKey l hl0 K A H0 x) (va_cwS 1 hts gX2_requireQuestion_X2_requireKey rfl rfl rfl (by decide +kernel) ⟨Nat.le_of_ble_eq_true rfl, Nat.le_of_ble_eq_true rfl⟩) rfl rfl hl.1 rfl (Nat.le_of_ble_eq_true rfl) dX2_requireQuestion_1 ⟨Nat.le_of_ble_eq_true rfl, Nat.le_of_ble_eq_true rfl⟩ (fun E ce q9 H1 locs1 hx9 hs9 hS9 g1 g2 g3 => m_out htab hlk (Or.inl ⟨hx9.1, fun q => hx9.2 q.1⟩) hs9 hS9 g1 g2 g3 (Nat.le_of_ble_eq_true rfl) (Nat.le_of_ble_eq_true rfl)) (fun H1 locs hp hS hk => ?_)
  obtain ⟨rfl, h1⟩ := hp
  refine lv_iload_n hx hb dX2_requireQuestion_4 rfl (lv_at hl 1 rfl) ?_
  refine m_xSv (rest := []) ⟨hx, hb, hml, hown, hts⟩ hE hS (fun _ h => h) (kX2_requireLanguage l hl0 K A H0 y) (va_cwS 1 hts gX2_requireQuestion_X2_requireLanguage rfl rfl rfl (by decide +kernel) ⟨Nat.le_of_ble_eq_true rfl, Nat.le_of_ble_eq_true rfl⟩) rfl rfl hl.1 rfl (Nat.le_of_ble_eq_true rfl) dX2_requireQuestion_5 ⟨Nat.le_of_ble_eq_true rfl, Nat.le_of_ble_eq_true rfl⟩ (fun E ce q9 H1 locs1 hx9 hs9 hS9 g1 g2 g3 => m_out htab hlk (Or.inl ⟨hx9.1, fun q => hx9.2 q.2.1⟩) hs9 hS9 g1 g2 g3 (Nat.le_of_ble_eq_true rfl) (Nat.le_of_ble_eq_true rfl)) (fun H1 locs hp hS hk => ?_)
  obtain ⟨rfl, h2⟩ := hp
  refine lv_iload_n hx hb dX2_requireQuestion_8 rfl (lv_at hl 3 rfl) ?_
  refine m_xSv (rest := []) ⟨hx, hb, hml, hown, hts⟩ hE hS (fun _ h => h) (kX2_requireGender l hl0 K A H0 u) (va_cwS 1 hts gX2_requireQuestion_X2_requireGender rfl rfl rfl (by decide +kernel) ⟨Nat.le_of_ble_eq_true rfl, Nat.le_of_ble_eq_true rfl⟩) rfl rfl hl.1 rfl (Nat.le_of_ble_eq_true rfl) dX2_requireQuestion_9 ⟨Nat.le_of_ble_eq_true rfl, Nat.le_of_ble_eq_true rfl⟩ (fun E ce q9 H1 locs1 hx9 hs9 hS9 g1 g2 g3 => m_out htab hlk (Or.inl ⟨hx9.1, fun q => hx9.2 q.2.2⟩) hs9 hS9 g1 g2 g3 (Nat.le_of_ble_eq_true rfl) (Nat.le_of_ble_eq_true rfl)) (fun H1 locs hp hS hk => ?_)
  obtain ⟨rfl, h4⟩ := hp
  refine lv_iload_n hx hb dX2_requireQuestion_12 rfl (lv_at hl 2 rfl) ?_
  refine m_xSv (rest := []) ⟨hx, hb, hml, hown, hts⟩ hE hS (fun _ h => h) (kX2_requireNumber l hl0 K A H0 z) (va_cwS 1 hts gX2_requireQuestion_X2_requireNumber rfl rfl rfl (by decide +kernel) ⟨Nat.le_of_ble_eq_true rfl, Nat.le_of_ble_eq_true rfl⟩) rfl rfl hl.1 rfl (Nat.le_of_ble_eq_true rfl) dX2_requireQuestion_13 ⟨Nat.le_of_ble_eq_true rfl, Nat.le_of_ble_eq_true rfl⟩ (fun E ce q9 H1 locs1 hx9 hs9 hS9 g1 g2 g3 => m_out htab hlk (Or.inr ⟨hx9.1, ⟨h1, h2, h4⟩, hx9.2⟩) hs9 hS9 g1 g2 g3 (Nat.le_of_ble_eq_true rfl) (Nat.le_of_ble_eq_true rfl)) (fun H1 locs hp hS hk => ?_)
  obtain ⟨rfl, h3⟩ := hp
  exact vx_ret (m_vret hx hb hr hlk hS (Nat.le_of_ble_eq_true rfl) (Nat.le_of_ble_eq_true rfl) dX2_requireQuestion_16 (⟨rfl, ⟨h1, h2, h4⟩, h3⟩))

set_option maxHeartbeats 4000000 in
set_option maxRecDepth 100000 in
/-- textOf -/
theorem kX2_textOf (l : Launch) (K : m_K) (A : Nat → Prop) (H0 : Heap) (k g : Nat) : Met l yX2_textOf wsX2_textOf ({ frames := 0, cells := 0, slots := 0, locals := 0 } : Room) (m_Pc K A H0 [.int (nI k), .int (nI g)]) (va_Qi (fun r H1 => r = nI (k * 6 + g) ∧ H0 = H1) m_B A) 0 0 A := by
  refine m_ofW (by decide) rfl (Nat.le_of_ble_eq_true rfl) ?_
  intro p e s m args below meth c ls hx hb hr hml hown hts hlk hnm hE hsz hS hl
  have hl : lv_has ls 2 [(0, .int (nI k)), (1, .int (nI g))] := hl
  refine lv_iload_n hx hb dX2_textOf_0 rfl (lv_at hl 0 rfl) ?_
  refine lv_bipush (v := nI 6) hx hb dX2_textOf_1 (by decide) ?_
  refine m_imul hx hb dX2_textOf_3 ?_
  refine lv_iload_n hx hb dX2_textOf_4 rfl (lv_at hl 1 rfl) ?_
  refine m_iadd hx hb dX2_textOf_5 ?_
  exact m_iret hx hb hr hlk hS (Nat.le_of_ble_eq_true rfl) (Nat.le_of_ble_eq_true rfl) dX2_textOf_6 (⟨rfl, rfl⟩)

set_option maxHeartbeats 4000000 in
set_option maxRecDepth 100000 in
/-- slotOf -/
theorem kX2_slotOf (l : Launch) (K : m_K) (A : Nat → Prop) (H0 : Heap) (k g i u n : Nat) (hn : (k * 6 + g) * 9 + i * 3 + u = n) : Met l yX2_slotOf wsX2_slotOf ({ frames := 1, cells := 0, slots := 0, locals := 21 } : Room) (m_Pc K A H0 [.int (nI k), .int (nI g), .int (nI i), .int (nI u)]) (va_Qi (fun r H1 => r = nI n ∧ H0 = H1) m_B A) 0 0 A := by
  refine m_ofW (by decide) rfl (Nat.le_of_ble_eq_true rfl) ?_
  intro p e s m args below meth c ls hx hb hr hml hown hts hlk hnm hE hsz hS hl
  have hl : lv_has ls 4 [(0, .int (nI k)), (1, .int (nI g)), (2, .int (nI i)), (3, .int (nI u))] := hl
  refine lv_iload_n hx hb dX2_slotOf_0 rfl (lv_at hl 0 rfl) ?_
  refine lv_iload_n hx hb dX2_slotOf_1 rfl (lv_at hl 1 rfl) ?_
  refine m_cSi (rest := []) ⟨hx, hb, hml, hown, hts⟩ hE hS (fun _ h => h) (kX2_textOf l K A H0 k g) (va_cwS 2 hts gX2_slotOf_X2_textOf rfl rfl rfl (by decide +kernel) ⟨Nat.le_of_ble_eq_true rfl, Nat.le_of_ble_eq_true rfl⟩) rfl rfl hl.1 rfl (Nat.le_of_ble_eq_true rfl) dX2_slotOf_2 ⟨Nat.le_of_ble_eq_true rfl, Nat.le_of_ble_eq_true rfl⟩ (fun r H1 locs hp hS hk => ?_)
  obtain ⟨rfl, rfl⟩ := hp
  refine lv_bipush (v := nI 9) hx hb dX2_slotOf_5 (by decide) ?_
  refine m_imul hx hb dX2_slotOf_7 ?_
  refine lv_iload_n hx hb dX2_slotOf_8 rfl (lv_at hl 2 rfl) ?_
  refine lv_iconst (v := nI 3) hx hb dX2_slotOf_9 (by decide) ?_
  refine m_imul hx hb dX2_slotOf_10 ?_
  refine m_iadd hx hb dX2_slotOf_11 ?_
  refine lv_iload_n hx hb dX2_slotOf_12 rfl (lv_at hl 3 rfl) ?_
  refine m_iadd hx hb dX2_slotOf_13 ?_
  exact m_iret hx hb hr hlk hS (Nat.le_of_ble_eq_true rfl) (Nat.le_of_ble_eq_true rfl) dX2_slotOf_14 (⟨by rw [← hn], rfl⟩)

theorem nI_m1 {k : Nat} (h : k < 2147483648) : ¬ nI k = -1 := fun q => by
  have h1 := congrArg Int32.toInt q
  rw [nI_toInt h] at h1
  have h2 : (-1 : Int32).toInt = -1 := by decide
  omega

set_option maxHeartbeats 4000000 in
set_option maxRecDepth 100000 in
/-- languageOfSlot -/
theorem kX2_languageOfSlot (l : Launch) (K : m_K) (A : Nat → Prop) (H0 : Heap) (o : Option Nat) (hk9 : ∀ k, o = some k → k < 2147483648) : Met l yX2_languageOfSlot wsX2_languageOfSlot ({ frames := 0, cells := 0, slots := 0, locals := 0 } : Room) (m_Pc K A H0 [.int (oI o)]) (va_Qi (fun r H1 => r = oI (o.map fun k => k / 9 % 6) ∧ H0 = H1) m_B A) 0 0 A := by
  refine m_ofW (by decide) rfl (Nat.le_of_ble_eq_true rfl) ?_
  intro p e s m args below meth c ls hx hb hr hml hown hts hlk hnm hE hsz hS hl
  have hl : lv_has ls 1 [(0, .int (oI o))] := hl
  refine lv_iload_n hx hb dX2_languageOfSlot_0 rfl (lv_at hl 0 rfl) ?_
  refine lv_iconst (v := (-1)) hx hb dX2_languageOfSlot_1 (by decide) ?_
  cases o with
  | none =>
    have hl : lv_has ls 1 [(0, .int (-1))] := hl
    refine lv_icmp_ne (tgt := 9) hx hb dX2_languageOfSlot_2 (by decide) (fun c_2 => ?_) (fun c_2 => ?_)
    · exact absurd rfl c_2
    · refine lv_iconst (v := (-1)) hx hb dX2_languageOfSlot_5 (by decide) ?_
      refine lv_goto (tgt := 16) hx hb dX2_languageOfSlot_6 (by decide) ?_
      exact m_iret hx hb hr hlk hS (Nat.le_of_ble_eq_true rfl) (Nat.le_of_ble_eq_true rfl) dX2_languageOfSlot_16 (⟨rfl, rfl⟩)
  | some k =>
    have hl : lv_has ls 1 [(0, .int (nI k))] := hl
    have hk8 := hk9 k rfl
    refine lv_icmp_ne (tgt := 9) hx hb dX2_languageOfSlot_2 (by decide) (fun c_2 => ?_) (fun c_2 => ?_)
    · refine lv_iload_n hx hb dX2_languageOfSlot_9 rfl (lv_at hl 0 rfl) ?_
      refine lv_bipush (v := nI 9) hx hb dX2_languageOfSlot_10 (by decide) ?_
      refine m_idiv hx hb (by omega) (by omega) (by omega) dX2_languageOfSlot_12 ?_
      refine lv_bipush (v := nI 6) hx hb dX2_languageOfSlot_13 (by decide) ?_
      refine m_irem hx hb (by omega) (by omega) (by omega) dX2_languageOfSlot_15 ?_
      exact m_iret hx hb hr hlk hS (Nat.le_of_ble_eq_true rfl) (Nat.le_of_ble_eq_true rfl) dX2_languageOfSlot_16 (⟨rfl, rfl⟩)
    · exact absurd c_2 (fun q => nI_m1 (hk9 k rfl) q)
