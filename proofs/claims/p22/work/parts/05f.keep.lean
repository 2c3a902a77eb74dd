
def isWd (x : Int32) : Bool := decide (nI 1 ≤ x ∧ x ≤ nI 99)
def isPh (x : Int32) : Bool := decide (nI 101 ≤ x ∧ x ≤ nI 104)
theorem bt9 {p : Prop} {i9 : Decidable p} (h : p) : nI 1 = bI (decide p) := by rw [decide_eq_true h]; rfl
theorem bf9 {p : Prop} {i9 : Decidable p} (h : ¬ p) : nI 0 = bI (decide p) := by rw [decide_eq_false h]; rfl

set_option maxHeartbeats 4000000 in
set_option maxRecDepth 100000 in
theorem kX2_isWord (l : Launch) (K : m_K) (A : Nat → Prop) (H0 : Heap) (x : Int32) : Met l yX2_isWord wsX2_isWord ({ frames := 0, cells := 0, slots := 0, locals := 0 } : Room) (m_Pc K A H0 [.int x]) (va_Qi (fun r H1 => r = bI (isWd x) ∧ H0 = H1) m_B A) 0 0 A := by
  refine m_ofW (by decide) rfl (Nat.le_of_ble_eq_true rfl) ?_
  intro p e s m args below meth c ls hx hb hr hml hown hts hlk hnm hE hsz hS hl
  have hl : lv_has ls 1 [(0, .int x)] := hl
  refine lv_iload_n hx hb dX2_isWord_0 rfl (lv_at hl 0 rfl) ?_
  refine lv_iconst (v := nI 1) hx hb dX2_isWord_1 (by decide) ?_
  refine lv_icmp_lt (tgt := 15) hx hb dX2_isWord_2 (by decide) (fun c_2 => ?_) (fun c_2 => ?_)
  · refine lv_iconst (v := nI 0) hx hb dX2_isWord_15 (by decide) ?_
    exact m_zret (b := false) hx hb hr hlk hS (Nat.le_of_ble_eq_true rfl) (Nat.le_of_ble_eq_true rfl) dX2_isWord_16 ⟨bf9 (fun z => absurd c_2 (Int32.not_lt.mpr z.1)), rfl⟩
  · refine lv_iload_n hx hb dX2_isWord_5 rfl (lv_at hl 0 rfl) ?_
    refine lv_bipush (v := nI 99) hx hb dX2_isWord_6 (by decide) ?_
    refine lv_icmp_gt (tgt := 15) hx hb dX2_isWord_8 (by decide) (fun c_8 => ?_) (fun c_8 => ?_)
    · refine lv_iconst (v := nI 0) hx hb dX2_isWord_15 (by decide) ?_
      exact m_zret (b := false) hx hb hr hlk hS (Nat.le_of_ble_eq_true rfl) (Nat.le_of_ble_eq_true rfl) dX2_isWord_16 ⟨bf9 (fun z => absurd c_8 (Int32.not_lt.mpr z.2)), rfl⟩
    · refine lv_iconst (v := nI 1) hx hb dX2_isWord_11 (by decide) ?_
      refine lv_goto (tgt := 16) hx hb dX2_isWord_12 (by decide) ?_
      exact m_zret (b := true) hx hb hr hlk hS (Nat.le_of_ble_eq_true rfl) (Nat.le_of_ble_eq_true rfl) dX2_isWord_16 ⟨bt9 ⟨Int32.not_lt.mp c_2, Int32.not_lt.mp c_8⟩, rfl⟩

set_option maxHeartbeats 4000000 in
set_option maxRecDepth 100000 in
theorem kX2_isPlaceholder (l : Launch) (K : m_K) (A : Nat → Prop) (H0 : Heap) (x : Int32) : Met l yX2_isPlaceholder wsX2_isPlaceholder ({ frames := 0, cells := 0, slots := 0, locals := 0 } : Room) (m_Pc K A H0 [.int x]) (va_Qi (fun r H1 => r = bI (isPh x) ∧ H0 = H1) m_B A) 0 0 A := by
  refine m_ofW (by decide) rfl (Nat.le_of_ble_eq_true rfl) ?_
  intro p e s m args below meth c ls hx hb hr hml hown hts hlk hnm hE hsz hS hl
  have hl : lv_has ls 1 [(0, .int x)] := hl
  refine lv_iload_n hx hb dX2_isPlaceholder_0 rfl (lv_at hl 0 rfl) ?_
  refine lv_bipush (v := nI 101) hx hb dX2_isPlaceholder_1 (by decide) ?_
  refine lv_icmp_lt (tgt := 16) hx hb dX2_isPlaceholder_3 (by decide) (fun c_3 => ?_) (fun c_3 => ?_)
  · refine lv_iconst (v := nI 0) hx hb dX2_isPlaceholder_16 (by decide) ?_
    exact m_zret (b := false) hx hb hr hlk hS (Nat.le_of_ble_eq_true rfl) (Nat.le_of_ble_eq_true rfl) dX2_isPlaceholder_17 ⟨bf9 (fun z => absurd c_3 (Int32.not_lt.mpr z.1)), rfl⟩
  · refine lv_iload_n hx hb dX2_isPlaceholder_6 rfl (lv_at hl 0 rfl) ?_
    refine lv_bipush (v := nI 104) hx hb dX2_isPlaceholder_7 (by decide) ?_
    refine lv_icmp_gt (tgt := 16) hx hb dX2_isPlaceholder_9 (by decide) (fun c_9 => ?_) (fun c_9 => ?_)
    · refine lv_iconst (v := nI 0) hx hb dX2_isPlaceholder_16 (by decide) ?_
      exact m_zret (b := false) hx hb hr hlk hS (Nat.le_of_ble_eq_true rfl) (Nat.le_of_ble_eq_true rfl) dX2_isPlaceholder_17 ⟨bf9 (fun z => absurd c_9 (Int32.not_lt.mpr z.2)), rfl⟩
    · refine lv_iconst (v := nI 1) hx hb dX2_isPlaceholder_12 (by decide) ?_
      refine lv_goto (tgt := 17) hx hb dX2_isPlaceholder_13 (by decide) ?_
      exact m_zret (b := true) hx hb hr hlk hS (Nat.le_of_ble_eq_true rfl) (Nat.le_of_ble_eq_true rfl) dX2_isPlaceholder_17 ⟨bt9 ⟨Int32.not_lt.mp c_3, Int32.not_lt.mp c_9⟩, rfl⟩

theorem isPh_of {x : Int32} (h : isPh x = true) : x = nI 101 ∨ x = nI 102 ∨ x = nI 103 ∨ x = nI 104 := by
  have h2 := of_decide_eq_true h
  rw [Int32.le_iff_toInt_le, Int32.le_iff_toInt_le, nI_toInt (by decide), nI_toInt (by decide)] at h2
  have k : ∀ n : Nat, n < 2147483648 → x.toInt = n → x = nI n := fun n hn e => Int32.toInt_inj.mp (by rw [e, nI_toInt hn])
  rcases (show x.toInt = 101 ∨ x.toInt = 102 ∨ x.toInt = 103 ∨ x.toInt = 104 by omega) with e | e | e | e
  · exact Or.inl (k 101 (by decide) e)
  · exact Or.inr (Or.inl (k 102 (by decide) e))
  · exact Or.inr (Or.inr (Or.inl (k 103 (by decide) e)))
  · exact Or.inr (Or.inr (Or.inr (k 104 (by decide) e)))
theorem isPh_not {x : Int32} (h : isPh x = false) : ∀ i, i < 4 → (x == nI (101 + i)) = false := fun i hi => by
  have h2 := of_decide_eq_false h
  apply beq_eq_false_iff_ne.mpr
  intro e
  apply h2
  rw [e]
  exact ⟨(nI_leI (by decide) (by omega)).mpr (by omega), (nI_leI (by omega) (by decide)).mpr (by omega)⟩
theorem hasP_snoc (L : List Int32) (x : Int32) (i : Nat) : hasP (L ++ [x]) i = (hasP L i || x == nI (101 + i)) := by
  unfold hasP
  rw [List.any_append]
  simp
theorem take_snoc {L : List Int32} {i : Nat} (h : i < L.length) : L.take (i + 1) = L.take i ++ [L.getD i 0] := by
  rw [List.take_succ, List.getD_eq_getElem?_getD, List.getElem?_eq_getElem h]
  rfl
theorem pb_snoc_n {L : List Int32} {x : Int32} (h : isPh x = false) : pb (L ++ [x]) = pb L := by
  unfold pb
  rw [hasP_snoc, hasP_snoc, hasP_snoc, hasP_snoc, isPh_not h 0 (by decide), isPh_not h 1 (by decide), isPh_not h 2 (by decide), isPh_not h 3 (by decide), Bool.or_false, Bool.or_false, Bool.or_false, Bool.or_false]
theorem pb_snoc_y {L : List Int32} {x : Int32} (h : isPh x = true) : pb (L ++ [x]) = pb L ||| (nI 1 <<< ((x - nI 101) &&& 31)) := by
  unfold pb
  rw [hasP_snoc, hasP_snoc, hasP_snoc, hasP_snoc]
  generalize hasP L 0 = a
  generalize hasP L 1 = b
  generalize hasP L 2 = c
  generalize hasP L 3 = d
  rcases isPh_of h with e | e | e | e <;> subst e <;> cases a <;> cases b <;> cases c <;> cases d <;> decide

set_option maxHeartbeats 4000000 in
set_option maxRecDepth 100000 in
theorem kX2_placeholdersOf (l : Launch) (K : m_K) (A : Nat → Prop) (H0 : Heap) (ws : va_W) (hP : va_P K.1 vwCl ws H0) (q1 a : Nat) (L : List Int32) (g9 : Nat → Int32) (h1 : ws[q1]? = some (a, .inl (K.2.1 0, L.length, .inl g9))) (hg9 : ∀ j, j < L.length → g9 j = L.getD j 0) (hL : L.length ≤ 8) : Met l yX2_placeholdersOf wsX2_placeholdersOf ({ frames := 1, cells := 0, slots := 0, locals := 20 } : Room) (m_Pc K A H0 [.ref a]) (va_Qi (fun r H1 => r = pb L ∧ H0 = H1) m_B A) 0 0 A := by
  refine m_ofW (by decide) rfl (Nat.le_of_ble_eq_true rfl) ?_
  intro p e s m args below meth c ls hx hb hr hml hown hts hlk hnm hE hsz hS hl
  have hl : lv_has ls 3 [(0, .ref a)] := hl
  refine lv_iconst (v := nI 0) hx hb dX2_placeholdersOf_0 (by decide) ?_
  refine lv_istore_n (lv' := [(1, .int (nI 0)), (0, .ref a)]) hx hb dX2_placeholdersOf_1 rfl hl (by decide) rfl (fun ls hl => ?_)
  refine lv_iconst (v := nI 0) hx hb dX2_placeholdersOf_2 (by decide) ?_
  refine lv_istore_n (lv' := [(2, .int (nI 0)), (1, .int (nI 0)), (0, .ref a)]) hx hb dX2_placeholdersOf_3 rfl hl (by decide) rfl (fun ls hl => ?_)
  refine (?_ : ∀ (n9 : Nat) (i : Nat) (x : Int32) (locs : List Loc) (ls : Array Slot), i ≤ L.length → L.length < i + n9 → x = pb (L.take i) → va_S A s.heap H0 locs → lv_has ls 3 [(2, .int (nI i)), (1, .int x), (0, .ref a)] → W p l e _ s m args below meth c H0 locs 0 0 _ (F0 m 4 ls [])) (L.length + 1) 0 (nI 0) _ ls (by omega) (by omega) rfl hS (lv_sub hl [0, 1, 2] rfl)
  clear hS hl
  intro n9
  induction n9 with
  | zero => intro i x locs ls hi9 hn9; exact absurd hn9 (by omega)
  | succ n9 ih =>
    intro i x locs ls hi9 hn9 hinv hS hl
    refine lv_iload_n hx hb dX2_placeholdersOf_4 rfl (lv_at hl 0 rfl) ?_
    refine lv_aload_n hx hb dX2_placeholdersOf_5 rfl (lv_at hl 2 rfl) ?_
    refine va_alen (v := nI L.length) hx hb hE.k hP q1 0 h1 rfl rfl dX2_placeholdersOf_6 ?_
    refine m_icmp_ge (tgt := 36) hx hb (by omega) (by omega) dX2_placeholdersOf_7 (by decide) (fun c_7 => ?_) (fun c_7 => ?_)
    · refine lv_iload_n hx hb dX2_placeholdersOf_36 rfl (lv_at hl 1 rfl) ?_
      exact m_iret hx hb hr hlk hS (Nat.le_of_ble_eq_true rfl) (Nat.le_of_ble_eq_true rfl) dX2_placeholdersOf_37 (⟨by rw [hinv, List.take_of_length_le (by omega)], rfl⟩)
    · refine lv_aload_n hx hb dX2_placeholdersOf_10 rfl (lv_at hl 2 rfl) ?_
      refine lv_iload_n hx hb dX2_placeholdersOf_11 rfl (lv_at hl 0 rfl) ?_
      refine m_iald hx hb hE.k hP q1 h1 (by omega) (by omega) (hg9 _ (by omega)) dX2_placeholdersOf_12 ?_
      refine m_cSi (rest := []) ⟨hx, hb, hml, hown, hts⟩ hE hS (fun _ h => h) (kX2_isPlaceholder l K A H0 (L.getD i 0)) (va_cwS 1 hts gX2_placeholdersOf_X2_isPlaceholder rfl rfl rfl (by decide +kernel) ⟨Nat.le_of_ble_eq_true rfl, Nat.le_of_ble_eq_true rfl⟩) rfl rfl hl.1 rfl (Nat.le_of_ble_eq_true rfl) dX2_placeholdersOf_13 ⟨Nat.le_of_ble_eq_true rfl, Nat.le_of_ble_eq_true rfl⟩ (fun r H1 locs hp hS hk => ?_)
      obtain ⟨rfl, rfl⟩ := hp
      refine m_if_eq_b (tgt := 30) hx hb dX2_placeholdersOf_16 (by decide) (fun c_16 => ?_) (fun c_16 => ?_)
      · refine lv_iinc (v := nI (i + 1)) (lv' := [(2, .int (nI (i + 1))), (1, .int x), (0, .ref a)]) hx hb dX2_placeholdersOf_30 hl (k := 0) rfl (m_inc _) (by decide) rfl (fun ls hl => ?_)
        refine lv_goto (tgt := 4) hx hb dX2_placeholdersOf_33 (by decide) ?_
        exact ih (i + 1) x _ ls (by omega) (by omega) (by rw [take_snoc (by omega), pb_snoc_n c_16, hinv]) hS (lv_sub hl [0, 1, 2] rfl)
      · refine lv_iload_n hx hb dX2_placeholdersOf_19 rfl (lv_at hl 1 rfl) ?_
        refine lv_iconst (v := nI 1) hx hb dX2_placeholdersOf_20 (by decide) ?_
        refine lv_aload_n hx hb dX2_placeholdersOf_21 rfl (lv_at hl 2 rfl) ?_
        refine lv_iload_n hx hb dX2_placeholdersOf_22 rfl (lv_at hl 0 rfl) ?_
        refine m_iald hx hb hE.k hP q1 h1 (by omega) (by omega) (hg9 _ (by omega)) dX2_placeholdersOf_23 ?_
        refine lv_bipush (v := nI 101) hx hb dX2_placeholdersOf_24 (by decide) ?_
        refine lv_isub hx hb dX2_placeholdersOf_26 ?_
        refine lv_ishl hx hb dX2_placeholdersOf_27 ?_
        refine lv_ior hx hb dX2_placeholdersOf_28 ?_
        refine lv_istore_n (lv' := [(1, .int (x ||| ((nI 1) <<< (((L.getD i 0) - (nI 101)) &&& 31)))), (2, .int (nI i)), (0, .ref a)]) hx hb dX2_placeholdersOf_29 rfl hl (by decide) rfl (fun ls hl => ?_)
        refine lv_iinc (v := nI (i + 1)) (lv' := [(2, .int (nI (i + 1))), (1, .int (x ||| ((nI 1) <<< (((L.getD i 0) - (nI 101)) &&& 31)))), (0, .ref a)]) hx hb dX2_placeholdersOf_30 hl (k := 1) rfl (m_inc _) (by decide) rfl (fun ls hl => ?_)
        refine lv_goto (tgt := 4) hx hb dX2_placeholdersOf_33 (by decide) ?_
        exact ih (i + 1) (x ||| ((nI 1) <<< (((L.getD i 0) - (nI 101)) &&& 31))) _ ls (by omega) (by omega) (by rw [take_snoc (by omega), pb_snoc_y c_16, hinv]) hS (lv_sub hl [0, 1, 2] rfl)

set_option maxHeartbeats 4000000 in
set_option maxRecDepth 100000 in
theorem kX0_init (l : Launch) (K : m_K) (A : Nat → Prop) (H0 : Heap) (q sa : Nat) (b : Bool) (z : Int32) (hP : va_P K.1 vwCl [(q, .inr (1, [.null, .int 0, .int 0]))] H0) (hD : va_D A [(q, .inr (1, [.null, .int 0, .int 0]))]) : Met l yX0_init wsX0_init ({ frames := 1, cells := 0, slots := 0, locals := 12 } : Room) (m_Pc K A H0 [.ref q, .ref sa, .int (bI b), .int z]) (va_Qv (fun H1 => va_P K.1 vwCl [(q, .inr (1, [.ref sa, .int (bI b), .int z]))] H1) m_B A) 0 0 A := by
  refine m_ofW (by decide) rfl (Nat.le_of_ble_eq_true rfl) ?_
  intro p e s m args below meth c ls hx hb hr hml hown hts hlk hnm hE hsz hS hl
  have hl : lv_has ls 4 [(0, .ref q), (1, .ref sa), (2, .int (bI b)), (3, .int z)] := hl
  have oi1 := hts (.methodLink RX0 1 objectInit) (by decide +kernel)
  have oii := hts (.instanceMethod objectInit) (by decide +kernel)
  have oic := hts (.code objectInit ⟨#[0xb1]⟩ 1 none) (by decide +kernel)
  have iX0 : ∀ w ∈ wsX00, w ∈ wsX0_init := by decide +kernel
  have f7 := hts (.fieldLink RX0 7 "PhraseCatalogue$Form" "signs" "[I") (by decide +kernel)
  have f13 := hts (.fieldLink RX0 13 "PhraseCatalogue$Form" "mayLack" "Z") (by decide +kernel)
  have f17 := hts (.fieldLink RX0 17 "PhraseCatalogue$Form" "placeholders" "I") (by decide +kernel)
  refine lv_aload_n hx hb dX0_init_0 rfl (lv_at hl 0 rfl) ?_
  refine W.objInit hx hb hown oi1 oii oic rfl (by rw [hml]; exact hl.1) rfl dX0_init_1 (Nat.le_of_ble_eq_true rfl) (Nat.le_of_ble_eq_true rfl) ?_
  refine W.eq (g2 := F0 m 4 ls []) rfl ?_
  refine lv_aload_n hx hb dX0_init_4 rfl (lv_at hl 0 rfl) ?_
  refine lv_aload_n hx hb dX0_init_5 rfl (lv_at hl 1 rfl) ?_
  refine va_putF (D := K.1) (ci := 1) (v := .ref sa) (ty := .array .int) (C := RX0) (T := TX0) (N := 3) hx hb hts iX0 tyX0 tyX0_ok nmX0 hown hE.k hP hD hS 0 rfl rfl 0 (by decide) f7 (fun _ h9 => h9) rfl hnm rfl (by decide +kernel) rfl rfl (Nat.le_of_ble_eq_true rfl) dX0_init_6 (fun H locs hP hD hS => ?_)
  have hP : va_P K.1 vwCl ([(q, .inr (1, [.ref sa, .int 0, .int 0]))]) H := hP
  have hD : va_D A ([(q, .inr (1, [.ref sa, .int 0, .int 0]))]) := hD
  refine lv_aload_n hx hb dX0_init_9 rfl (lv_at hl 0 rfl) ?_
  refine lv_iload_n hx hb dX0_init_10 rfl (lv_at hl 2 rfl) ?_
  refine va_putF (D := K.1) (ci := 1) (v := .int (bI b)) (ty := .boolean) (C := RX0) (T := TX0) (N := 3) hx hb hts iX0 tyX0 tyX0_ok nmX0 hown hE.k hP hD hS 0 rfl rfl 1 (by decide) f13 (fun _ h9 => h9) rfl hnm rfl (by decide +kernel) (m_narb _) (m_fitb _) (Nat.le_of_ble_eq_true rfl) dX0_init_11 (fun H locs hP hD hS => ?_)
  have hP : va_P K.1 vwCl ([(q, .inr (1, [.ref sa, .int (bI b), .int 0]))]) H := hP
  have hD : va_D A ([(q, .inr (1, [.ref sa, .int (bI b), .int 0]))]) := hD
  refine lv_aload_n hx hb dX0_init_14 rfl (lv_at hl 0 rfl) ?_
  refine lv_iload_n hx hb dX0_init_15 rfl (lv_at hl 3 rfl) ?_
  refine va_putF (D := K.1) (ci := 1) (v := .int z) (ty := .int) (C := RX0) (T := TX0) (N := 3) hx hb hts iX0 tyX0 tyX0_ok nmX0 hown hE.k hP hD hS 0 rfl rfl 2 (by decide) f17 (fun _ h9 => h9) rfl hnm rfl (by decide +kernel) rfl rfl (Nat.le_of_ble_eq_true rfl) dX0_init_16 (fun H locs hP hD hS => ?_)
  have hP : va_P K.1 vwCl ([(q, .inr (1, [.ref sa, .int (bI b), .int z]))]) H := hP
  have hD : va_D A ([(q, .inr (1, [.ref sa, .int (bI b), .int z]))]) := hD
  exact m_vret hx hb hr hlk hS (Nat.le_of_ble_eq_true rfl) (Nat.le_of_ble_eq_true rfl) dX0_init_19 hP

set_option maxHeartbeats 4000000 in
set_option maxRecDepth 100000 in
theorem kX1_init (l : Launch) (K : m_K) (A : Nat → Prop) (H0 : Heap) (q g fa ga : Nat) (hP : va_P K.1 vwCl [(q, .inr (2, [.int 0, .null, .null]))] H0) (hD : va_D A [(q, .inr (2, [.int 0, .null, .null]))]) : Met l yX1_init wsX1_init ({ frames := 1, cells := 0, slots := 0, locals := 12 } : Room) (m_Pc K A H0 [.ref q, .int (nI g), .ref fa, .ref ga]) (va_Qv (fun H1 => va_P K.1 vwCl [(q, .inr (2, [.int (nI g), .ref fa, .ref ga]))] H1) m_B A) 0 0 A := by
  refine m_ofW (by decide) rfl (Nat.le_of_ble_eq_true rfl) ?_
  intro p e s m args below meth c ls hx hb hr hml hown hts hlk hnm hE hsz hS hl
  have hl : lv_has ls 4 [(0, .ref q), (1, .int (nI g)), (2, .ref fa), (3, .ref ga)] := hl
  have oi1 := hts (.methodLink RX1 1 objectInit) (by decide +kernel)
  have oii := hts (.instanceMethod objectInit) (by decide +kernel)
  have oic := hts (.code objectInit ⟨#[0xb1]⟩ 1 none) (by decide +kernel)
  have iX1 : ∀ w ∈ wsX10, w ∈ wsX1_init := by decide +kernel
  have f7 := hts (.fieldLink RX1 7 "PhraseCatalogue$Pair" "language" "I") (by decide +kernel)
  have f13 := hts (.fieldLink RX1 13 "PhraseCatalogue$Pair" "old" "LPhraseCatalogue$Form;") (by decide +kernel)
  have f17 := hts (.fieldLink RX1 17 "PhraseCatalogue$Pair" "translation" "LPhraseCatalogue$Form;") (by decide +kernel)
  refine lv_aload_n hx hb dX1_init_0 rfl (lv_at hl 0 rfl) ?_
  refine W.objInit hx hb hown oi1 oii oic rfl (by rw [hml]; exact hl.1) rfl dX1_init_1 (Nat.le_of_ble_eq_true rfl) (Nat.le_of_ble_eq_true rfl) ?_
  refine W.eq (g2 := F0 m 4 ls []) rfl ?_
  refine lv_aload_n hx hb dX1_init_4 rfl (lv_at hl 0 rfl) ?_
  refine lv_iload_n hx hb dX1_init_5 rfl (lv_at hl 1 rfl) ?_
  refine va_putF (D := K.1) (ci := 2) (v := .int (nI g)) (ty := .int) (C := RX1) (T := TX1) (N := 3) hx hb hts iX1 tyX1 tyX1_ok nmX1 hown hE.k hP hD hS 0 rfl rfl 0 (by decide) f7 (fun _ h9 => h9) rfl hnm rfl (by decide +kernel) rfl rfl (Nat.le_of_ble_eq_true rfl) dX1_init_6 (fun H locs hP hD hS => ?_)
  have hP : va_P K.1 vwCl ([(q, .inr (2, [.int (nI g), .null, .null]))]) H := hP
  have hD : va_D A ([(q, .inr (2, [.int (nI g), .null, .null]))]) := hD
  refine lv_aload_n hx hb dX1_init_9 rfl (lv_at hl 0 rfl) ?_
  refine lv_aload_n hx hb dX1_init_10 rfl (lv_at hl 2 rfl) ?_
  refine va_putF (D := K.1) (ci := 2) (v := .ref fa) (ty := .object "PhraseCatalogue$Form") (C := RX1) (T := TX1) (N := 3) hx hb hts iX1 tyX1 tyX1_ok nmX1 hown hE.k hP hD hS 0 rfl rfl 1 (by decide) f13 (fun _ h9 => h9) rfl hnm rfl (by decide +kernel) rfl rfl (Nat.le_of_ble_eq_true rfl) dX1_init_11 (fun H locs hP hD hS => ?_)
  have hP : va_P K.1 vwCl ([(q, .inr (2, [.int (nI g), .ref fa, .null]))]) H := hP
  have hD : va_D A ([(q, .inr (2, [.int (nI g), .ref fa, .null]))]) := hD
  refine lv_aload_n hx hb dX1_init_14 rfl (lv_at hl 0 rfl) ?_
  refine lv_aload_n hx hb dX1_init_15 rfl (lv_at hl 3 rfl) ?_
  refine va_putF (D := K.1) (ci := 2) (v := .ref ga) (ty := .object "PhraseCatalogue$Form") (C := RX1) (T := TX1) (N := 3) hx hb hts iX1 tyX1 tyX1_ok nmX1 hown hE.k hP hD hS 0 rfl rfl 2 (by decide) f17 (fun _ h9 => h9) rfl hnm rfl (by decide +kernel) rfl rfl (Nat.le_of_ble_eq_true rfl) dX1_init_16 (fun H locs hP hD hS => ?_)
  have hP : va_P K.1 vwCl ([(q, .inr (2, [.int (nI g), .ref fa, .ref ga]))]) H := hP
  have hD : va_D A ([(q, .inr (2, [.int (nI g), .ref fa, .ref ga]))]) := hD
  exact m_vret hx hb hr hlk hS (Nat.le_of_ble_eq_true rfl) (Nat.le_of_ble_eq_true rfl) dX1_init_19 hP

theorem fit_i (v : Int32) : fits .int (.int v) = true := rfl
theorem fit_cell {c : ClassId} {n : Nat} {f : Nat → Int32} : ∀ (i : Nat) (v : Value), (vp_cell c (n, .inl f)).slots[i]? = some v → fits .int v = true := fun i v h => by
  rw [vp_cell_i] at h
  by_cases hi : i < n
  · rw [arrV_read _ _ hi] at h
    cases h
    rfl
  · have hz : i < (arrV c n (fun j => .int (f j))).slots.size := (Array.getElem?_eq_some_iff.mp h).1
    rw [arrV_size] at hz
    exact absurd hz hi
theorem cpy_lo {f g : Nat → Int32} {k j : Nat} (h : j < k) : va_cpy f g 0 0 k j = f j := by
  unfold va_cpy
  rw [if_pos (by omega), Nat.zero_add, Nat.sub_zero]

set_option maxHeartbeats 4000000 in
set_option maxRecDepth 100000 in
theorem kJ7_copyOf_59c91 (l : Launch) (K : m_K) (A : Nat → Prop) (H0 : Heap) (ws : va_W) (hP : va_P K.1 vwCl ws H0) (hD : va_D A ws) (hA : ∀ q, H0.size ≤ q → A q) (q1 a n k : Nat) (g9 : Nat → Int32) (h1 : ws[q1]? = some (a, .inl (K.2.1 0, n, .inl g9))) (hk : k ≤ n) (hn : n ≤ 8) : Met l yJ7_copyOf_59c91 wsJ7_copyOf_59c91 ({ frames := 1, cells := 1, slots := 8, locals := 40 } : Room) (m_Pc K A H0 [.ref a, .int (nI k)]) (va_Qq (fun r H1 => ∃ (q : Nat) (g : Nat → Int32), r = some q ∧ va_P K.1 vwCl (ws ++ [(q, .inl (K.2.1 0, k, .inl g))]) H1 ∧ va_D A (ws ++ [(q, .inl (K.2.1 0, k, .inl g))]) ∧ ∀ j, j < k → g j = g9 j) m_B A) 1 8 A := by
  refine m_ofW (by decide) rfl (Nat.le_of_ble_eq_true rfl) ?_
  intro p e s m args below meth c ls hx hb hr hml hown hts hlk hnm hE hsz hS hl
  have hl : lv_has ls 3 [(0, .ref a), (1, .int (nI k))] := hl
  have hA0 : ∀ q, s.heap.size ≤ q → A q := fun q h => hA q (by rw [← hsz]; exact h)
  have ai := hts (.arrayClass .int) (by decide +kernel)
  have mm304 := hts (.methodLink RJ7 304 Lib.Math.min.name) (by decide +kernel)
  have msmin := hts (.static Lib.Math.min.name) (by decide +kernel)
  have mini := hts (.initialized "java/lang/Math") (by decide +kernel)
  have mcmin := hts (.code Lib.Math.min.name Lib.Math.min.code 2 (some .int)) (by decide +kernel)
  have ac150 := hts (.methodLink RJ7 150 arraycopyName) (by decide +kernel)
  have acn := hts (.native arraycopyName) (by decide +kernel)
  have acs := hts (.static arraycopyName) (by decide +kernel)
  have aci := hts (.initialized "java/lang/System") (by decide +kernel)
  have kl := hts (.methodLink RJ7 316 ⟨"[I", "clone", "()Ljava/lang/Object;"⟩) (by decide +kernel)
  have ks := hts (.sameMethod "[I" "java/lang/Object" "clone" "()Ljava/lang/Object;") (by decide +kernel)
  have kn := hts (.native ⟨"java/lang/Object", "clone", "()Ljava/lang/Object;"⟩) (by decide +kernel)
  have kj := hts (.instanceMethod ⟨"java/lang/Object", "clone", "()Ljava/lang/Object;"⟩) (by decide +kernel)
  have ke := hts (.selects "[I" ⟨"[I", "clone", "()Ljava/lang/Object;"⟩ ⟨"java/lang/Object", "clone", "()Ljava/lang/Object;"⟩) (by decide +kernel)
  have cl317 := hts (.classLink RJ7 317 "[I") (by decide +kernel)
  refine lv_iload_n hx hb dJ7_copyOf_59c91_0 rfl (lv_at hl 1 rfl) ?_
  refine lv_aload_n hx hb dJ7_copyOf_59c91_1 rfl (lv_at hl 0 rfl) ?_
  refine va_alen (v := nI n) hx hb hE.k hP q1 0 h1 rfl rfl dJ7_copyOf_59c91_2 ?_
  refine m_icmp_ne (tgt := 14) hx hb (by omega) (by omega) dJ7_copyOf_59c91_3 (by decide) (fun c_3 => ?_) (fun c_3 => ?_)
  · refine lv_iload_n hx hb dJ7_copyOf_59c91_14 rfl (lv_at hl 1 rfl) ?_
    refine m_newi hx hb hE.k hP hD hS hA0 ai (by omega) (Nat.le_of_ble_eq_true rfl) (by show 0 + k ≤ 8; omega) dJ7_copyOf_59c91_15 (fun q5 H hq5 hs5 hP hD hS => ?_)
    have hP : va_P K.1 vwCl (ws ++ [(q5, .inl (K.2.1 0, k, .inl (fun _ => 0)))]) H := hP
    have hD : va_D A (ws ++ [(q5, .inl (K.2.1 0, k, .inl (fun _ => 0)))]) := hD
    refine W.widen (k := 1) (n := 8) (by omega) (by show 0 + k ≤ 8; omega) ?_
    refine lv_astore_n (lv' := [(2, .ref q5), (0, .ref a), (1, .int (nI k))]) hx hb dJ7_copyOf_59c91_17 rfl hl (by decide) rfl (fun ls hl => ?_)
    refine lv_aload_n hx hb dJ7_copyOf_59c91_18 rfl (lv_at hl 1 rfl) ?_
    refine lv_iconst (v := nI 0) hx hb dJ7_copyOf_59c91_19 (by decide) ?_
    refine lv_aload_n hx hb dJ7_copyOf_59c91_20 rfl (lv_at hl 0 rfl) ?_
    refine lv_iconst (v := nI 0) hx hb dJ7_copyOf_59c91_21 (by decide) ?_
    refine lv_aload_n hx hb dJ7_copyOf_59c91_22 rfl (lv_at hl 1 rfl) ?_
    refine va_alen (v := nI n) hx hb hE.k hP q1 0 (m_apl h1) rfl rfl dJ7_copyOf_59c91_23 ?_
    refine lv_iload_n hx hb dJ7_copyOf_59c91_24 rfl (lv_at hl 2 rfl) ?_
    refine m_mmin hx hb (hml.trans hl.1.symm) hown mm304 msmin mini mcmin (Nat.le_of_ble_eq_true rfl) (Nat.le_of_ble_eq_true rfl) (Nat.le_of_ble_eq_true rfl) (Nat.le_of_ble_eq_true rfl) (by omega) (by omega) dJ7_copyOf_59c91_25 ?_
    rw [show min n k = k by omega]
    refine va_copyi (ty := .int) hx hb (hml.trans hl.1.symm) hown ac150 acn acs aci hE.k hP hD hS q1 ws.length 0 0 (m_apl h1) m_apr rfl rfl rfl (nI_pos (by omega)) (nI_pos (by omega)) (nI_pos (by omega)) (by rw [nI_clamp (by omega), nI_clamp (by omega)]; omega) (by rw [nI_clamp (by omega), nI_clamp (by omega)]; omega) (fun _ _ => rfl) (Nat.le_of_ble_eq_true rfl) (Nat.le_of_ble_eq_true rfl) dJ7_copyOf_59c91_28 (fun H locs hP hD hS => ?_)
    rw [nI_clamp (show 0 < 2 ^ 31 by omega), nI_clamp (show k < 2 ^ 31 by omega), m_setr] at hP hD
    have hP : va_P K.1 vwCl (ws ++ [(q5, .inl (K.2.1 0, k, .inl (va_cpy g9 (fun _ => 0) 0 0 k)))]) H := hP
    have hD : va_D A (ws ++ [(q5, .inl (K.2.1 0, k, .inl (va_cpy g9 (fun _ => 0) 0 0 k)))]) := hD
    refine lv_aload_n hx hb dJ7_copyOf_59c91_31 rfl (lv_at hl 0 rfl) ?_
    exact m_qret (r := some q5) hx hb hr (Or.inr ⟨_, rfl⟩) hlk hS (Nat.le_of_ble_eq_true rfl) (Nat.le_of_ble_eq_true rfl) dJ7_copyOf_59c91_32 (⟨q5, _, rfl, hP, hD, fun j hj => cpy_lo hj⟩)
  · refine lv_aload_n hx hb dJ7_copyOf_59c91_6 rfl (lv_at hl 0 rfl) ?_
    refine va_clone hx hb (hml.trans hl.1.symm) hown kl ks kn kj ke (hE.2.2.2.2.2.1 ("[I", "java/lang/Cloneable") (by simp [m_cas])) hE.k hP hD hS hA0 q1 0 h1 rfl ((hE.k.2 0 _ rfl).2) fit_cell (Nat.le_of_ble_eq_true rfl) (Nat.le_of_ble_eq_true rfl) (Nat.le_of_ble_eq_true rfl) (by show 0 + n ≤ 8; omega) dJ7_copyOf_59c91_7 (fun q5 H hK5 hP hD hS => ?_)
    have hP : va_P K.1 vwCl (ws ++ [(q5, .inl (K.2.1 0, n, .inl g9))]) H := hP
    have hD : va_D A (ws ++ [(q5, .inl (K.2.1 0, n, .inl g9))]) := hD
    refine W.widen (k := 1) (n := 8) (by omega) (by show 0 + n ≤ 8; omega) ?_
    refine va_castA hx hb hown cl317 hP ws.length m_apr ((hE.k.2 0 _ rfl).2) dJ7_copyOf_59c91_10 ?_
    exact m_qret (r := some q5) hx hb hr (Or.inr ⟨_, rfl⟩) hlk hS (Nat.le_of_ble_eq_true rfl) (Nat.le_of_ble_eq_true rfl) dJ7_copyOf_59c91_13 (⟨q5, g9, rfl, by rw [c_3]; exact hP, by rw [c_3]; exact hD, fun _ _ => rfl⟩)

/-- add, in whatever state the row is -/
theorem kAdd (l : Launch) (K : m_K) (A : Nat → Prop) (H0 : Heap) (o : Nat) (ad : Nat → Nat) (f : Nat → Nat → Int32) (d : Int32) (ft : Nat → Option Nat) (md : Int32) (ed : Value) (n : Nat) (T : va_W) (ip pa : Nat) (vs : List Value) (hip : T[ip]? = some (pa, .inr (2, vs))) (hP : va_P K.1 vwCl (cW K o ad f d ft [.int md, ed, .int (nI n)] T) H0) (hD : va_D A (cW K o ad f d ft [.int md, ed, .int (nI n)] T)) (hA : ∀ q, H0.size ≤ q → A q) (r9 : Nat → Option Nat) (hL : LRow K T ed n r9) (hn20 : n ≤ 20) (hel : ∀ i, i < n → ∃ (y j : Nat) (vs : List Value), r9 i = some y ∧ T[j]? = some (y, .inr (2, vs))) (hlt : n < 20) : Met l yJx4a65c_add_9ea2d wsJx4a65c_add_9ea2d ({ frames := 6, cells := 1, slots := 22, locals := 150 } : Room) (m_Pc K A H0 [.ref (ad 8), .ref pa]) (va_Qi (fun (r : Int32) H1 => ∃ (ed' : Value) (T' : va_W), va_P K.1 vwCl (cW K o ad f d ft [.int (md + nI 1), ed', .int (nI (n + 1))] T') H1 ∧ va_D A (cW K o ad f d ft [.int (md + nI 1), ed', .int (nI (n + 1))] T') ∧ LRow K T' ed' (n + 1) (va_up r9 n (some pa)) ∧ Ext T T') m_B A) 1 22 A := by
  have hel' : ∀ fE : Nat → Option Nat, (∀ k, k < n → fE k = r9 k) → ∀ i, i < n → ∀ y, fE i = some y → ∃ (j : Nat) (vs : List Value), T[j]? = some (y, .inr (2, vs)) := fun fE h i hi y hy => by
    obtain ⟨y2, j, vs2, h1, h2⟩ := hel i hi
    rw [h i hi, h1] at hy
    cases hy
    exact ⟨j, vs2, h2⟩
  rcases hL with ⟨h1, h2⟩ | ⟨ie, aE, cap, fE, h1, h2, h3, h4, h5⟩
  · subst h2
    exact kAddC l K A H0 o ad f d ft md n T ip pa vs hip hP hD hA h1 r9
  · subst h1
    by_cases hc : n < cap
    · exact kAddA l K A H0 o ad f d ft md n T ie aE cap fE h2 ip pa vs hip hP hD hA h4 hc r9 h5
    · exact kAddB l K A H0 o ad f d ft md n T ie aE cap fE h2 ip pa vs hip hP hD hA (hel' fE h5) (cap + cap / 2) (by omega) (by omega) (by omega) rfl (by omega) r9 h5

set_option maxHeartbeats 4000000 in
set_option maxRecDepth 100000 in
theorem kX2_keepPair (l : Launch) (K : m_K) (A : Nat → Prop) (H0 : Heap) (o : Nat) (ad : Nat → Nat) (f : Nat → Nat → Int32) (d : Int32) (ft : Nat → Option Nat) (md : Int32) (ed : Value) (n : Nat) (T : va_W) (ip pa : Nat) (vs : List Value) (hip : T[ip]? = some (pa, .inr (2, vs))) (hP : va_P K.1 vwCl (cW K o ad f d ft [.int md, ed, .int (nI n)] T) H0) (hD : va_D A (cW K o ad f d ft [.int md, ed, .int (nI n)] T)) (hA : ∀ q, H0.size ≤ q → A q) (r9 : Nat → Option Nat) (hL : LRow K T ed n r9) (hn20 : n ≤ 20) (hel : ∀ i, i < n → ∃ (y j : Nat) (vs : List Value), r9 i = some y ∧ T[j]? = some (y, .inr (2, vs))) : Met l yX2_keepPair wsX2_keepPair ({ frames := 7, cells := 1, slots := 22, locals := 171 } : Room) (m_Pc K A H0 [.ref o, .ref pa]) (va_Qv (fun H1 => ∃ (md' : Int32) (ed' : Value) (T' : va_W), va_P K.1 vwCl (cW K o ad f d ft [.int md', ed', .int (nI (pushN n))] T') H1 ∧ va_D A (cW K o ad f d ft [.int md', ed', .int (nI (pushN n))] T') ∧ LRow K T' ed' (pushN n) (pushR n r9 (some pa)) ∧ Ext T T') m_B A) 1 22 A := by
  refine m_ofW (by decide) rfl (Nat.le_of_ble_eq_true rfl) ?_
  intro p e s m args below meth c ls hx hb hr hml hown hts hlk hnm hE hsz hS hl
  have hl : lv_has ls 2 [(0, .ref o), (1, .ref pa)] := hl
  have hA0 : ∀ q, s.heap.size ≤ q → A q := fun q h => hA q (by rw [← hsz]; exact h)
  have iX2 : ∀ w ∈ wsX20, w ∈ wsX2_keepPair := by decide +kernel
  have f47 := hts (.fieldLink RX2 47 "PhraseCatalogue" "past" "Ljava/util/ArrayList;") (by decide +kernel)
  refine lv_aload_n hx hb dX2_keepPair_0 rfl (lv_at hl 0 rfl) ?_
  refine va_get (D := K.1) (ci := 3) (v := .ref (ad 8)) (C := RX2) (T := TX2) (N := 10) hx hb hts iX2 hown hE.k hP 0 rfl rfl 8 (by decide) f47 (fun _ h9 => h9) rfl dX2_keepPair_1 ?_
  refine m_cVi (rest := []) ⟨hx, hb, hml, hown, hts⟩ hE hS (fun _ h => h) (kJx4a65c_size_8abf5 l K A H0 _ hP 9 (ad 8) md ed n rfl) (cwV 0 hts gX2_keepPair_Jx4a65c_size_8abf5 rfl rfl rfl (by decide +kernel) ⟨Nat.le_of_ble_eq_true rfl, Nat.le_of_ble_eq_true rfl⟩) (va_recv hE.k hP (ci := 0) (q0 := 9) rfl rfl) rfl rfl hl.1 rfl (Nat.le_of_ble_eq_true rfl) dX2_keepPair_4 ⟨Nat.le_of_ble_eq_true rfl, Nat.le_of_ble_eq_true rfl⟩ (fun r H1 locs hp hS hk => ?_)
  obtain ⟨rfl, rfl⟩ := hp
  refine lv_bipush (v := nI 20) hx hb dX2_keepPair_7 (by decide) ?_
  refine m_icmp_lt (tgt := 21) hx hb (by omega) (by omega) dX2_keepPair_9 (by decide) (fun c_9 => ?_) (fun c_9 => ?_)
  · refine lv_aload_n hx hb dX2_keepPair_21 rfl (lv_at hl 0 rfl) ?_
    refine va_get (D := K.1) (ci := 3) (v := .ref (ad 8)) (C := RX2) (T := TX2) (N := 10) hx hb hts iX2 hown hE.k hP 0 rfl rfl 8 (by decide) f47 (fun _ h9 => h9) rfl dX2_keepPair_22 ?_
    refine lv_aload_n hx hb dX2_keepPair_25 rfl (lv_at hl 1 rfl) ?_
    refine m_cVi (rest := []) ⟨hx, hb, hml, hown, hts⟩ hE hS (fun _ h => h) (kAdd l K A H0 o ad f d ft md ed n T ip pa vs hip hP hD hA r9 hL hn20 hel c_9) (cwV 1 hts gX2_keepPair_Jx4a65c_add_9ea2d rfl rfl rfl (by decide +kernel) ⟨Nat.le_of_ble_eq_true rfl, Nat.le_of_ble_eq_true rfl⟩) (va_recv hE.k hP (ci := 0) (q0 := 9) rfl rfl) rfl rfl hl.1 rfl (Nat.le_of_ble_eq_true rfl) dX2_keepPair_26 ⟨Nat.le_of_ble_eq_true rfl, Nat.le_of_ble_eq_true rfl⟩ (fun r H locs hp hS hk => ?_)
    obtain ⟨ed', T', hP, hD, hL, hX⟩ := hp
    refine lv_pop hx hb dX2_keepPair_29 rfl ?_
    exact m_vret hx hb hr hlk hS (Nat.le_of_ble_eq_true rfl) (Nat.le_of_ble_eq_true rfl) dX2_keepPair_30 (⟨_, ed', T', by rw [show pushN n = n + 1 from if_neg (by omega)]; exact hP, by rw [show pushN n = n + 1 from if_neg (by omega)]; exact hD, by rw [show pushN n = n + 1 from if_neg (by omega), show pushR n r9 (some pa) = va_up r9 n (some pa) from if_neg (by omega)]; exact hL, hX⟩)
  · refine lv_aload_n hx hb dX2_keepPair_12 rfl (lv_at hl 0 rfl) ?_
    refine va_get (D := K.1) (ci := 3) (v := .ref (ad 8)) (C := RX2) (T := TX2) (N := 10) hx hb hts iX2 hown hE.k hP 0 rfl rfl 8 (by decide) f47 (fun _ h9 => h9) rfl dX2_keepPair_13 ?_
    refine lv_iconst (v := nI 0) hx hb dX2_keepPair_16 (by decide) ?_
    rcases hL with ⟨h1, h2⟩ | ⟨ie, aE, cap, fE, h1, h2, h3, h4, h5⟩
    · omega
    subst h1
    have hel' : ∀ i, i < n → ∀ y, fE i = some y → ∃ (j : Nat) (vs : List Value), T[j]? = some (y, .inr (2, vs)) := fun i hi y hy => by
      obtain ⟨y2, j, vs2, h1, h2⟩ := hel i hi
      rw [h5 i hi, h1] at hy
      cases hy
      exact ⟨j, vs2, h2⟩
    refine m_cVq (rest := []) ⟨hx, hb, hml, hown, hts⟩ hE hS (fun _ h => h) (kRemove0 l K A H0 o ad f d ft md n T ie aE cap fE h2 hP hD hA hel' (by omega) h3 (by omega)) (cwV 1 hts gX2_keepPair_Jx4a65c_remove_915e3 rfl rfl rfl (by decide +kernel) ⟨Nat.le_of_ble_eq_true rfl, Nat.le_of_ble_eq_true rfl⟩) (va_recv hE.k hP (ci := 0) (q0 := 9) rfl rfl) rfl rfl hl.1 rfl (Nat.le_of_ble_eq_true rfl) dX2_keepPair_17 ⟨Nat.le_of_ble_eq_true rfl, Nat.le_of_ble_eq_true rfl⟩ (fun r H locs hp hS hk => ?_)
    obtain ⟨g9, hP, hD, hg9⟩ := hp
    have hA1 : ∀ q, H.size ≤ q → A q := fun q h => hA0 q (Nat.le_trans hS.1 h)
    refine lv_pop hx hb dX2_keepPair_20 (m_cat _) ?_
    refine lv_aload_n hx hb dX2_keepPair_21 rfl (lv_at hl 0 rfl) ?_
    refine va_get (D := K.1) (ci := 3) (v := .ref (ad 8)) (C := RX2) (T := TX2) (N := 10) hx hb hts iX2 hown hE.k hP 0 rfl rfl 8 (by decide) f47 (fun _ h9 => h9) rfl dX2_keepPair_22 ?_
    refine lv_aload_n hx hb dX2_keepPair_25 rfl (lv_at hl 1 rfl) ?_
    refine m_cVi (rest := []) ⟨hx, hb, hml, hown, hts⟩ hE hS (fun _ h => h) (kAdd l K A H o ad f d ft (md + nI 1) (.ref aE) (n - 1) (T.set ie (aE, .inl (K.2.1 3, cap, .inr (.inr (.inr (.inr g9)))))) ip pa vs (m_setn h2 hip (fun z => by cases z)) hP hD hA1 (fun i => r9 (i + 1)) (Or.inr ⟨ie, aE, cap, g9, rfl, m_sets h2, by omega, h4, fun k hk => (hg9 k hk).trans (h5 (k + 1) (by omega))⟩) (by omega) (fun i hi => by
          obtain ⟨y, j, vs2, e1, e2⟩ := hel (i + 1) (by omega)
          exact ⟨y, j, vs2, e1, m_setn h2 e2 (fun z => by cases z)⟩) (by omega)) (cwV 1 hts gX2_keepPair_Jx4a65c_add_9ea2d rfl rfl rfl (by decide +kernel) ⟨Nat.le_of_ble_eq_true rfl, Nat.le_of_ble_eq_true rfl⟩) (va_recv hE.k hP (ci := 0) (q0 := 9) rfl rfl) rfl rfl hl.1 rfl (Nat.le_of_ble_eq_true rfl) dX2_keepPair_26 ⟨Nat.le_of_ble_eq_true rfl, Nat.le_of_ble_eq_true rfl⟩ (fun r H locs hp hS hk => ?_)
    obtain ⟨ed', T', hP, hD, hL, hX⟩ := hp
    have e20 : n = 20 := by omega
    subst e20
    refine lv_pop hx hb dX2_keepPair_29 rfl ?_
    exact m_vret hx hb hr hlk hS (Nat.le_of_ble_eq_true rfl) (Nat.le_of_ble_eq_true rfl) dX2_keepPair_30 (⟨_, ed', T', hP, hD, hL, (Ext.set h2).trans hX⟩)

theorem ext_ps {T : va_W} {q n : Nat} {v w : List Value} : Ext T ((T ++ ([(q, .inr (n, v))] : va_W) : va_W).set T.length (q, .inr (n, w))) := by
  rw [m_setr]
  exact Ext.push

set_option maxHeartbeats 4000000 in
set_option maxRecDepth 100000 in
theorem kX2_keepPairs (l : Launch) (K : m_K) (A : Nat → Prop) (H0 : Heap) (o : Nat) (ad : Nat → Nat) (f : Nat → Nat → Int32) (d : Int32) (ft : Nat → Option Nat) (li : List Value) (T : va_W) (hP : va_P K.1 vwCl (cW K o ad f d ft li T) H0) (hD : va_D A (cW K o ad f d ft li T)) (hA : ∀ q, H0.size ≤ q → A q) (fm : Nat → Option Frm) (hfm : ∀ k, k < 540 → FOpt K T (ft k) (fm k)) (ps : List Pr) (hls : LST K T li ps) (k i u : Nat) (hk9 : k < 10) (hi9 : i < 3) (hu9 : u < 3) (r9 : Option Nat) (hr9 : FOpt K T r9 (fm (54 * k + (3 * i + u)))) : Met l yX2_keepPairs wsX2_keepPairs ({ frames := 8, cells := 10, slots := 125, locals := 192 } : Room) (m_Pc K A H0 [.ref o, .int (nI k), .int (nI i), .int (nI u), va_rf r9]) (va_Qv (fun H1 => ∃ (li' : List Value) (T' : va_W), va_P K.1 vwCl (cW K o ad f d ft li' T') H1 ∧ va_D A (cW K o ad f d ft li' T') ∧ LST K T' li' (keepP fm k (3 * i + u) ps) ∧ Ext T T') m_B A) 10 125 A := by
  cases r9 with
  | none =>
    refine m_ofW (by decide) rfl (Nat.le_of_ble_eq_true rfl) ?_
    intro p e s m args below meth c ls hx hb hr hml hown hts hlk hnm hE hsz hS hl
    have hl : lv_has ls 7 [(0, .ref o), (1, .int (nI k)), (2, .int (nI i)), (3, .int (nI u)), (4, .null)] := hl
    have hA0 : ∀ q, s.heap.size ≤ q → A q := fun q h => hA q (by rw [← hsz]; exact h)
    refine lv_aloadN hx hb dX2_keepPairs_0 (lv_at hl 4 rfl) ?_
    refine lv_ifnonnullN hx hb dX2_keepPairs_2 ?_
    exact m_vret hx hb hr hlk hS (Nat.le_of_ble_eq_true rfl) (Nat.le_of_ble_eq_true rfl) dX2_keepPairs_5 (⟨li, T, hP, hD, by rw [keepP, FOpt_has hr9 rfl]; exact hls, Ext.rf⟩)
  | some a9 =>
    refine m_ofW (by decide) rfl (Nat.le_of_ble_eq_true rfl) ?_
    intro p e s m args below meth c ls hx hb hr hml hown hts hlk hnm hE hsz hS hl
    have hl : lv_has ls 7 [(0, .ref o), (1, .int (nI k)), (2, .int (nI i)), (3, .int (nI u)), (4, .ref a9)] := hl
    have hA0 : ∀ q, s.heap.size ≤ q → A q := fun q h => hA q (by rw [← hsz]; exact h)
    have iX2 : ∀ w ∈ wsX20, w ∈ wsX2_keepPairs := by decide +kernel
    have f34 := hts (.fieldLink RX2 34 "PhraseCatalogue" "formTable" "[LPhraseCatalogue$Form;") (by decide +kernel)
    have iX1 : ∀ w ∈ wsX10, w ∈ wsX2_keepPairs := by decide +kernel
    have cl166 := hts (.classLink RX2 166 RX1) (by decide +kernel)
    have inX1 := hts (.instantiable RX1 3) (by decide +kernel)
    have niX1 := hts (.initialized RX1) (by decide +kernel)
    have x221 := hts (.methodLink RX2 221 yX1_init) (by decide +kernel)
    have zX1_init := hts (.instanceMethod yX1_init) (by decide +kernel)
    have nRX1 := hts (.initialized RX1) (by decide +kernel)
    obtain ⟨F, hF, hFa⟩ := FOpt_at hr9 rfl
    refine lv_aload hx hb dX2_keepPairs_0 (lv_at hl 4 rfl) ?_
    refine lv_ifnonnull (tgt := 6) hx hb dX2_keepPairs_2 (by decide) ?_
    refine lv_iconst (v := nI 1) hx hb dX2_keepPairs_6 (by decide) ?_
    refine lv_istore (lv' := [(5, .int (nI 1)), (0, .ref o), (1, .int (nI k)), (2, .int (nI i)), (3, .int (nI u)), (4, .ref a9)]) hx hb dX2_keepPairs_7 hl (by decide) rfl (fun ls hl => ?_)
    refine (?_ : ∀ (n9 : Nat) (g : Nat) (li2 : List Value) (T2 : va_W) (ps2 : List Pr) (H : Heap) (locs : List Loc) (ls : Array Slot), g ≤ 6 → 6 < g + n9 → 1 ≤ g → Ext T T2 → LST K T2 li2 ps2 → ps2 = keepL fm k (3 * i + u) F (g - 1) ps → va_P K.1 vwCl (cW K o ad f d ft li2 T2) H → va_D A (cW K o ad f d ft li2 T2) → va_S A s.heap H locs → lv_has ls 7 [(5, .int (nI g)), (0, .ref o), (1, .int (nI k)), (2, .int (nI i)), (3, .int (nI u)), (4, .ref a9)] → W p l e _ s m args below meth c H locs (2 * (g - 1)) (25 * (g - 1)) _ (F0 m 9 ls [])) (6 + 1) 1 li T ps _ _ ls (by omega) (by omega) (Nat.le_refl 1) Ext.rf hls rfl hP hD hS (lv_sub hl [0, 1, 2, 3, 4, 5] rfl)
    clear hS hl hP hD
    intro n9
    induction n9 with
    | zero => intro g li2 T2 ps2 H locs ls hi9 hn9; exact absurd hn9 (by omega)
    | succ n9 ih =>
      intro g li2 T2 ps2 H locs ls hi9 hn9 hg1 hX2 hl2 hps hP hD hS hl
      refine lv_iload hx hb dX2_keepPairs_9 (lv_at hl 0 rfl) ?_
      refine lv_bipush (v := nI 6) hx hb dX2_keepPairs_11 (by decide) ?_
      refine m_icmp_ge (tgt := 59) hx hb (by omega) (by omega) dX2_keepPairs_13 (by decide) (fun c_13 => ?_) (fun c_13 => ?_)
      · have hps2 : ps2 = keepP fm k (3 * i + u) ps := by rw [hps, keepP, hF, show g - 1 = 5 by omega]
        rw [hps2] at hl2
        exact m_vret hx hb hr hlk hS (by omega) (by omega) dX2_keepPairs_59 ⟨li2, T2, hP, hD, hl2, hX2⟩
      · refine lv_aload_n hx hb dX2_keepPairs_16 rfl (lv_at hl 1 rfl) ?_
        refine va_get (D := K.1) (ci := 3) (v := .ref (ad 5)) (C := RX2) (T := TX2) (N := 10) hx hb hts iX2 hown hE.k hP 0 rfl rfl 5 (by decide) f34 (fun _ h9 => h9) rfl dX2_keepPairs_17 ?_
        refine lv_iload_n hx hb dX2_keepPairs_20 rfl (lv_at hl 2 rfl) ?_
        refine lv_iload hx hb dX2_keepPairs_21 (lv_at hl 0 rfl) ?_
        refine lv_iload_n hx hb dX2_keepPairs_23 rfl (lv_at hl 3 rfl) ?_
        refine lv_iload_n hx hb dX2_keepPairs_24 rfl (lv_at hl 4 rfl) ?_
        refine m_cSi (rest := [.ref (ad 5)]) ⟨hx, hb, hml, hown, hts⟩ hE hS (fun _ h => h) (kX2_slotOf l K A _ k g i u (54 * k + 9 * g + (3 * i + u)) (by omega)) (va_cwS 4 hts gX2_keepPairs_X2_slotOf rfl rfl rfl (by decide +kernel) ⟨Nat.le_of_ble_eq_true rfl, Nat.le_of_ble_eq_true rfl⟩) rfl rfl hl.1 rfl (Nat.le_of_ble_eq_true rfl) dX2_keepPairs_25 ⟨by show _ ≤ 10; omega, by show _ ≤ 125; omega⟩ (fun r H1 locs hp hS hk => ?_)
        obtain ⟨rfl, rfl⟩ := hp
        refine m_aald2 hx hb hE.k hP 5 rfl (by omega) (by omega) rfl dX2_keepPairs_28 ?_
        refine m_astoreq (lv' := [(5, .int (nI g)), (0, .ref o), (1, .int (nI k)), (2, .int (nI i)), (3, .int (nI u)), (4, .ref a9)]) hx hb dX2_keepPairs_29 hl (by decide) (fun v9 hv9 => rfl) (fun ls hl => ?_)
        refine m_aloadq hx hb dX2_keepPairs_31 (lv_at hl 0 rfl) ?_
        refine m_ifnull (tgt := 53) hx hb dX2_keepPairs_33 (by decide) (fun c_33 => ?_) (fun a_33 c_33 => ?_)
        · have hz := FOpt_has (hfm (54 * k + 9 * g + (3 * i + u)) (by omega)) c_33
          refine lv_iinc (v := nI (g + 1)) (lv' := [(5, .int (nI (g + 1))), (6, va_rf (ft (54 * k + 9 * g + (3 * i + u)))), (0, .ref o), (1, .int (nI k)), (2, .int (nI i)), (3, .int (nI u)), (4, .ref a9)]) hx hb dX2_keepPairs_53 hl (k := 1) rfl (m_inc _) (by decide) rfl (fun ls hl => ?_)
          refine lv_goto (tgt := 9) hx hb dX2_keepPairs_56 (by decide) ?_
          refine W.widen (k := 2 * (g + 1 - 1)) (n := 25 * (g + 1 - 1)) (by omega) (by omega) ?_
          exact ih (g + 1) li2 T2 ps2 _ _ ls (by omega) (by omega) (by omega) hX2 hl2 (by rw [hps, show g + 1 - 1 = (g - 1) + 1 by omega, keepL, show g - 1 + 1 = g by omega, hz]) hP hD hS (lv_sub hl [0, 2, 3, 4, 5, 6] rfl)
        · obtain ⟨G, hz, hga⟩ := FOpt_at (hfm (54 * k + 9 * g + (3 * i + u)) (by omega)) (show ft (54 * k + 9 * g + (3 * i + u)) = some a_33 from c_33)
          rw [c_33] at hl
          have hl : lv_has ls 7 [(6, .ref a_33), (5, .int (nI g)), (0, .ref o), (1, .int (nI k)), (2, .int (nI i)), (3, .int (nI u)), (4, .ref a9)] := hl
          have hA1 : ∀ q, s.heap.size ≤ q → A q := hA0
          refine lv_aload_n hx hb dX2_keepPairs_36 rfl (lv_at hl 2 rfl) ?_
          refine va_new (ci := 2) (fs := [.int 0, .null, .null]) (C := RX1) (T := TX1) (N := 3) hx hb hts iX1 tyX1 tyX1_ok hown cl166 inX1 niX1 hE.k hP hD hS hA0 rfl (fun j hj => by rcases (show j = 0 ∨ j = 1 ∨ j = 2 by omega) with rfl | rfl | rfl <;> rfl) (by show _ ≤ 10; omega) (by show _ ≤ 125; omega) dX2_keepPairs_37 (fun q5 H hP hD hS => ?_)
          have hP : va_P K.1 vwCl (cW K o ad f d ft li2 ((T2 ++ ([(q5, .inr (2, [.int 0, .null, .null]))] : va_W)) : va_W)) H := hP
          have hD : va_D A (cW K o ad f d ft li2 ((T2 ++ ([(q5, .inr (2, [.int 0, .null, .null]))] : va_W)) : va_W)) := hD
          refine lv_dup hx hb dX2_keepPairs_40 rfl ?_
          refine lv_iload hx hb dX2_keepPairs_41 (lv_at hl 1 rfl) ?_
          refine lv_aload hx hb dX2_keepPairs_43 (lv_at hl 6 rfl) ?_
          refine lv_aload hx hb dX2_keepPairs_45 (lv_at hl 0 rfl) ?_
          refine m_cIv (rest := [.ref q5, .ref o]) ⟨hx, hb, hml, hown, hts⟩ hE hS (fun x hx => by rw [hx]; exact hD.2 _ _ (cW_t m_apr)) (kX1_init l K (fun x => x = q5) _ q5 g a9 a_33 (m_sing hP (cW_t m_apr)) m_one) (cwI 3 hts gX2_keepPairs_X1_init rfl rfl rfl nRX1 x221 zX1_init rfl (by decide +kernel) ⟨Nat.le_of_ble_eq_true rfl, Nat.le_of_ble_eq_true rfl⟩) rfl rfl hl.1 rfl (Nat.le_of_ble_eq_true rfl) dX2_keepPairs_47 ⟨by show _ ≤ 10; omega, by show _ ≤ 125; omega⟩ (fun H1 locs hp hS hk => ?_)
          obtain ⟨hP, hD⟩ := m_upd1 hP hD (cW_t m_apr) hk hp
          clear hp hk
          generalize H1 = H at hP hS ⊢
          have hP : va_P K.1 vwCl (cW K o ad f d ft li2 (((T2 ++ ([(q5, .inr (2, [.int 0, .null, .null]))] : va_W)) : va_W).set T2.length (q5, .inr (2, [.int (nI g), .ref a9, .ref a_33])))) H := hP
          have hD : va_D A (cW K o ad f d ft li2 (((T2 ++ ([(q5, .inr (2, [.int 0, .null, .null]))] : va_W)) : va_W).set T2.length (q5, .inr (2, [.int (nI g), .ref a9, .ref a_33])))) := hD
          obtain ⟨md, ed, r9, rfl, hL, hn20, hPl⟩ := hl2
          have hA2 : ∀ q, H.size ≤ q → A q := fun q h => hA0 q (Nat.le_trans hS.1 h)
          have hX3 : Ext T2 (((T2 ++ ([(q5, .inr (2, [.int 0, .null, .null]))] : va_W)) : va_W).set T2.length (q5, .inr (2, [.int (nI g), .ref a9, .ref a_33]))) := ext_ps
          refine m_cVv (rest := []) ⟨hx, hb, hml, hown, hts⟩ hE hS (fun _ h => h) (kX2_keepPair l K A H o ad f d ft md ed ps2.length (((T2 ++ ([(q5, .inr (2, [.int 0, .null, .null]))] : va_W)) : va_W).set T2.length (q5, .inr (2, [.int (nI g), .ref a9, .ref a_33]))) T2.length q5 [.int (nI g), .ref a9, .ref a_33] (m_sets m_apr) hP hD hA2 r9 (LRow.seto hL.push m_apr) hn20 (fun j hj => by
                obtain ⟨y, j2, vs, e1, e2⟩ := (hPl.ext hX3).el j hj
                exact ⟨y, j2, vs, e1, e2⟩)) (cwV 1 hts gX2_keepPairs_X2_keepPair rfl rfl rfl (by decide +kernel) ⟨Nat.le_of_ble_eq_true rfl, Nat.le_of_ble_eq_true rfl⟩) (va_recv hE.k hP (ci := 3) (q0 := 0) rfl rfl) rfl rfl hl.1 rfl (Nat.le_of_ble_eq_true rfl) dX2_keepPairs_50 ⟨by show _ ≤ 10; omega, by show _ ≤ 125; omega⟩ (fun H locs hp hS hk => ?_)
          obtain ⟨md', ed', T', hP, hD, hL', hX'⟩ := hp
          have hXX : Ext T2 T' := hX3.trans hX'
          have hq5 : PairAt K T' q5 (g, F, G) := PairAt.ext (PairAt.of (m_sets m_apr) ((hFa.ext hX2).ext hX3) ((hga.ext hX2).ext hX3) (by omega)) hX'
          refine lv_iinc (v := nI (g + 1)) (lv' := [(5, .int (nI (g + 1))), (6, .ref a_33), (0, .ref o), (1, .int (nI k)), (2, .int (nI i)), (3, .int (nI u)), (4, .ref a9)]) hx hb dX2_keepPairs_53 hl (k := 1) rfl (m_inc _) (by decide) rfl (fun ls hl => ?_)
          refine lv_goto (tgt := 9) hx hb dX2_keepPairs_56 (by decide) ?_
          refine W.widen (k := 2 * (g + 1 - 1)) (n := 25 * (g + 1 - 1)) (by omega) (by omega) ?_
          exact ih (g + 1) ([.int md', ed', .int (nI (pushN ps2.length))]) T' (pushP ps2 (g, F, G)) _ _ ls (by omega) (by omega) (by omega) (hX2.trans hXX) (⟨md', ed', _, by rw [pushP_len hn20], by rw [pushP_len hn20]; exact hL', pushP_le hn20, (hPl.ext hXX).push hq5 hn20⟩) (by rw [hps, show g + 1 - 1 = (g - 1) + 1 by omega, keepL, show g - 1 + 1 = g by omega, hz]) hP hD hS (lv_sub hl [0, 2, 3, 4, 5, 6] rfl)
