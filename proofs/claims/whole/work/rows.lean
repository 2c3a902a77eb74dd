section
-- ===== PART A: goes FIRST, ahead of the names: the tables' words, and 'selects' of the private methods out of them =====
/-- a private method of a class that the tables say can be made, by its rows of tables_1 -/
def lw_okq (q : MethodName × Nat) : Prop := (q.1.cls ≠ "java/lang/invoke/MethodHandle" ∧ q.1.cls ≠ "java/lang/invoke/VarHandle") ∧ Cond.instantiable q.1.cls q.2 ∈ tables_1 ∧ Cond.privateMethod q.1 ∈ tables_1 ∧ Cond.instanceMethod q.1 ∈ tables_1
theorem lw_p0 : lw_okq (⟨"java/lang/Throwable", "fillInStackTrace", "(I)Ljava/lang/Throwable;"⟩, 6) := ⟨⟨by decide +kernel, by decide +kernel⟩, List.mem_of_getElem? (i := 154) (by decide +kernel), List.mem_of_getElem? (i := 152) (by decide +kernel), List.mem_of_getElem? (i := 153) (by decide +kernel)⟩
theorem lw_p1 : lw_okq (⟨"PhraseCatalogue", "chainPlace", "(II)I"⟩, 10) := ⟨⟨by decide +kernel, by decide +kernel⟩, List.mem_of_getElem? (i := 21) (by decide +kernel), List.mem_of_getElem? (i := 185) (by decide +kernel), List.mem_of_getElem? (i := 186) (by decide +kernel)⟩
theorem lw_p2 : lw_okq (⟨"PhraseCatalogue", "change", "(IIIILPhraseCatalogue$Form;)V"⟩, 10) := ⟨⟨by decide +kernel, by decide +kernel⟩, List.mem_of_getElem? (i := 21) (by decide +kernel), List.mem_of_getElem? (i := 304) (by decide +kernel), List.mem_of_getElem? (i := 305) (by decide +kernel)⟩
theorem lw_p3 : lw_okq (⟨"PhraseCatalogue", "keepPairs", "(IIILPhraseCatalogue$Form;)V"⟩, 10) := ⟨⟨by decide +kernel, by decide +kernel⟩, List.mem_of_getElem? (i := 21) (by decide +kernel), List.mem_of_getElem? (i := 314) (by decide +kernel), List.mem_of_getElem? (i := 315) (by decide +kernel)⟩
theorem lw_p4 : lw_okq (⟨"PhraseCatalogue", "keepPair", "(LPhraseCatalogue$Pair;)V"⟩, 10) := ⟨⟨by decide +kernel, by decide +kernel⟩, List.mem_of_getElem? (i := 21) (by decide +kernel), List.mem_of_getElem? (i := 337) (by decide +kernel), List.mem_of_getElem? (i := 338) (by decide +kernel)⟩
theorem lw_p5 : lw_okq (⟨"java/util/ArrayList", "fastRemove", "([Ljava/lang/Object;I)V"⟩, 3) := ⟨⟨by decide +kernel, by decide +kernel⟩, List.mem_of_getElem? (i := 34) (by decide +kernel), List.mem_of_getElem? (i := 351) (by decide +kernel), List.mem_of_getElem? (i := 352) (by decide +kernel)⟩
theorem lw_p6 : lw_okq (⟨"java/util/ArrayList", "add", "(Ljava/lang/Object;[Ljava/lang/Object;I)V"⟩, 3) := ⟨⟨by decide +kernel, by decide +kernel⟩, List.mem_of_getElem? (i := 34) (by decide +kernel), List.mem_of_getElem? (i := 360) (by decide +kernel), List.mem_of_getElem? (i := 361) (by decide +kernel)⟩
theorem lw_p7 : lw_okq (⟨"java/util/ArrayList", "grow", "()[Ljava/lang/Object;"⟩, 3) := ⟨⟨by decide +kernel, by decide +kernel⟩, List.mem_of_getElem? (i := 34) (by decide +kernel), List.mem_of_getElem? (i := 364) (by decide +kernel), List.mem_of_getElem? (i := 365) (by decide +kernel)⟩
theorem lw_p8 : lw_okq (⟨"java/util/ArrayList", "grow", "(I)[Ljava/lang/Object;"⟩, 3) := ⟨⟨by decide +kernel, by decide +kernel⟩, List.mem_of_getElem? (i := 34) (by decide +kernel), List.mem_of_getElem? (i := 368) (by decide +kernel), List.mem_of_getElem? (i := 369) (by decide +kernel)⟩
theorem lw_p9 : lw_okq (⟨"PhraseCatalogue", "classOf", "(II)I"⟩, 10) := ⟨⟨by decide +kernel, by decide +kernel⟩, List.mem_of_getElem? (i := 21) (by decide +kernel), List.mem_of_getElem? (i := 424) (by decide +kernel), List.mem_of_getElem? (i := 425) (by decide +kernel)⟩
theorem lw_p10 : lw_okq (⟨"PhraseCatalogue", "countForms", "(II)I"⟩, 10) := ⟨⟨by decide +kernel, by decide +kernel⟩, List.mem_of_getElem? (i := 21) (by decide +kernel), List.mem_of_getElem? (i := 435) (by decide +kernel), List.mem_of_getElem? (i := 436) (by decide +kernel)⟩
theorem lw_p11 : lw_okq (⟨"PhraseCatalogue", "isFitting", "(ILPhraseCatalogue$Form;)Z"⟩, 10) := ⟨⟨by decide +kernel, by decide +kernel⟩, List.mem_of_getElem? (i := 21) (by decide +kernel), List.mem_of_getElem? (i := 467) (by decide +kernel), List.mem_of_getElem? (i := 468) (by decide +kernel)⟩
theorem lw_p12 : lw_okq (⟨"PhraseCatalogue", "sourcePlaceholders", "(I)I"⟩, 10) := ⟨⟨by decide +kernel, by decide +kernel⟩, List.mem_of_getElem? (i := 21) (by decide +kernel), List.mem_of_getElem? (i := 471) (by decide +kernel), List.mem_of_getElem? (i := 472) (by decide +kernel)⟩
theorem lw_p13 : lw_okq (⟨"PhraseCatalogue", "findAlongChain", "(IIII)I"⟩, 10) := ⟨⟨by decide +kernel, by decide +kernel⟩, List.mem_of_getElem? (i := 21) (by decide +kernel), List.mem_of_getElem? (i := 485) (by decide +kernel), List.mem_of_getElem? (i := 486) (by decide +kernel)⟩
theorem lw_p14 : lw_okq (⟨"PhraseCatalogue", "findInLanguage", "(IIII)I"⟩, 10) := ⟨⟨by decide +kernel, by decide +kernel⟩, List.mem_of_getElem? (i := 21) (by decide +kernel), List.mem_of_getElem? (i := 489) (by decide +kernel), List.mem_of_getElem? (i := 490) (by decide +kernel)⟩
theorem lw_p15 : lw_okq (⟨"PhraseCatalogue", "findInClass", "(IIII)I"⟩, 10) := ⟨⟨by decide +kernel, by decide +kernel⟩, List.mem_of_getElem? (i := 21) (by decide +kernel), List.mem_of_getElem? (i := 493) (by decide +kernel), List.mem_of_getElem? (i := 494) (by decide +kernel)⟩
def lw_privs_1 : List (MethodName × Nat) := [(⟨"java/lang/Throwable", "fillInStackTrace", "(I)Ljava/lang/Throwable;"⟩, 6), (⟨"PhraseCatalogue", "chainPlace", "(II)I"⟩, 10), (⟨"PhraseCatalogue", "change", "(IIIILPhraseCatalogue$Form;)V"⟩, 10), (⟨"PhraseCatalogue", "keepPairs", "(IIILPhraseCatalogue$Form;)V"⟩, 10), (⟨"PhraseCatalogue", "keepPair", "(LPhraseCatalogue$Pair;)V"⟩, 10), (⟨"java/util/ArrayList", "fastRemove", "([Ljava/lang/Object;I)V"⟩, 3), (⟨"java/util/ArrayList", "add", "(Ljava/lang/Object;[Ljava/lang/Object;I)V"⟩, 3), (⟨"java/util/ArrayList", "grow", "()[Ljava/lang/Object;"⟩, 3), (⟨"java/util/ArrayList", "grow", "(I)[Ljava/lang/Object;"⟩, 3), (⟨"PhraseCatalogue", "classOf", "(II)I"⟩, 10), (⟨"PhraseCatalogue", "countForms", "(II)I"⟩, 10), (⟨"PhraseCatalogue", "isFitting", "(ILPhraseCatalogue$Form;)Z"⟩, 10), (⟨"PhraseCatalogue", "sourcePlaceholders", "(I)I"⟩, 10), (⟨"PhraseCatalogue", "findAlongChain", "(IIII)I"⟩, 10), (⟨"PhraseCatalogue", "findInLanguage", "(IIII)I"⟩, 10), (⟨"PhraseCatalogue", "findInClass", "(IIII)I"⟩, 10)]
theorem lw_r1 : ∀ q ∈ lw_privs_1, lw_okq q := List.forall_mem_cons.mpr ⟨lw_p0, List.forall_mem_cons.mpr ⟨lw_p1, List.forall_mem_cons.mpr ⟨lw_p2, List.forall_mem_cons.mpr ⟨lw_p3, List.forall_mem_cons.mpr ⟨lw_p4, List.forall_mem_cons.mpr ⟨lw_p5, List.forall_mem_cons.mpr ⟨lw_p6, List.forall_mem_cons.mpr ⟨lw_p7, List.forall_mem_cons.mpr ⟨lw_p8, List.forall_mem_cons.mpr ⟨lw_p9, List.forall_mem_cons.mpr ⟨lw_p10, List.forall_mem_cons.mpr ⟨lw_p11, List.forall_mem_cons.mpr ⟨lw_p12, List.forall_mem_cons.mpr ⟨lw_p13, List.forall_mem_cons.mpr ⟨lw_p14, List.forall_mem_cons.mpr ⟨lw_p15, fun _ h => absurd h List.not_mem_nil⟩⟩⟩⟩⟩⟩⟩⟩⟩⟩⟩⟩⟩⟩⟩⟩
theorem lw_p16 : lw_okq (⟨"PhraseCatalogue", "findByLooking", "(IIII)I"⟩, 10) := ⟨⟨by decide +kernel, by decide +kernel⟩, List.mem_of_getElem? (i := 21) (by decide +kernel), List.mem_of_getElem? (i := 507) (by decide +kernel), List.mem_of_getElem? (i := 508) (by decide +kernel)⟩
theorem lw_p17 : lw_okq (⟨"PhraseCatalogue", "turnOf", "(IIII)I"⟩, 10) := ⟨⟨by decide +kernel, by decide +kernel⟩, List.mem_of_getElem? (i := 21) (by decide +kernel), List.mem_of_getElem? (i := 511) (by decide +kernel), List.mem_of_getElem? (i := 512) (by decide +kernel)⟩
theorem lw_p18 : lw_okq (⟨"PhraseCatalogue", "findNear", "(LPhraseCatalogue$Form;I)LPhraseCatalogue$Pair;"⟩, 10) := ⟨⟨by decide +kernel, by decide +kernel⟩, List.mem_of_getElem? (i := 21) (by decide +kernel), List.mem_of_getElem? (i := 541) (by decide +kernel), List.mem_of_getElem? (i := 542) (by decide +kernel)⟩
theorem lw_p19 : lw_okq (⟨"PhraseCatalogue", "distance", "(LPhraseCatalogue$Form;LPhraseCatalogue$Form;)I"⟩, 10) := ⟨⟨by decide +kernel, by decide +kernel⟩, List.mem_of_getElem? (i := 21) (by decide +kernel), List.mem_of_getElem? (i := 553) (by decide +kernel), List.mem_of_getElem? (i := 554) (by decide +kernel)⟩
theorem lw_p20 : lw_okq (⟨"PhraseCatalogueModel", "isInChain", "(II)Z"⟩, 21) := ⟨⟨by decide +kernel, by decide +kernel⟩, List.mem_of_getElem? (i := 566) (by decide +kernel), List.mem_of_getElem? (i := 651) (by decide +kernel), List.mem_of_getElem? (i := 652) (by decide +kernel)⟩
theorem lw_p21 : lw_okq (⟨"PhraseCatalogueModel", "goes", "(ZZZ)Z"⟩, 21) := ⟨⟨by decide +kernel, by decide +kernel⟩, List.mem_of_getElem? (i := 566) (by decide +kernel), List.mem_of_getElem? (i := 655) (by decide +kernel), List.mem_of_getElem? (i := 656) (by decide +kernel)⟩
theorem lw_p22 : lw_okq (⟨"PhraseCatalogueModel", "changes", "(III)V"⟩, 21) := ⟨⟨by decide +kernel, by decide +kernel⟩, List.mem_of_getElem? (i := 566) (by decide +kernel), List.mem_of_getElem? (i := 683) (by decide +kernel), List.mem_of_getElem? (i := 684) (by decide +kernel)⟩
theorem lw_p23 : lw_okq (⟨"PhraseCatalogueModel", "keeps", "(II)V"⟩, 21) := ⟨⟨by decide +kernel, by decide +kernel⟩, List.mem_of_getElem? (i := 566) (by decide +kernel), List.mem_of_getElem? (i := 687) (by decide +kernel), List.mem_of_getElem? (i := 688) (by decide +kernel)⟩
theorem lw_p24 : lw_okq (⟨"PhraseCatalogueModel", "forgets", "()V"⟩, 21) := ⟨⟨by decide +kernel, by decide +kernel⟩, List.mem_of_getElem? (i := 566) (by decide +kernel), List.mem_of_getElem? (i := 691) (by decide +kernel), List.mem_of_getElem? (i := 692) (by decide +kernel)⟩
theorem lw_p25 : lw_okq (⟨"PhraseCatalogueModel", "kind", "(II)I"⟩, 21) := ⟨⟨by decide +kernel, by decide +kernel⟩, List.mem_of_getElem? (i := 566) (by decide +kernel), List.mem_of_getElem? (i := 707) (by decide +kernel), List.mem_of_getElem? (i := 708) (by decide +kernel)⟩
theorem lw_p26 : lw_okq (⟨"PhraseCatalogueModel", "count", "(II)I"⟩, 21) := ⟨⟨by decide +kernel, by decide +kernel⟩, List.mem_of_getElem? (i := 566) (by decide +kernel), List.mem_of_getElem? (i := 715) (by decide +kernel), List.mem_of_getElem? (i := 716) (by decide +kernel)⟩
theorem lw_p27 : lw_okq (⟨"PhraseCatalogueModel", "isFit", "(II)Z"⟩, 21) := ⟨⟨by decide +kernel, by decide +kernel⟩, List.mem_of_getElem? (i := 566) (by decide +kernel), List.mem_of_getElem? (i := 735) (by decide +kernel), List.mem_of_getElem? (i := 736) (by decide +kernel)⟩
theorem lw_p28 : lw_okq (⟨"PhraseCatalogueModel", "has", "(II)Z"⟩, 21) := ⟨⟨by decide +kernel, by decide +kernel⟩, List.mem_of_getElem? (i := 566) (by decide +kernel), List.mem_of_getElem? (i := 739) (by decide +kernel), List.mem_of_getElem? (i := 740) (by decide +kernel)⟩
theorem lw_p29 : lw_okq (⟨"PhraseCatalogueModel", "isAsked", "(IIII)Z"⟩, 21) := ⟨⟨by decide +kernel, by decide +kernel⟩, List.mem_of_getElem? (i := 566) (by decide +kernel), List.mem_of_getElem? (i := 747) (by decide +kernel), List.mem_of_getElem? (i := 748) (by decide +kernel)⟩
theorem lw_p30 : lw_okq (⟨"PhraseCatalogueModel", "tells", "(IIII)V"⟩, 21) := ⟨⟨by decide +kernel, by decide +kernel⟩, List.mem_of_getElem? (i := 566) (by decide +kernel), List.mem_of_getElem? (i := 751) (by decide +kernel), List.mem_of_getElem? (i := 752) (by decide +kernel)⟩
theorem lw_p31 : lw_okq (⟨"PhraseCatalogueModel", "near", "(IIII)I"⟩, 21) := ⟨⟨by decide +kernel, by decide +kernel⟩, List.mem_of_getElem? (i := 566) (by decide +kernel), List.mem_of_getElem? (i := 776) (by decide +kernel), List.mem_of_getElem? (i := 777) (by decide +kernel)⟩
def lw_privs_2 : List (MethodName × Nat) := [(⟨"PhraseCatalogue", "findByLooking", "(IIII)I"⟩, 10), (⟨"PhraseCatalogue", "turnOf", "(IIII)I"⟩, 10), (⟨"PhraseCatalogue", "findNear", "(LPhraseCatalogue$Form;I)LPhraseCatalogue$Pair;"⟩, 10), (⟨"PhraseCatalogue", "distance", "(LPhraseCatalogue$Form;LPhraseCatalogue$Form;)I"⟩, 10), (⟨"PhraseCatalogueModel", "isInChain", "(II)Z"⟩, 21), (⟨"PhraseCatalogueModel", "goes", "(ZZZ)Z"⟩, 21), (⟨"PhraseCatalogueModel", "changes", "(III)V"⟩, 21), (⟨"PhraseCatalogueModel", "keeps", "(II)V"⟩, 21), (⟨"PhraseCatalogueModel", "forgets", "()V"⟩, 21), (⟨"PhraseCatalogueModel", "kind", "(II)I"⟩, 21), (⟨"PhraseCatalogueModel", "count", "(II)I"⟩, 21), (⟨"PhraseCatalogueModel", "isFit", "(II)Z"⟩, 21), (⟨"PhraseCatalogueModel", "has", "(II)Z"⟩, 21), (⟨"PhraseCatalogueModel", "isAsked", "(IIII)Z"⟩, 21), (⟨"PhraseCatalogueModel", "tells", "(IIII)V"⟩, 21), (⟨"PhraseCatalogueModel", "near", "(IIII)I"⟩, 21)]
theorem lw_r2 : ∀ q ∈ lw_privs_2, lw_okq q := List.forall_mem_cons.mpr ⟨lw_p16, List.forall_mem_cons.mpr ⟨lw_p17, List.forall_mem_cons.mpr ⟨lw_p18, List.forall_mem_cons.mpr ⟨lw_p19, List.forall_mem_cons.mpr ⟨lw_p20, List.forall_mem_cons.mpr ⟨lw_p21, List.forall_mem_cons.mpr ⟨lw_p22, List.forall_mem_cons.mpr ⟨lw_p23, List.forall_mem_cons.mpr ⟨lw_p24, List.forall_mem_cons.mpr ⟨lw_p25, List.forall_mem_cons.mpr ⟨lw_p26, List.forall_mem_cons.mpr ⟨lw_p27, List.forall_mem_cons.mpr ⟨lw_p28, List.forall_mem_cons.mpr ⟨lw_p29, List.forall_mem_cons.mpr ⟨lw_p30, List.forall_mem_cons.mpr ⟨lw_p31, fun _ h => absurd h List.not_mem_nil⟩⟩⟩⟩⟩⟩⟩⟩⟩⟩⟩⟩⟩⟩⟩⟩
theorem lw_p32 : lw_okq (⟨"PhraseCatalogueModel", "distance", "(II)I"⟩, 21) := ⟨⟨by decide +kernel, by decide +kernel⟩, List.mem_of_getElem? (i := 566) (by decide +kernel), List.mem_of_getElem? (i := 780) (by decide +kernel), List.mem_of_getElem? (i := 781) (by decide +kernel)⟩
def lw_privs_3 : List (MethodName × Nat) := [(⟨"PhraseCatalogueModel", "distance", "(II)I"⟩, 21)]
theorem lw_r3 : ∀ q ∈ lw_privs_3, lw_okq q := List.forall_mem_cons.mpr ⟨lw_p32, fun _ h => absurd h List.not_mem_nil⟩
def lw_privs : List (MethodName × Nat) := lw_privs_1 ++ (lw_privs_2 ++ (lw_privs_3))
def lw_tbl : List Cond := k2_sels lw_privs ++ tables_1
theorem lw_privs_ok : ∀ q ∈ lw_privs, lw_okq q := by
  show ∀ q ∈ lw_privs_1 ++ (lw_privs_2 ++ (lw_privs_3)), lw_okq q
  exact List.forall_mem_append.mpr ⟨lw_r1, List.forall_mem_append.mpr ⟨lw_r2, lw_r3⟩⟩
end
section
/-! ===== BEGIN words of one list among another's, by their places ===== -/
theorem goodIn_r {big : List Cond} (ws : List Cond) (ps : List Nat) (hp : ws = ps.filterMap (fun i => big[i]?)) (h : ws.all goodWord = true) : GoodIn big ws := by
  intro w hw
  have h1 := List.all_eq_true.mp h w hw
  rw [hp] at hw
  obtain ⟨i, -, hi⟩ := List.mem_filterMap.mp hw
  have hm : w ∈ big := by first | exact List.mem_of_getElem? hi | exact List.getElem?_mem hi
  exact ⟨hm, good_of_word h1⟩
theorem goodIn_app {big a b : List Cond} (ha : GoodIn big a) (hb : GoodIn big b) : GoodIn big (a ++ b) := fun w h => (List.mem_append.mp h).elim (ha w) (hb w)
theorem goodIn_ca {big a b : List Cond} {c : Cond} (ha : GoodIn big (c :: a)) (hb : GoodIn big b) : GoodIn big (c :: (a ++ b)) := fun w h => (List.mem_cons.mp h).elim (fun e => ha w (List.mem_cons.mpr (Or.inl e))) (fun h => (List.mem_append.mp h).elim (fun h => ha w (List.mem_cons.mpr (Or.inr h))) (hb w))
theorem goodIn_sub {big ws : List Cond} (hm : ∀ w ∈ ws, w ∈ big) (h : ws.all goodWord = true) : GoodIn big ws := fun w hw => ⟨hm w hw, good_of_word (List.all_eq_true.mp h w hw)⟩
/-! ===== END ===== -/

/-! ===== BEGIN exceptions that leave a method, and their catching by the caller (launches without stack traces) ===== -/
section VXA
/-! The laws vx_back, vx_callV, vx_callS, vx_callSW, vx_throw0, vx_throwS follow proofs of the library, with one case more: JvmDerived/Free/Laws.lean (Back.of_free), Shelf42/LK1.lean (callV, callS), Shelf/KitTraced.lean (throwNew0V, throwNewS). -/
/-- where a method has thrown q: the class by its name, the cell, what was written, the world -/
def vx_T (XC : String → State → State → Prop) (st : State) (q : Addr) (t : State) (mc ms : Nat) (free : Addr → Prop) : Prop :=
  ∃ (E : String) (ce : Cell) (L : List Loc), XC E st t ∧ t.heap[q]? = some ce ∧ ce.vm = .none ∧ st.vm.findClass E = some ce.cls ∧ st.WarmedH t.vm ∧ st.sameButNew ({ t with vm := st.vm } : State) L mc ms ∧ ∀ z ∈ L, free z.base
def vx_Q (Qc : Array Value → State → Outcome → State → Prop) (XC : String → State → State → Prop) (mc ms : Nat) (free : Addr → Prop) : Array Value → State → Outcome → State → Prop := fun a st o t =>
  (Qc a st o t ∧ ∃ L, FrameEnd st o t L mc ms ∧ ∀ q ∈ L, free q.base) ∨ ∃ q, o = .threw q ∧ vx_T XC st q t mc ms free
/-- a callee that returns or throws -/
def vx_Met (l : Launch) (y : MethodName) (ws : List Cond) (rm : Room) (Pc : Array Value → State → Prop) (Qc : Array Value → State → Outcome → State → Prop) (XC : String → State → State → Prop) (mc ms : Nat) (free : Addr → Prop) : Prop :=
  MetFree l y (headSpec ws rm) Pc (fun _ _ _ _ _ => True) (vx_Q Qc XC mc ms free)
def vx_Post (XC : String → State → State → Prop) (mc ms : Nat) (free : Addr → Prop) : Pt → Array Value → Addr → Pt → Prop := fun A a q B =>
  ∃ (g : JFrame) (mk : MethodId) (t : State) (L : List Loc) (E : String) (ce : Cell), B.U.heap = t.heap ∧ B.U.vm = t.vm ∧ XC E (A.U.calling g mk a) t ∧ t.heap[q]? = some ce ∧ ce.vm = .none ∧ A.U.vm.findClass E = some ce.cls ∧ B.locs = A.locs ++ L ∧ (∀ z ∈ L, free z.base) ∧ B.cells = A.cells + mc ∧ B.slots = A.slots + ms
def vx_Back (l : Launch) (R : Room) (p : Program) (e : Env) (below : List Frame) (s : State) (sargs : Array Value) (y : MethodName) (len W9 : Nat)
    (Pre : Pt → Array Value → Prop) (Post : Pt → Array Value → Option Value → Pt → Prop) (PostX : Pt → Array Value → Addr → Pt → Prop) : Prop :=
  ∀ (m : MethodId) (meth : Method) (c : Code) (A : Pt) (g : JFrame) (ig : Instr) (mk : MethodId) (a : Array Value),
    Stand p l e R s m sargs below meth c A.U A.locs A.cells A.slots → g.method = m → g.locals.size = c.maxLocals → decode c.code g.pc = .ok (ig, len) →
    2 * g.monitorRoom + (g.stack.map fun v => v.category).sum ≤ W9 → A.U.methodNamed? y = some mk → Pre A a →
    (∃ (v : Option Value) (B : Pt), Stand p l e R s m sargs below meth c B.U B.locs B.cells B.slots ∧ Post A a v B ∧
      Steps p.tables e below (doInvoke e (A.U.setTop g) [] mk a).1 (B.U.setTop { g with pc := g.pc + len, stack := v.toList ++ g.stack })) ∨
    (∃ (q : Addr) (B : Pt), Stand p l e R s m sargs below meth c B.U B.locs B.cells B.slots ∧ PostX A a q B ∧
      Steps p.tables e below (doInvoke e (A.U.setTop g) [] mk a).1 ((B.U.setTop g).pushFrame (.throwing q)))
section Payer
variable {l : Launch} {R : Room} {p : Program} {e : Env} {below : List Frame} {s : State} {sargs : Array Value} {y : MethodName} {len W9 : Nat}
theorem vx_back {ws : List Cond} {rm : Room} {Pc : Array Value → State → Prop} {Qc : Array Value → State → Outcome → State → Prop} {XC : String → State → State → Prop} {mc ms : Nat} {free : Addr → Prop} {bytes : ByteArray} {maxL : Nat} {ret : Option FieldType}
    (hM : vx_Met l y ws rm Pc Qc XC mc ms free) (hblind : FrameBlind Pc) (hrc : rm.cells = mc) (hrs : rm.slots = ms)
    (hframes : rm.frames + 1 ≤ R.frames) (hlocals : W9 + (maxL + 11) + rm.locals ≤ R.locals)
    (hws : ∀ w ∈ ws, ∀ a' U, s.WarmedH U.vm → w.before a' U = true) (hcode : Cond.code y bytes maxL ret ∈ ws) (hinit : ∀ a' U, s.WarmedH U.vm → (Cond.initialized y.cls).before a' U = true) :
    vx_Back l R p e below s sargs y len W9 (PreOf R mc ms Pc) (PostOf Qc mc ms free) (vx_Post XC mc ms free) := by
  intro m meth c A g ig mk a X hg hsize hdg hW hn hp
  have h1 : (headSpec ws rm).pre.before a A.U = true := atoms_intro fun w hw => hws w hw _ _ X.warmed
  have h2 : (Cond.code y bytes maxL ret).before a A.U = true := hws _ hcode _ _ X.warmed
  have h3 : (Cond.initialized y.cls).before a A.U = true := hinit _ _ X.warmed
  have h4 : A.cells + (headSpec ws rm).room.cells ≤ R.cells := by rw [show (headSpec ws rm).room.cells = mc from hrc]; exact hp.1
  have h5 : A.slots + (headSpec ws rm).room.slots ≤ R.slots := by rw [show (headSpec ws rm).room.slots = ms from hrs]; exact hp.2.1
  have hPc : Pc a (A.U.calling g mk a) := hblind _ _ _ _ hp.2.2
  obtain ⟨U, Ls, c0, s0⟩ := A
  dsimp only [Pt.U, Pt.locs, Pt.cells, Pt.slots] at h1 h2 h3 h4 h5 X hn hPc ⊢
  obtain ⟨methY, cY, hmY, hcY, -, hlY, -, -, -, -⟩ := Cond.code_spec hn h2
  obtain ⟨kY, hkY, -⟩ := className_of_methodNamed hn
  have hinitY : kY.init = .initialized := Cond.initialized_spec (findClass_of_methodNamed hn) hkY h3
  have h : At U g.method c below := by rw [hg]; exact X.here
  have hlocals9 : W9 + (maxL + 11) + (headSpec ws rm).room.locals ≤ R.locals := hlocals
  have happ : (headSpec ws rm).appliesLoose y e.platform (U.calling g mk a) = true :=
    Spec.appliesLoose_calling (g := g) h hdg hn hkY hinitY
      (X.room_calling (g := g) (R' := (headSpec ws rm).room) hsize hmY hcY hframes (by rw [hlY]; omega) h4 h5) h1
  obtain ⟨mid, hmid⟩ := h.above
  have hfr : (U.setTop g).frames = (.java g :: mid) ++ below := by rw [State.frames_setTop' g h.top, hmid]; rfl
  obtain ⟨o, s₂, hsteps, -, hend, hq⟩ := Steps.callFree hM p X.admits X.cas X.clock (acts := []) hfr happ hPc trivial
  have hq' : vx_Q Qc XC mc ms free a (U.calling g mk a) o s₂ := hq
  rw [State.frames_setTop' g h.top] at hend
  obtain ⟨g₀, hg0⟩ := Option.isSome_iff_exists.mp h.top
  obtain ⟨r, hr⟩ := State.topJava?_eq_some.mp hg0
  have hr' : (({ U with heap := s₂.heap, slotsUsed := s₂.slotsUsed } : State).setVm s₂.vm).frames = .java g₀ :: r := hr
  rcases hq' with ⟨hqc, L, hfe, hL⟩ | ⟨q, rfl, E, ce, L, hx, hce, hcv, hcl, hW₂, hsm, hL⟩
  · obtain ⟨⟨v, rfl⟩, hW₂, e2, q2, q3, q4, q5, q6⟩ := id hfe
    have e3 : s₂ = ({ (U.calling g mk a).setFrames s₂.frames with heap := s₂.heap, slotsUsed := s₂.slotsUsed } : State).setVm s₂.vm := by
      have : s₂ = ({ s₂ with vm := (U.calling g mk a).vm } : State).setVm s₂.vm := rfl
      rw [e2] at this
      exact this
    obtain ⟨c₂, i₂, len₂, hc₂, hd₂, hf₂⟩ := hend
    have hW' : U.WarmedH s₂.vm := hW₂
    have hcc : c₂ = c := by
      have h1 : s₂.code? g.method = U.code? g.method := by
        rw [State.code?_eq, State.code?_eq, hW'.alike.method?]
      exact Option.some.inj (hc₂.symm.trans (h1.trans h.code))
    subst hcc
    have hlen : len₂ = len := by rw [hdg] at hd₂; cases hd₂; rfl
    subst hlen
    have hs₂ : s₂ = (({ U with heap := s₂.heap, slotsUsed := s₂.slotsUsed } : State).setVm s₂.vm).setTop { g with pc := g.pc + len₂, stack := v.toList ++ g.stack } := by
      refine e3.trans ?_
      rw [hf₂, State.calling_eq h.top, State.setFrames_setFrames, State.setTop_of_frames _ hr', hr]
      rfl
    have hsame : U.sameButNew ({ U with heap := s₂.heap, slotsUsed := s₂.slotsUsed } : State) L mc ms := by
      refine ⟨?_, q2, q3, q4, q5, q6⟩
      obtain ⟨t, ht, -⟩ := State.frames_cons hr
      show ({ U with heap := s₂.heap, slotsUsed := s₂.slotsUsed } : State) = { U.setFrames U.frames with heap := s₂.heap, slotsUsed := s₂.slotsUsed }
      rw [State.setFrames_self ht]
    subst hg
    refine Or.inl ⟨v, ⟨(({ U with heap := s₂.heap, slotsUsed := s₂.slotsUsed } : State).setVm s₂.vm), Ls ++ L, c0 + mc, s0 + ms⟩,
      ⟨X.admits, X.cas, X.clock, X.frames, X.room, X.hears, X.method, X.code, (X.here.setHeapUsed s₂.heap s₂.slotsUsed).setVm hW'.alike, X.tail, State.WarmedH.trans X.warmed hW', X.limits, X.bytes, X.same.trans (hsame.setVm s.vm)⟩,
      ⟨g, mk, s₂, L, rfl, rfl, hqc, rfl, hL, rfl, rfl⟩, ?_⟩
    show Steps p.tables e below _ ((({ U with heap := s₂.heap, slotsUsed := s₂.slotsUsed } : State).setVm s₂.vm).setTop { g with pc := g.pc + len₂, stack := v.toList ++ g.stack })
    rw [← hs₂]
    exact hsteps
  · obtain ⟨e2, q2, q3, q4, q5, q6⟩ := id hsm
    have e3 : s₂ = ({ (U.calling g mk a).setFrames s₂.frames with heap := s₂.heap, slotsUsed := s₂.slotsUsed } : State).setVm s₂.vm := by
      have : s₂ = ({ s₂ with vm := (U.calling g mk a).vm } : State).setVm s₂.vm := rfl
      rw [e2] at this
      exact this
    have hf₂ : s₂.frames = .throwing q :: .java g :: U.frames.tail := hend
    have hW' : U.WarmedH s₂.vm := hW₂
    have hs₂ : s₂ = ((({ U with heap := s₂.heap, slotsUsed := s₂.slotsUsed } : State).setVm s₂.vm).setTop g).pushFrame (.throwing q) := by
      refine e3.trans ?_
      rw [hf₂, State.calling_eq h.top, State.setFrames_setFrames, State.pushFrame, State.frames_setTop _ hr', State.setTop_of_frames _ hr', State.setFrames_setFrames, hr]
      rfl
    have hsame : U.sameButNew ({ U with heap := s₂.heap, slotsUsed := s₂.slotsUsed } : State) L mc ms := by
      refine ⟨?_, q2, q3, q4, q5, q6⟩
      obtain ⟨t, ht, -⟩ := State.frames_cons hr
      show ({ U with heap := s₂.heap, slotsUsed := s₂.slotsUsed } : State) = { U.setFrames U.frames with heap := s₂.heap, slotsUsed := s₂.slotsUsed }
      rw [State.setFrames_self ht]
    subst hg
    refine Or.inr ⟨q, ⟨(({ U with heap := s₂.heap, slotsUsed := s₂.slotsUsed } : State).setVm s₂.vm), Ls ++ L, c0 + mc, s0 + ms⟩,
      ⟨X.admits, X.cas, X.clock, X.frames, X.room, X.hears, X.method, X.code, (X.here.setHeapUsed s₂.heap s₂.slotsUsed).setVm hW'.alike, X.tail, State.WarmedH.trans X.warmed hW', X.limits, X.bytes, X.same.trans (hsame.setVm s.vm)⟩,
      ⟨g, mk, s₂, L, E, ce, rfl, rfl, hx, hce, hcv, hcl, rfl, hL, rfl, rfl⟩, ?_⟩
    show Steps p.tables e below _ (((({ U with heap := s₂.heap, slotsUsed := s₂.slotsUsed } : State).setVm s₂.vm).setTop g).pushFrame (.throwing q))
    rw [← hs₂]
    exact hsteps
end Payer
section Calls
variable {p : Program} {l : Launch} {e : Env} {R : Room} {s : State} {m : MethodId} {args : Array Value} {below : List Frame} {meth : Method} {c : Code} {T : State} {locs : List Loc} {cells slots : Nat}
theorem vx_callV (X : Stand p l e R s m args below meth c T locs cells slots) (hexec : p.tables.exec = Jvm.exec) {own C : String} {index : Nat} {y : MethodName} {bytes : ByteArray} {maxL : Nat} {ret : Option FieldType}
    (hown : s.vm.findClass own = some m.cls) (hlink : (Cond.methodLink own index y).before args s = true) (hinst : (Cond.instanceMethod y).before args s = true) (hsel : (Cond.selects C y y).before args s = true)
    (hcode : (Cond.code y bytes maxL ret).before args s = true) (hy : y.cls ≠ "java/lang/invoke/MethodHandle" ∧ y.cls ≠ "java/lang/invoke/VarHandle")
    {W9 : Nat} {Pre : Pt → Array Value → Prop} {Post : Pt → Array Value → Option Value → Pt → Prop} {PostX : Pt → Array Value → Addr → Pt → Prop} (hK : vx_Back l R p e below s args y 3 W9 Pre Post PostX)
    {b : Addr} {cellB : Cell} (hcell : T.heap[b]? = some cellB) (hobj : cellB.vm.isStatics = false) (hcls : s.vm.findClass C = some cellB.cls)
    {g : JFrame} (hg : g.method = m) (hsize : g.locals.size = c.maxLocals) {argsL rest : List Value} (hlen : ∀ sig, parseMethodDescriptor y.desc = some sig → argsL.length = sig.parameters.length)
    (hstack : g.stack = argsL.reverse ++ .ref b :: rest) (hW : 2 * g.monitorRoom + (rest.map fun v => v.category).sum ≤ W9) (hdg : decode c.code g.pc = .ok (.invokevirtual index, 3))
    (hpre : ∀ vm₁, s.WarmedH vm₁ → Pre ⟨T.setVm vm₁, locs, cells, slots⟩ (Value.ref b :: argsL).toArray) :
    (∃ (v : Option Value) (vm₁ : Vm) (B : Pt), s.WarmedH vm₁ ∧ Stand p l e R s m args below meth c B.U B.locs B.cells B.slots ∧ Post ⟨T.setVm vm₁, locs, cells, slots⟩ (Value.ref b :: argsL).toArray v B ∧
      ∀ target, Steps p.tables e below (B.U.setTop { g with pc := g.pc + 3, stack := v.toList ++ rest }) target → Steps p.tables e below (T.setTop g) target) ∨
    (∃ (q : Addr) (vm₁ : Vm) (B : Pt), s.WarmedH vm₁ ∧ Stand p l e R s m args below meth c B.U B.locs B.cells B.slots ∧ PostX ⟨T.setVm vm₁, locs, cells, slots⟩ (Value.ref b :: argsL).toArray q B ∧
      Steps p.tables e below (T.setTop g) ((B.U.setTop { g with stack := rest }).pushFrame (.throwing q))) := by
  obtain ⟨mk, methM, hnamed, hmethM, hstM, habM⟩ := Cond.instanceMethod_spec hinst
  obtain ⟨methM', cM, hmethM', -, -, -, -, -, -, hsigM⟩ := Cond.code_spec hnamed hcode
  cases hmethM.symm.trans hmethM'
  obtain ⟨c2, r2, m2, q1, q2, q3, q4, kP, hkP, hkPi⟩ := Cond.selects_spec hsel
  cases hcls.symm.trans q1
  cases (State.methodFound?_of_named hnamed hy).symm.trans q2
  cases hnamed.symm.trans q3
  have hselP : selectMethod e.platform s.vm cellB.cls mk = .method mk := by rw [Launch.admits_selectMethod X.admits]; exact q4
  obtain ⟨vm₁, X₁, hstep₁⟩ := X.invokevirtual hexec hown hlink hnamed hmethM hstM hkP hkPi hy (a := b) (cell := cellB) hcell
    (fun z h => by rw [h] at hobj; cases hobj) hselP hmethM habM hkP hkPi (g := g) hg (argsL := argsL) (rest := rest) (hlen _ hsigM) hstack hdg
  rcases hK m meth c ⟨T.setVm vm₁, locs, cells, slots⟩ { g with stack := rest } (.invokevirtual index) mk (Value.ref b :: argsL).toArray X₁ hg hsize hdg hW (X₁.named hnamed) (hpre vm₁ X₁.warmed) with ⟨v, B, X', hpost, hsteps⟩ | ⟨q, B, X', hpost, hsteps⟩
  · exact Or.inl ⟨v, vm₁, B, X₁.warmed, X', hpost, fun target h => hstep₁ _ fun acts => by rw [doInvoke_state]; exact hsteps.trans h⟩
  · exact Or.inr ⟨q, vm₁, B, X₁.warmed, X', hpost, hstep₁ _ fun acts => by rw [doInvoke_state]; exact hsteps⟩
theorem vx_callS (X : Stand p l e R s m args below meth c T locs cells slots) (hexec : p.tables.exec = Jvm.exec) {own : String} {index : Nat} {y : MethodName} {bytes : ByteArray} {maxL : Nat} {ret : Option FieldType}
    (hown : s.vm.findClass own = some m.cls) (hlink : (Cond.methodLink own index y).before args s = true) (hstat : (Cond.static y).before args s = true) (hinit : (Cond.initialized y.cls).before args s = true)
    (hcode : (Cond.code y bytes maxL ret).before args s = true) (hy : y.cls ≠ "java/lang/invoke/MethodHandle" ∧ y.cls ≠ "java/lang/invoke/VarHandle")
    {W9 : Nat} {Pre : Pt → Array Value → Prop} {Post : Pt → Array Value → Option Value → Pt → Prop} {PostX : Pt → Array Value → Addr → Pt → Prop} (hK : vx_Back l R p e below s args y 3 W9 Pre Post PostX)
    {g : JFrame} (hg : g.method = m) (hsize : g.locals.size = c.maxLocals) {argsL rest : List Value} (hlen : ∀ sig, parseMethodDescriptor y.desc = some sig → argsL.length = sig.parameters.length)
    (hstack : g.stack = argsL.reverse ++ rest) (hW : 2 * g.monitorRoom + (rest.map fun v => v.category).sum ≤ W9) (hdg : decode c.code g.pc = .ok (.invokestatic index, 3))
    (hpre : ∀ vm₁, s.WarmedH vm₁ → Pre ⟨T.setVm vm₁, locs, cells, slots⟩ argsL.toArray) :
    (∃ (v : Option Value) (vm₁ : Vm) (B : Pt), s.WarmedH vm₁ ∧ Stand p l e R s m args below meth c B.U B.locs B.cells B.slots ∧ Post ⟨T.setVm vm₁, locs, cells, slots⟩ argsL.toArray v B ∧
      ∀ target, Steps p.tables e below (B.U.setTop { g with pc := g.pc + 3, stack := v.toList ++ rest }) target → Steps p.tables e below (T.setTop g) target) ∨
    (∃ (q : Addr) (vm₁ : Vm) (B : Pt), s.WarmedH vm₁ ∧ Stand p l e R s m args below meth c B.U B.locs B.cells B.slots ∧ PostX ⟨T.setVm vm₁, locs, cells, slots⟩ argsL.toArray q B ∧
      Steps p.tables e below (T.setTop g) ((B.U.setTop { g with stack := rest }).pushFrame (.throwing q))) := by
  obtain ⟨mk, hnamed⟩ := Cond.code_named hcode
  obtain ⟨methM, cM, hmethM, -, -, -, -, -, -, hsigM⟩ := Cond.code_spec hnamed hcode
  have hstatic : methM.isStatic = true := Cond.static_spec hnamed hmethM hstat
  obtain ⟨kP, hkP, -⟩ := className_of_methodNamed hnamed
  have hinitP : kP.init = .initialized := Cond.initialized_spec (findClass_of_methodNamed hnamed) hkP hinit
  obtain ⟨vm₁, X₁, hstep₁⟩ := X.invokestatic hexec hown hlink hnamed hmethM hstatic hkP hinitP hy (g := g) hg (argsL := argsL) (rest := rest) (hlen _ hsigM) hstack hdg
  rcases hK m meth c ⟨T.setVm vm₁, locs, cells, slots⟩ { g with stack := rest } (.invokestatic index) mk argsL.toArray X₁ hg hsize hdg hW (X₁.named hnamed) (hpre vm₁ X₁.warmed) with ⟨v, B, X', hpost, hsteps⟩ | ⟨q, B, X', hpost, hsteps⟩
  · exact Or.inl ⟨v, vm₁, B, X₁.warmed, X', hpost, fun target h => hstep₁ _ fun acts => by rw [doInvoke_state]; exact hsteps.trans h⟩
  · exact Or.inr ⟨q, vm₁, B, X₁.warmed, X', hpost, hstep₁ _ fun acts => by rw [doInvoke_state]; exact hsteps⟩
end Calls
theorem vx_cls {s : State} {T : State} {vm₁ : Vm} {E : String} {k : ClassId} (hW : s.WarmedH vm₁) (h : (T.setVm vm₁).vm.findClass E = some k) : s.vm.findClass E = some k := by
  have h1 : vm₁.findClass E = some k := h
  rw [hW.alike.findClass] at h1
  exact h1
/-- the method's frame g, with q thrown over it -/
def vx_W (p : Program) (l : Launch) (e : Env) (R : Room) (s : State) (m : MethodId) (args : Array Value) (below : List Frame) (meth : Method) (c : Code) (H : Heap) (locs : List Loc) (cells slots : Nat) (Q : State → Prop) (g : JFrame) (q : Addr) : Prop :=
  ∀ T : State, T.heap = H → Stand p l e R s m args below meth c T locs cells slots → ∃ t, Steps p.tables e below ((T.setTop g).pushFrame (.throwing q)) t ∧ Q t
def vx_Run (p : Program) (l : Launch) (e : Env) (R : Room) (s : State) (m : MethodId) (args : Array Value) (below : List Frame) (meth : Method) (c : Code) (H : Heap) (locs : List Loc) (cells slots mc ms : Nat) (g : JFrame) (rest : List Value) (Qa : State → Outcome → State → Prop) (XC : String → State → State → Prop) (free : Addr → Prop) : Prop :=
  ∀ T : State, T.heap = H → Stand p l e R s m args below meth c T locs cells slots →
    (∃ (v : Option Value) (st₀ t T' : State) (L : List Loc), st₀.heap = H ∧ Stand p l e R s m args below meth c T' (locs ++ L) (cells + mc) (slots + ms) ∧ (∀ q ∈ L, free q.base) ∧ T'.heap = t.heap ∧ T'.vm = t.vm ∧ Qa st₀ (.returned v) t ∧
      Goes p e below T g T' { g with pc := g.pc + 3, stack := v.toList ++ rest }) ∨
    (∃ (q : Addr) (st₀ t T' : State) (L : List Loc) (E : String) (ce : Cell), st₀.heap = H ∧ Stand p l e R s m args below meth c T' (locs ++ L) (cells + mc) (slots + ms) ∧ (∀ z ∈ L, free z.base) ∧ T'.heap = t.heap ∧ T'.vm = t.vm ∧ XC E st₀ t ∧ t.heap[q]? = some ce ∧ ce.vm = .none ∧ s.vm.findClass E = some ce.cls ∧
      Steps p.tables e below (T.setTop g) ((T'.setTop { g with stack := rest }).pushFrame (.throwing q)))
def vx_X {S : Type} (px : S → Prop) (B : String → S → State → Prop) (A : Nat → Prop) : String → State → State → Prop := fun E st t => ∃ u : S, px u ∧ B E u t ∧ va_F A st t
section Runs
variable {p : Program} {l : Launch} {e : Env} {R : Room} {s : State} {m : MethodId} {args : Array Value} {below : List Frame} {meth : Method} {c : Code} {H : Heap} {locs : List Loc} {cells slots : Nat}
variable {y : MethodName} {bytes cc : ByteArray} {maxL nL mc ms n index : Nat} {ret : Option FieldType} {ws : List Cond} {rm : Room} {Pc : Array Value → State → Prop} {Qc : Array Value → State → Outcome → State → Prop} {XC : String → State → State → Prop} {free : Addr → Prop} {Ts : List Cond} {own C : String} {b : Addr} {As rest : List Value} {g : JFrame}
theorem vx_callBack (cb : CallB R s args own index y bytes maxL ret ws rm mc ms n) (hM : vx_Met l y ws rm Pc Qc XC mc ms free) (hbl : FrameBlind Pc) : vx_Back l R p e below s args y 3 8 (PreOf R mc ms Pc) (PostOf Qc mc ms free) (vx_Post XC mc ms free) := by
  obtain ⟨hrc, hrs, hfr, hlo, hws, hcw, -, hini, -⟩ := cb
  exact vx_back (bytes := bytes) (maxL := maxL) (ret := ret) hM hbl hrc hrs hfr hlo hws hcw (fun a' U hW => word_at hW (Or.inl (by first | rfl | simp [Cond.onTables, Cond.keeps, Cond.steady])) hini)
theorem vx_runV (S : CallFix p m c cc nL s args Ts own) (hM : vx_Met l y ws rm Pc Qc XC mc ms free) (cw : CallW R s args own C index y bytes maxL ret ws rm mc ms n) (hp : PreV s H C b Pc As)
    (hg : g.method = m) (hn : As.length = n) (hsize : g.locals.size = nL) (hstack : g.stack = As.reverse ++ .ref b :: rest) (hW : 2 * g.monitorRoom + (rest.map fun v => v.category).sum ≤ 8) (hdg : decode cc g.pc = .ok (.invokevirtual index, 3)) (hf : cells + mc ≤ R.cells ∧ slots + ms ≤ R.slots) :
    vx_Run p l e R s m args below meth c H locs cells slots mc ms g rest (Qc (Value.ref b :: As).toArray) XC free := by
  have hK : vx_Back l R p e below s args y 3 8 (PreOf R mc ms Pc) (PostOf Qc mc ms free) (vx_Post XC mc ms free) := vx_callBack cw.1 hM hp.1
  obtain ⟨⟨-, -, -, -, -, -, hcode, -, hy, hlen, hl⟩, hin, hse⟩ := cw
  obtain ⟨hx, hb, hml, ho, -⟩ := S
  obtain ⟨-, ⟨cellB, hcB, hoB, hclB⟩, hPc⟩ := hp
  intro T hT X
  rcases vx_callV X hx (C := C) (bytes := bytes) (maxL := maxL) (ret := ret) ho hl hin hse hcode hy hK (by rw [hT]; exact hcB) hoB hclB hg (hsize.trans hml.symm) (argsL := As) (rest := rest) (fun sig h => hn.trans (hlen sig h)) hstack hW (by rw [hb]; exact hdg)
    (fun vm₁ hW₁ => ⟨hf.1, hf.2, hPc (T.setVm vm₁) hT hW₁⟩) with ⟨v, vm₁, ⟨U', l2, c2, s2⟩, hW₁, X', ⟨g', mk, t, L, e1, e2, hq, h1, hL, h2, h3⟩, st⟩ | ⟨q, vm₁, ⟨U', l2, c2, s2⟩, hW₁, X', ⟨g', mk, t, L, E, ce, e1, e2, hq, hce, hcv, hcl, h1, hL, h2, h3⟩, st⟩
  · dsimp only [Pt.U, Pt.locs, Pt.cells, Pt.slots] at X' e1 e2 h1 h2 h3 st
    subst h1; subst h2; subst h3
    exact Or.inl ⟨v, (T.setVm vm₁).calling g' mk (Value.ref b :: As).toArray, t, U', L, hT, X', hL, e1, e2, hq, st⟩
  · dsimp only [Pt.U, Pt.locs, Pt.cells, Pt.slots] at X' e1 e2 h1 h2 h3 st hcl
    subst h1; subst h2; subst h3
    exact Or.inr ⟨q, (T.setVm vm₁).calling g' mk (Value.ref b :: As).toArray, t, U', L, E, ce, hT, X', hL, e1, e2, hq, hce, hcv, vx_cls hW₁ hcl, st⟩
theorem vx_runS (S : CallFix p m c cc nL s args Ts own) (hM : vx_Met l y ws rm Pc Qc XC mc ms free) (cw : CallB R s args own index y bytes maxL ret ws rm mc ms n ∧ (Cond.static y).before args s = true) (hp : PreS s H Pc As)
    (hg : g.method = m) (hn : As.length = n) (hsize : g.locals.size = nL) (hstack : g.stack = As.reverse ++ rest) (hW : 2 * g.monitorRoom + (rest.map fun v => v.category).sum ≤ 8) (hdg : decode cc g.pc = .ok (.invokestatic index, 3)) (hf : cells + mc ≤ R.cells ∧ slots + ms ≤ R.slots) :
    vx_Run p l e R s m args below meth c H locs cells slots mc ms g rest (Qc As.toArray) XC free := by
  have hK : vx_Back l R p e below s args y 3 8 (PreOf R mc ms Pc) (PostOf Qc mc ms free) (vx_Post XC mc ms free) := vx_callBack cw.1 hM hp.1
  obtain ⟨⟨-, -, -, -, -, -, hcode, hini, hy, hlen, hl⟩, hstt⟩ := cw
  obtain ⟨hx, hb, hml, ho, -⟩ := S
  intro T hT X
  rcases vx_callS X hx (bytes := bytes) (maxL := maxL) (ret := ret) ho hl hstt hini hcode hy hK hg (hsize.trans hml.symm) (argsL := As) (rest := rest) (fun sig h => hn.trans (hlen sig h)) hstack hW (by rw [hb]; exact hdg)
    (fun vm₁ hW₁ => ⟨hf.1, hf.2, hp.2 (T.setVm vm₁) hT hW₁⟩) with ⟨v, vm₁, ⟨U', l2, c2, s2⟩, hW₁, X', ⟨g', mk, t, L, e1, e2, hq, h1, hL, h2, h3⟩, st⟩ | ⟨q, vm₁, ⟨U', l2, c2, s2⟩, hW₁, X', ⟨g', mk, t, L, E, ce, e1, e2, hq, hce, hcv, hcl, h1, hL, h2, h3⟩, st⟩
  · dsimp only [Pt.U, Pt.locs, Pt.cells, Pt.slots] at X' e1 e2 h1 h2 h3 st
    subst h1; subst h2; subst h3
    exact Or.inl ⟨v, (T.setVm vm₁).calling g' mk As.toArray, t, U', L, hT, X', hL, e1, e2, hq, st⟩
  · dsimp only [Pt.U, Pt.locs, Pt.cells, Pt.slots] at X' e1 e2 h1 h2 h3 st hcl
    subst h1; subst h2; subst h3
    exact Or.inr ⟨q, (T.setVm vm₁).calling g' mk As.toArray, t, U', L, E, ce, hT, X', hL, e1, e2, hq, hce, hcv, vx_cls hW₁ hcl, st⟩
end Runs
section Rows
variable {p : Program} {l : Launch} {e : Env} {R : Room} {s : State} {m : MethodId} {args : Array Value} {below : List Frame} {meth : Method} {c : Code} {H : Heap} {locs : List Loc} {cells slots : Nat} {Q : State → Prop}
variable {mc ms : Nat} {free : Addr → Prop} {A0 A1 : Nat → Prop} {H0 : Heap} {a : Array Value} {pc : Nat} {ls : Array Slot} {st0 rest : List Value}
theorem vx_keep {st₀ t T' : State} {L : List Loc} (h0 : st₀.heap = H) (e1 : T'.heap = t.heap) (hS : va_S A0 H0 H locs) (hA : ∀ q, q < H.size → A1 q → A0 q) (hf : ∀ q, free q → A0 q) (hL : ∀ q ∈ L, free q.base) (hF : va_F A1 st₀ t) :
    H.size ≤ T'.heap.size ∧ (∀ q : Nat, q < H.size → ¬ A1 q → T'.heap[q]? = H[q]?) ∧ va_S A0 H0 T'.heap (locs ++ L) := by
  obtain ⟨hz, hk⟩ := hF
  rw [h0] at hz hk
  exact ⟨by rw [e1]; exact hz, fun q h1 h2 => by rw [e1]; exact hk q h1 h2,
    ⟨Nat.le_trans hS.1 (by rw [e1]; exact hz), fun q h1 h2 => by rw [e1, hk q (Nat.lt_of_lt_of_le h1 hS.1) (fun z => h2 (hA q (Nat.lt_of_lt_of_le h1 hS.1) z))]; exact hS.2.1 q h1 h2, fun q hq => by
      rcases List.mem_append.mp hq with h | h
      · exact hS.2.2 q h
      · exact hf _ (hL q h)⟩⟩
theorem vx_calli {S SX : Type} {post : Int32 → S → Prop} {px : SX → Prop} {B : S → State → Prop} {BX : String → SX → State → Prop} {AX : Nat → Prop} (hr : vx_Run p l e R s m args below meth c H locs cells slots mc ms (F0 m pc ls st0) rest (va_Qi post B A1 a) (vx_X px BX AX) free) (hS : va_S A0 H0 H locs) (hA : ∀ q, q < H.size → A1 q → A0 q) (hf : ∀ q, free q → A0 q) (hAX : ∀ q, q < H.size → AX q → A0 q)
    (kx : ∀ (E : String) (ce : Cell) (q9 : Addr) (u : SX) (t : State) (H1 : Heap) (locs1 : List Loc), t.heap = H1 → s.vm.Alike t.vm → px u → BX E u t → H.size ≤ H1.size → (∀ q : Nat, q < H.size → ¬ AX q → H1[q]? = H[q]?) → va_S A0 H0 H1 locs1 → H1[q9]? = some ce → ce.vm = .none → s.vm.findClass E = some ce.cls → vx_W p l e R s m args below meth c H1 locs1 (cells + mc) (slots + ms) Q (F0 m pc ls rest) q9)
    (kk : ∀ (r : Int32) (u : S) (t : State) (H1 : Heap) (locs1 : List Loc), t.heap = H1 → s.vm.Alike t.vm → post r u → B u t → H.size ≤ H1.size → (∀ q : Nat, q < H.size → ¬ A1 q → H1[q]? = H[q]?) → va_S A0 H0 H1 locs1 → W p l e R s m args below meth c H1 locs1 (cells + mc) (slots + ms) Q (F0 m (pc + 3) ls (.int r :: rest))) : W p l e R s m args below meth c H locs cells slots Q (F0 m pc ls st0) := by
  intro T hT X
  rcases hr T hT X with ⟨v, st₀, t, T', L, h0, X', hL, e1, e2, ⟨⟨r, u, hv, hp, hb⟩, hF⟩, st⟩ | ⟨q, st₀, t, T', L, E, ce, h0, X', hL, e1, e2, ⟨u, hp, hb, hF⟩, hce, hcv, hcl, st⟩
  · cases hv
    obtain ⟨k1, k2, k3⟩ := vx_keep h0 e1 hS hA hf hL hF
    obtain ⟨t2, a1, b1⟩ := kk r u t T'.heap (locs ++ L) e1.symm (by rw [← e2]; exact X'.warmed.alike) hp hb k1 k2 k3 T' rfl X'
    exact ⟨t2, st t2 a1, b1⟩
  · obtain ⟨k1, k2, k3⟩ := vx_keep h0 e1 hS hAX hf hL hF
    obtain ⟨t2, a1, b1⟩ := kx E ce q u t T'.heap (locs ++ L) e1.symm (by rw [← e2]; exact X'.warmed.alike) hp hb k1 k2 k3 (by rw [e1]; exact hce) hcv hcl T' rfl X'
    exact ⟨t2, st.trans a1, b1⟩
theorem vx_calll {S SX : Type} {post : Int64 → S → Prop} {px : SX → Prop} {B : S → State → Prop} {BX : String → SX → State → Prop} {AX : Nat → Prop} (hr : vx_Run p l e R s m args below meth c H locs cells slots mc ms (F0 m pc ls st0) rest (va_Ql post B A1 a) (vx_X px BX AX) free) (hS : va_S A0 H0 H locs) (hA : ∀ q, q < H.size → A1 q → A0 q) (hf : ∀ q, free q → A0 q) (hAX : ∀ q, q < H.size → AX q → A0 q)
    (kx : ∀ (E : String) (ce : Cell) (q9 : Addr) (u : SX) (t : State) (H1 : Heap) (locs1 : List Loc), t.heap = H1 → s.vm.Alike t.vm → px u → BX E u t → H.size ≤ H1.size → (∀ q : Nat, q < H.size → ¬ AX q → H1[q]? = H[q]?) → va_S A0 H0 H1 locs1 → H1[q9]? = some ce → ce.vm = .none → s.vm.findClass E = some ce.cls → vx_W p l e R s m args below meth c H1 locs1 (cells + mc) (slots + ms) Q (F0 m pc ls rest) q9)
    (kk : ∀ (r : Int64) (u : S) (t : State) (H1 : Heap) (locs1 : List Loc), t.heap = H1 → s.vm.Alike t.vm → post r u → B u t → H.size ≤ H1.size → (∀ q : Nat, q < H.size → ¬ A1 q → H1[q]? = H[q]?) → va_S A0 H0 H1 locs1 → W p l e R s m args below meth c H1 locs1 (cells + mc) (slots + ms) Q (F0 m (pc + 3) ls (.long r :: rest))) : W p l e R s m args below meth c H locs cells slots Q (F0 m pc ls st0) := by
  intro T hT X
  rcases hr T hT X with ⟨v, st₀, t, T', L, h0, X', hL, e1, e2, ⟨⟨r, u, hv, hp, hb⟩, hF⟩, st⟩ | ⟨q, st₀, t, T', L, E, ce, h0, X', hL, e1, e2, ⟨u, hp, hb, hF⟩, hce, hcv, hcl, st⟩
  · cases hv
    obtain ⟨k1, k2, k3⟩ := vx_keep h0 e1 hS hA hf hL hF
    obtain ⟨t2, a1, b1⟩ := kk r u t T'.heap (locs ++ L) e1.symm (by rw [← e2]; exact X'.warmed.alike) hp hb k1 k2 k3 T' rfl X'
    exact ⟨t2, st t2 a1, b1⟩
  · obtain ⟨k1, k2, k3⟩ := vx_keep h0 e1 hS hAX hf hL hF
    obtain ⟨t2, a1, b1⟩ := kx E ce q u t T'.heap (locs ++ L) e1.symm (by rw [← e2]; exact X'.warmed.alike) hp hb k1 k2 k3 (by rw [e1]; exact hce) hcv hcl T' rfl X'
    exact ⟨t2, st.trans a1, b1⟩
theorem vx_callf {S SX : Type} {post : UInt32 → S → Prop} {px : SX → Prop} {B : S → State → Prop} {BX : String → SX → State → Prop} {AX : Nat → Prop} (hr : vx_Run p l e R s m args below meth c H locs cells slots mc ms (F0 m pc ls st0) rest (va_Qf post B A1 a) (vx_X px BX AX) free) (hS : va_S A0 H0 H locs) (hA : ∀ q, q < H.size → A1 q → A0 q) (hf : ∀ q, free q → A0 q) (hAX : ∀ q, q < H.size → AX q → A0 q)
    (kx : ∀ (E : String) (ce : Cell) (q9 : Addr) (u : SX) (t : State) (H1 : Heap) (locs1 : List Loc), t.heap = H1 → s.vm.Alike t.vm → px u → BX E u t → H.size ≤ H1.size → (∀ q : Nat, q < H.size → ¬ AX q → H1[q]? = H[q]?) → va_S A0 H0 H1 locs1 → H1[q9]? = some ce → ce.vm = .none → s.vm.findClass E = some ce.cls → vx_W p l e R s m args below meth c H1 locs1 (cells + mc) (slots + ms) Q (F0 m pc ls rest) q9)
    (kk : ∀ (r : UInt32) (u : S) (t : State) (H1 : Heap) (locs1 : List Loc), t.heap = H1 → s.vm.Alike t.vm → post r u → B u t → H.size ≤ H1.size → (∀ q : Nat, q < H.size → ¬ A1 q → H1[q]? = H[q]?) → va_S A0 H0 H1 locs1 → W p l e R s m args below meth c H1 locs1 (cells + mc) (slots + ms) Q (F0 m (pc + 3) ls (.float r :: rest))) : W p l e R s m args below meth c H locs cells slots Q (F0 m pc ls st0) := by
  intro T hT X
  rcases hr T hT X with ⟨v, st₀, t, T', L, h0, X', hL, e1, e2, ⟨⟨r, u, hv, hp, hb⟩, hF⟩, st⟩ | ⟨q, st₀, t, T', L, E, ce, h0, X', hL, e1, e2, ⟨u, hp, hb, hF⟩, hce, hcv, hcl, st⟩
  · cases hv
    obtain ⟨k1, k2, k3⟩ := vx_keep h0 e1 hS hA hf hL hF
    obtain ⟨t2, a1, b1⟩ := kk r u t T'.heap (locs ++ L) e1.symm (by rw [← e2]; exact X'.warmed.alike) hp hb k1 k2 k3 T' rfl X'
    exact ⟨t2, st t2 a1, b1⟩
  · obtain ⟨k1, k2, k3⟩ := vx_keep h0 e1 hS hAX hf hL hF
    obtain ⟨t2, a1, b1⟩ := kx E ce q u t T'.heap (locs ++ L) e1.symm (by rw [← e2]; exact X'.warmed.alike) hp hb k1 k2 k3 (by rw [e1]; exact hce) hcv hcl T' rfl X'
    exact ⟨t2, st.trans a1, b1⟩
theorem vx_calld {S SX : Type} {post : UInt64 → S → Prop} {px : SX → Prop} {B : S → State → Prop} {BX : String → SX → State → Prop} {AX : Nat → Prop} (hr : vx_Run p l e R s m args below meth c H locs cells slots mc ms (F0 m pc ls st0) rest (va_Qd post B A1 a) (vx_X px BX AX) free) (hS : va_S A0 H0 H locs) (hA : ∀ q, q < H.size → A1 q → A0 q) (hf : ∀ q, free q → A0 q) (hAX : ∀ q, q < H.size → AX q → A0 q)
    (kx : ∀ (E : String) (ce : Cell) (q9 : Addr) (u : SX) (t : State) (H1 : Heap) (locs1 : List Loc), t.heap = H1 → s.vm.Alike t.vm → px u → BX E u t → H.size ≤ H1.size → (∀ q : Nat, q < H.size → ¬ AX q → H1[q]? = H[q]?) → va_S A0 H0 H1 locs1 → H1[q9]? = some ce → ce.vm = .none → s.vm.findClass E = some ce.cls → vx_W p l e R s m args below meth c H1 locs1 (cells + mc) (slots + ms) Q (F0 m pc ls rest) q9)
    (kk : ∀ (r : UInt64) (u : S) (t : State) (H1 : Heap) (locs1 : List Loc), t.heap = H1 → s.vm.Alike t.vm → post r u → B u t → H.size ≤ H1.size → (∀ q : Nat, q < H.size → ¬ A1 q → H1[q]? = H[q]?) → va_S A0 H0 H1 locs1 → W p l e R s m args below meth c H1 locs1 (cells + mc) (slots + ms) Q (F0 m (pc + 3) ls (.double r :: rest))) : W p l e R s m args below meth c H locs cells slots Q (F0 m pc ls st0) := by
  intro T hT X
  rcases hr T hT X with ⟨v, st₀, t, T', L, h0, X', hL, e1, e2, ⟨⟨r, u, hv, hp, hb⟩, hF⟩, st⟩ | ⟨q, st₀, t, T', L, E, ce, h0, X', hL, e1, e2, ⟨u, hp, hb, hF⟩, hce, hcv, hcl, st⟩
  · cases hv
    obtain ⟨k1, k2, k3⟩ := vx_keep h0 e1 hS hA hf hL hF
    obtain ⟨t2, a1, b1⟩ := kk r u t T'.heap (locs ++ L) e1.symm (by rw [← e2]; exact X'.warmed.alike) hp hb k1 k2 k3 T' rfl X'
    exact ⟨t2, st t2 a1, b1⟩
  · obtain ⟨k1, k2, k3⟩ := vx_keep h0 e1 hS hAX hf hL hF
    obtain ⟨t2, a1, b1⟩ := kx E ce q u t T'.heap (locs ++ L) e1.symm (by rw [← e2]; exact X'.warmed.alike) hp hb k1 k2 k3 (by rw [e1]; exact hce) hcv hcl T' rfl X'
    exact ⟨t2, st.trans a1, b1⟩
theorem vx_callv {S SX : Type} {post : S → Prop} {px : SX → Prop} {B : S → State → Prop} {BX : String → SX → State → Prop} {AX : Nat → Prop} (hr : vx_Run p l e R s m args below meth c H locs cells slots mc ms (F0 m pc ls st0) rest (va_Qv post B A1 a) (vx_X px BX AX) free) (hS : va_S A0 H0 H locs) (hA : ∀ q, q < H.size → A1 q → A0 q) (hf : ∀ q, free q → A0 q) (hAX : ∀ q, q < H.size → AX q → A0 q)
    (kx : ∀ (E : String) (ce : Cell) (q9 : Addr) (u : SX) (t : State) (H1 : Heap) (locs1 : List Loc), t.heap = H1 → s.vm.Alike t.vm → px u → BX E u t → H.size ≤ H1.size → (∀ q : Nat, q < H.size → ¬ AX q → H1[q]? = H[q]?) → va_S A0 H0 H1 locs1 → H1[q9]? = some ce → ce.vm = .none → s.vm.findClass E = some ce.cls → vx_W p l e R s m args below meth c H1 locs1 (cells + mc) (slots + ms) Q (F0 m pc ls rest) q9)
    (kk : ∀ (u : S) (t : State) (H1 : Heap) (locs1 : List Loc), t.heap = H1 → s.vm.Alike t.vm → post u → B u t → H.size ≤ H1.size → (∀ q : Nat, q < H.size → ¬ A1 q → H1[q]? = H[q]?) → va_S A0 H0 H1 locs1 → W p l e R s m args below meth c H1 locs1 (cells + mc) (slots + ms) Q (F0 m (pc + 3) ls (rest))) : W p l e R s m args below meth c H locs cells slots Q (F0 m pc ls st0) := by
  intro T hT X
  rcases hr T hT X with ⟨v, st₀, t, T', L, h0, X', hL, e1, e2, ⟨⟨u, hv, hp, hb⟩, hF⟩, st⟩ | ⟨q, st₀, t, T', L, E, ce, h0, X', hL, e1, e2, ⟨u, hp, hb, hF⟩, hce, hcv, hcl, st⟩
  · cases hv
    obtain ⟨k1, k2, k3⟩ := vx_keep h0 e1 hS hA hf hL hF
    obtain ⟨t2, a1, b1⟩ := kk u t T'.heap (locs ++ L) e1.symm (by rw [← e2]; exact X'.warmed.alike) hp hb k1 k2 k3 T' rfl X'
    exact ⟨t2, st t2 a1, b1⟩
  · obtain ⟨k1, k2, k3⟩ := vx_keep h0 e1 hS hAX hf hL hF
    obtain ⟨t2, a1, b1⟩ := kx E ce q u t T'.heap (locs ++ L) e1.symm (by rw [← e2]; exact X'.warmed.alike) hp hb k1 k2 k3 (by rw [e1]; exact hce) hcv hcl T' rfl X'
    exact ⟨t2, st.trans a1, b1⟩
/-- caught by the row x of this method's table; the rows ahead don't take it -/
theorem vx_catch {own name : String} {E : String} {ce : Cell} {q : Addr} (hown : s.vm.findClass own = some m.cls) (pre : List ExceptionTableEntry) (x : ExceptionTableEntry) (suf : List ExceptionTableEntry) (hsplit : c.exceptionTable.toList = pre ++ x :: suf)
    (hpass : ∀ z ∈ pre, covers z pc = false ∨ (z.catchType ≠ 0 ∧ ∃ nm : String, (Cond.classLink own z.catchType nm).before args s = true ∧ va_Nc E nm s)) (hx : covers x pc = true) (h0 : x.catchType ≠ 0)
    (hlink : (Cond.classLink own x.catchType name).before args s = true) (hcast : (Cond.castable E name).before args s = true) (hcell : H[q]? = some ce) (hv : ce.vm = .none) (hcl : s.vm.findClass E = some ce.cls)
    (kk : W p l e R s m args below meth c H locs cells slots Q (F0 m x.handlerPc ls [.ref q])) : vx_W p l e R s m args below meth c H locs cells slots Q (F0 m pc ls rest) q := by
  intro T hT X
  have hpl : e.platform.magicAccessors = ({} : Platform).magicAccessors := by rw [X.admits.platform]
  obtain ⟨c3, c4, hc3, hc4, hasg⟩ := Cond.castable_spec hcast
  cases Option.some.inj (hc3.symm.trans hcl)
  obtain ⟨c5, hc5, hcl5⟩ := Cond.classLink_spec hown hlink e.platform hpl
  cases Option.some.inj (hc4.symm.trans hc5)
  obtain ⟨vm', X', st⟩ := X.thenCaughtThrough q (g := F0 m pc ls rest) rfl (Steps.refl _) (by rw [hT]; exact hcell) (by rw [hv]; rfl) (by obtain ⟨k9, h9, -⟩ := Vm.findClass_spec hcl; exact ⟨k9, h9⟩) pre x suf hsplit
    (fun z hz => by
      rcases hpass z hz with h | ⟨hz0, nm, hl1, hn1⟩
      · exact Or.inl h
      · obtain ⟨c6, hc6, hcl6⟩ := Cond.classLink_spec hown hl1 e.platform hpl
        obtain ⟨a8, b8, h1, h2, h3⟩ := hn1
        cases Option.some.inj (h1.symm.trans hcl)
        cases Option.some.inj (h2.symm.trans hc6)
        exact Or.inr ⟨hz0, _, hcl6, h3⟩) hx (Or.inr ⟨h0, c4, hcl5, hasg⟩)
  obtain ⟨t, a1, b1⟩ := kk (T.setVm vm') hT X'
  exact ⟨t, st.trans a1, b1⟩
end Rows
section Ends
variable {p : Program} {l : Launch} {e : Env} {R : Room} {s : State} {m : MethodId} {args : Array Value} {below : List Frame} {meth : Method} {c : Code} {H : Heap} {locs : List Loc} {cells slots : Nat} {Q : State → Prop}
variable {mc ms : Nat} {free : Addr → Prop} {A0 A1 : Nat → Prop} {H0 : Heap} {a : Array Value} {ls : Array Slot} {st0 rest : List Value}
variable {Qc : Array Value → State → Outcome → State → Prop} {XC : String → State → State → Prop}
/-- what a body that may throw owes at its end -/
def vx_MQ (below : List Frame) (Qc : Array Value → State → Outcome → State → Prop) (XC : String → State → State → Prop) (a : Array Value) (s : State) (mc ms : Nat) (free : Addr → Prop) : State → Prop := fun t =>
  ∃ o, t.status = .running ∧ Ended t below o ∧ vx_Q Qc XC mc ms free a s o t
theorem vx_ret {g : JFrame} {mc ms : Nat} (k : W p l e R s m args below meth c H locs cells slots (MQ below Qc args s mc ms free) g) : W p l e R s m args below meth c H locs cells slots (vx_MQ below Qc XC args s mc ms free) g := by
  intro T hT X
  obtain ⟨t, a1, o, b1, b2, b3, b4⟩ := k T hT X
  exact ⟨t, a1, o, b1, b2, Or.inl ⟨b3, b4⟩⟩
/-- not caught here: it goes on to the caller -/
theorem vx_widen {g : JFrame} {q : Addr} {k n : Nat} (h1 : cells ≤ k) (h2 : slots ≤ n) (kk : vx_W p l e R s m args below meth c H locs k n Q g q) : vx_W p l e R s m args below meth c H locs cells slots Q g q := fun T hT X => kk T hT (stand_widen X h1 h2)
theorem vx_out {pc : Nat} {E : String} {ce : Cell} {q : Addr} {mc ms : Nat} (hout : ∀ x ∈ c.exceptionTable.toList, covers x pc = false) (hlocks : meth.locks = false) (hcell : H[q]? = some ce) (hv : ce.vm = .none) (hcl : s.vm.findClass E = some ce.cls)
    (hx : ∀ t : State, t.heap = H → s.vm.Alike t.vm → XC E s t) (hf : ∀ z ∈ locs, free z.base) (hc : cells ≤ mc) (hs : slots ≤ ms) :
    vx_W p l e R s m args below meth c H locs cells slots (vx_MQ below Qc XC args s mc ms free) (F0 m pc ls rest) q := by
  intro T hT X
  obtain ⟨st1, hrun, hend, hW, hsm⟩ := X.leaveThrown q (g := F0 m pc ls rest) rfl rfl rfl hout hlocks
  have hcell9 : (T.setFrames (.throwing q :: below)).heap[q]? = some ce := by
    show T.heap[q]? = some ce
    rw [hT]; exact hcell
  exact ⟨_, st1, .threw q, hrun, hend, Or.inr ⟨q, rfl, E, ce, locs, hx _ hT hW.alike, hcell9, hv, hcl, hW, hsm.mono hc hs, hf⟩⟩
theorem vx_frame {U : State} {k n : Nat} (h : s.sameButNew ({ U with vm := s.vm } : State) locs k n) : s.heap.size ≤ U.heap.size ∧ ∀ q : Nat, q < s.heap.size → (∀ z ∈ locs, z.base ≠ q) → U.heap[q]? = s.heap[q]? := by
  obtain ⟨-, h2, -, -, -, h6⟩ := h
  refine ⟨h2, fun q hq hz => ?_⟩
  obtain ⟨c9, e1, e2, e3, e4⟩ := h6 q _ (Array.getElem?_eq_getElem hq)
  have hs : c9.slots = (s.heap[q]).slots := Array.ext_getElem? fun i => e4 i fun hm => hz _ hm rfl
  have h9 : c9 = s.heap[q] := by
    rw [hs] at e2
    exact e2
  have e5 : U.heap[q]? = some c9 := e1
  rw [e5, h9, Array.getElem?_eq_getElem hq]
/-- the words of a throw but the four that speak of the heap -/
def vx_no (w : Cond) : Bool := decide (w ≠ .isRef (.static Bundle.tN "UNASSIGNED_STACK" Bundle.steD)) && decide (w ≠ .isRef (.static Bundle.tN "SUPPRESSED_SENTINEL" Bundle.listD)) && decide (w ≠ .laysStatic Bundle.tN "UNASSIGNED_STACK" Bundle.steD) && decide (w ≠ .laysStatic Bundle.tN "SUPPRESSED_SENTINEL" Bundle.listD)
def vx_at0 (own : String) (ic : Nat) (X : String) (names : List String) : List Cond := (Bundle.ownAtoms0 own ic X names).filter vx_no
def vx_atS (own : String) (ic : Nat) (X : String) (names : List String) : List Cond := (Bundle.ownAtoms own ic X names).filter vx_no
/-- a word that the tables alone decide, or a good one -/
def vx_ot (w : Cond) : Bool := w.onTables || goodWord w
theorem vx_ot_at {args a' : Array Value} {s U : State} {w : Cond} (hW : s.WarmedH U.vm) (hvm : s.vm = U.vm) (hg : vx_ot w = true) (h : w.before args s = true) : w.before a' U = true := by
  simp only [vx_ot, Bool.or_eq_true] at hg
  rcases hg with hg | hg
  · exact va_tabs hg hvm h
  · exact word_at hW (good_of_word hg) h
/-- a list's words: the good ones out of the method's own list, the others by premises of their own -/
theorem vx_hat {args : Array Value} {s : State} {L B : List Cond} (h1 : ∀ w ∈ L.filter goodWord, w.before args s = true) (h2 : ∀ w ∈ L.filter (fun w => !goodWord w), w ∈ B) (h3 : ∀ w ∈ B, w.before args s = true) : ∀ w ∈ L, w.before args s = true := by
  intro w hw
  by_cases g : goodWord w = true
  · exact h1 w (List.mem_filter.mpr ⟨hw, g⟩)
  · refine h3 w (h2 w (List.mem_filter.mpr ⟨hw, ?_⟩))
    show (!goodWord w) = true
    cases hgw : goodWord w
    · rfl
    · exact absurd hgw g
theorem vx_c {args : Array Value} {s : State} {w : Cond} {B : List Cond} (h : w.before args s = true) (t : ∀ w ∈ B, w.before args s = true) : ∀ w' ∈ w :: B, w'.before args s = true := fun w' h' => (List.mem_cons.mp h').elim (fun e => by rw [e]; exact h) (t w')
theorem vx_n {args : Array Value} {s : State} : ∀ w ∈ ([] : List Cond), w.before args s = true := fun _ h => nomatch h
theorem vx_own {args : Array Value} {s : State} {L : List Cond} (h1 : ∀ w ∈ L.filter vx_no, w.before args s = true)
    (hU : (Cond.isRef (.static Bundle.tN "UNASSIGNED_STACK" Bundle.steD)).before args s = true) (hN : (Cond.isRef (.static Bundle.tN "SUPPRESSED_SENTINEL" Bundle.listD)).before args s = true)
    (lU : (Cond.laysStatic Bundle.tN "UNASSIGNED_STACK" Bundle.steD).before args s = true) (lN : (Cond.laysStatic Bundle.tN "SUPPRESSED_SENTINEL" Bundle.listD).before args s = true) : ∀ w ∈ L, w.before args s = true := by
  intro w hw
  by_cases e1 : w = .isRef (.static Bundle.tN "UNASSIGNED_STACK" Bundle.steD)
  · rw [e1]; exact hU
  · by_cases e2 : w = .isRef (.static Bundle.tN "SUPPRESSED_SENTINEL" Bundle.listD)
    · rw [e2]; exact hN
    · by_cases e3 : w = .laysStatic Bundle.tN "UNASSIGNED_STACK" Bundle.steD
      · rw [e3]; exact lU
      · by_cases e4 : w = .laysStatic Bundle.tN "SUPPRESSED_SENTINEL" Bundle.listD
        · rw [e4]; exact lN
        · exact h1 w (List.mem_filter.mpr ⟨hw, by unfold vx_no; rw [decide_eq_true e1, decide_eq_true e2, decide_eq_true e3, decide_eq_true e4]; rfl⟩)
/-- where a static field lies, its class's statics cell in H -/
def vx_L (C n d : String) (A : Nat → Prop) (U : State) (H : Heap) : Prop := ∃ (c : ClassId) (k : Class) (i : Nat) (f : Field) (a : Nat) (cell : Cell), U.vm.findClass C = some c ∧ U.fieldFound? C n d = some (c, k, i, f) ∧ f.isStatic = true ∧ k.statics = some a ∧ H[a]? = some cell ∧ cell.vm.isStatics = true ∧ cell.cls = c ∧ f.slot < cell.slots.size ∧ k.staticTypes[f.slot]? = some f.type ∧ ¬ A a
theorem vx_L.moved {C n d : String} {A : Nat → Prop} {u U : State} {H : Heap} (hvm : u.vm.Alike U.vm) (h : vx_L C n d A u H) : vx_L C n d A U H := by
  obtain ⟨c, k, i, f, a, cell, h1, h2, h3, h4, h5, h6, h7, h8, h9, h10⟩ := h
  obtain ⟨k', hi', he⟩ := State.fieldFound?_setVm hvm h2
  exact ⟨c, k', i, f, a, cell, by rw [hvm.findClass]; exact h1, hi', h3, by rw [he]; exact h4, h5, h6, h7, h8, by rw [he]; exact h9, h10⟩
theorem vx_L.kept {C n d : String} {A : Nat → Prop} {U : State} {H H1 : Heap} (h : vx_L C n d A U H) (hq : ∀ a : Nat, a < H.size → ¬ A a → H1[a]? = H[a]?) : vx_L C n d A U H1 := by
  obtain ⟨c, k, i, f, a, cell, h1, h2, h3, h4, h5, h6, h7, h8, h9, h10⟩ := h
  exact ⟨c, k, i, f, a, cell, h1, h2, h3, h4, by rw [hq a (Array.getElem?_eq_some_iff.mp h5).1 h10]; exact h5, h6, h7, h8, h9, h10⟩
theorem vx_L.narrow {C n d : String} {A B : Nat → Prop} {U : State} {H : Heap} (h : vx_L C n d A U H) (hAB : ∀ q, B q → A q) : vx_L C n d B U H := by
  obtain ⟨c, k, i, f, a, cell, h1, h2, h3, h4, h5, h6, h7, h8, h9, h10⟩ := h
  exact ⟨c, k, i, f, a, cell, h1, h2, h3, h4, h5, h6, h7, h8, h9, fun z => h10 (hAB _ z)⟩
theorem vx_L.word {C n d : String} {A : Nat → Prop} {s : State} {args : Array Value} (h : vx_L C n d A s s.heap) : (Cond.laysStatic C n d).before args s = true := by
  obtain ⟨c, k, i, f, a, cell, h1, h2, h3, h4, h5, h6, h7, h8, h9, -⟩ := h
  show (Cond.laysStatic C n d).holds args s none s [] = true
  exact Cond.laysStatic_of h1 h2 h3 h4 h5 h6 h7 h8 h9
/-- .. and what it holds: null or some reference -/
def vx_Zq (C n d : String) (A : Nat → Prop) (U : State) (H : Heap) : Prop := va_Zq C n d A U H ∧ vx_L C n d A U H
theorem vx_Zq.moved {C n d : String} {A : Nat → Prop} {u U : State} {H : Heap} (hvm : u.vm.Alike U.vm) (h : vx_Zq C n d A u H) : vx_Zq C n d A U H := ⟨va_Zq.moved hvm h.1, vx_L.moved hvm h.2⟩
theorem vx_Zq.kept {C n d : String} {A : Nat → Prop} {U : State} {H H1 : Heap} (h : vx_Zq C n d A U H) (hq : ∀ a : Nat, a < H.size → ¬ A a → H1[a]? = H[a]?) : vx_Zq C n d A U H1 := ⟨va_Zq.kept h.1 hq, vx_L.kept h.2 hq⟩
theorem vx_Zq.narrow {C n d : String} {A B : Nat → Prop} {U : State} {H : Heap} (h : vx_Zq C n d A U H) (hAB : ∀ q, B q → A q) : vx_Zq C n d B U H := ⟨va_Zq.narrow h.1 hAB, vx_L.narrow h.2 hAB⟩
theorem vx_Zqof {args : Array Value} {s : State} {C n d : String} {A : Nat → Prop} (hl : (Cond.laysStatic C n d).before args s = true) (hini : (Cond.initialized C).before args s = true) (h : (Cond.isRef (.static C n d)).before args s = true) (hA : ∀ a : Nat, a < s.heap.size → ¬ A a) : vx_Zq C n d A s s.heap := by
  refine ⟨va_Zqof hl hini h hA, ?_⟩
  obtain ⟨c, k, i, f, a, cell, h1, h2, h3, h4, h5, h6, h7, h8, h9⟩ := Cond.laysStatic_spec hl
  exact ⟨c, k, i, f, a, cell, h1, h2, h3, h4, h5, h6, h7, h8, h9, hA a (Array.getElem?_eq_some_iff.mp h5).1⟩
theorem vx_isRef {C n d : String} {v : Value} {A : Nat → Prop} {s : State} {args : Array Value} (h : va_Z C n d v A s s.heap) (hv : v.isRef = true) : (Cond.isRef (.static C n d)).before args s = true := by
  obtain ⟨cf, kf, fi, f, a, cell, h1, h2, h3, h4, h5, h6, h7, -⟩ := h
  have he : (Term.static C n d).eval args s none [] s = some v := by
    simp [Term.eval, State.fieldNamed?, h1, h2, h4, h5, h6, h7]
  simp only [Cond.before, Cond.holds, Cond.value, he]
  cases v <;> simp_all [Value.isRef]
theorem vx_isRefq {C n d : String} {A : Nat → Prop} {s : State} {args : Array Value} (h : va_Zq C n d A s s.heap) : (Cond.isRef (.static C n d)).before args s = true := by
  rcases h with h | ⟨t, h⟩
  · exact vx_isRef h rfl
  · exact vx_isRef h rfl
/-- the same frame, seen from here: as if the method were called anew in this heap -/
theorem vx_rebase {T : State} (X : Stand p l e R s m args below meth c T locs cells slots) {R' : Room} (hf : R'.frames ≤ R.frames) (hl : R'.locals ≤ R.locals) (hc : cells + R'.cells ≤ R.cells) (hs : slots + R'.slots ≤ R.slots) :
    Stand p l e R' ((T.setVm s.vm).setFrames (.invoking m args :: below)) m args below meth c T [] 0 0 := by
  have htop : (T.setVm s.vm).topJava?.isSome := X.here.top
  have hF : ((T.setVm s.vm).setFrames (.invoking m args :: below)).frames = .invoking m args :: below := State.frames_setFrames _ (State.cur_lt_of_top htop)
  obtain ⟨g₀, hg0⟩ := Option.isSome_iff_exists.mp htop
  obtain ⟨r, hr⟩ := State.topJava?_eq_some.mp hg0
  have hl9 : e.platform.stackLimits (T.setVm s.vm).me = e.platform.stackLimits s.me := X.limits
  have hb9 : (T.setVm s.vm).me.stackBytes = s.me.stackBytes := X.bytes
  refine ⟨X.admits, X.cas, X.clock, hF, ?_, X.hears, X.method, X.code, X.here, X.tail, X.warmed, ?_, ?_, ?_⟩
  · have h := X.room
    have hU : ((T.setVm s.vm).setFrames (.invoking m args :: below)).localsInUse = s.localsInUse := by
      rw [State.localsInUse_invoking hF (meth := meth) (c := c) X.method X.code, State.localsInUse_invoking X.frames X.method X.code]
    simp only [State.hasRoom, Bool.and_eq_true, decide_eq_true_eq] at h ⊢
    obtain ⟨⟨⟨⟨h1, h2, h3, h4, h5, h6⟩, h7⟩, h8⟩, h9⟩ := h
    rw [X.frames, List.length_cons] at h2 h3
    have q1 := X.heapSize
    have q2 := X.used
    simp only [hF, hU, List.length_cons, State.stackLimits_setFrames, State.stackBytes_setFrames, hl9, hb9]
    refine ⟨⟨⟨⟨by omega, by omega, by omega, by omega, by omega, h6⟩, ?_⟩, ?_⟩, X.book⟩
    · show T.heap.size + R'.cells ≤ e.platform.maxCells
      omega
    · show T.slotsUsed + R'.slots ≤ e.platform.maxSlots
      omega
  · rw [State.stackLimits_setFrames]; rfl
  · rw [State.stackBytes_setFrames]; rfl
  · refine ⟨?_, Nat.le_refl _, Nat.le_refl _, ?_, ?_, fun a c9 h9 => ⟨c9, h9, rfl, rfl, fun _ _ => rfl⟩⟩
    · obtain ⟨t, ht, -⟩ := State.frames_cons hr
      show T.setVm s.vm = { ((T.setVm s.vm).setFrames (.invoking m args :: below)).setFrames (T.setVm s.vm).frames with heap := T.heap, slotsUsed := T.slotsUsed }
      rw [State.setFrames_setFrames, State.setFrames_self ht]
      rfl
    · show T.slotsUsed = T.slotsUsed + ((T.heap.toList.drop T.heap.size).map (·.slots.size)).sum
      rw [List.drop_eq_nil_of_le (Nat.le_of_eq Array.length_toList)]
      rfl
    · show ((T.heap.toList.drop T.heap.size).map (·.slots.size)).sum ≤ 0
      rw [List.drop_eq_nil_of_le (Nat.le_of_eq Array.length_toList)]
      exact Nat.le_refl _
/-- 'throw new E()': new; dup; invokespecial; athrow -/
theorem vx_throw0 {cc : ByteArray} {pc : Nat} (hexec : p.tables.exec = Jvm.exec) (hb : c.code = cc) (hl : l.stackTraces = false) {own cls : String} {names : List String} {ik ic mc ms : Nat} {A : Nat → Prop}
    (hown : s.vm.findClass own = some m.cls) (hcls : Bundle.fit cls = true) (hnames : ∀ n ∈ names, Bundle.fit n = true)
    (hk : (Cond.classLink own ik cls).before args s = true) (hini : (Cond.initialized cls).before args s = true) (hat : ∀ w ∈ vx_at0 own ic cls names, w.before args s = true)
    (hgood : ∀ w ∈ Cond.classLink own ik cls :: Cond.initialized cls :: vx_at0 own ic cls names, vx_ot w = true)
    (hU : vx_Zq Bundle.tN "UNASSIGNED_STACK" Bundle.steD A s s.heap) (hN : vx_Zq Bundle.tN "SUPPRESSED_SENTINEL" Bundle.listD A s s.heap) (hS : va_S A s.heap H locs) (hsize : ls.size = c.maxLocals)
    (d0 : decode cc pc = .ok (.new ik, 3)) (d3 : decode cc (pc + 3) = .ok (.dup, 1)) (d4 : decode cc (pc + 4) = .ok (.invokespecial ic, 3)) (d7 : decode cc (pc + 7) = .ok (.athrow, 1))
    (hout : ∀ x ∈ c.exceptionTable.toList, covers x (pc + 7) = false)
    (hRframes : names.length + 3 < R.frames) (hRlocals : (rest.map fun v => v.category).sum + (13 * (names.length + 1) + 42) ≤ R.locals) (hRcells : cells + 1 ≤ R.cells) (hRslots : slots + 6 ≤ R.slots) (hlocks : meth.locks = false)
    (hx : ∀ t : State, s.vm.Alike t.vm → H.size ≤ t.heap.size → (∀ q : Nat, q < H.size → t.heap[q]? = H[q]?) → XC cls s t)
    (hf : ∀ z ∈ locs, free z.base) (hc : cells + 1 ≤ mc) (hs : slots + 6 ≤ ms) :
    W p l e R s m args below meth c H locs cells slots (vx_MQ below Qc XC args s mc ms free) (F0 m pc ls rest) := by
  intro T hT X
  have htr : e.platform.stackTraces = false := (show e.platform.stackTraces = l.stackTraces by rw [X.admits.platform]).trans hl
  have Y := vx_rebase X (R' := { frames := R.frames, locals := R.locals, cells := 1, slots := 6 }) (Nat.le_refl _) (Nat.le_refl _) hRcells hRslots
  obtain ⟨s', hA⟩ : ∃ z, z = (T.setVm s.vm).setFrames (.invoking m args :: below) := ⟨_, rfl⟩
  rw [← hA] at Y
  have hvm : s'.vm = s.vm := by rw [hA]; rfl
  have hhp : s'.heap = H := by rw [hA]; exact hT
  have hW0 : s.WarmedH s'.vm := by rw [hvm]; exact State.WarmedH.refl s
  have hat' : ∀ w ∈ vx_at0 own ic cls names, w.before args s' = true := fun w hw => vx_ot_at hW0 hvm.symm (hgood w (List.mem_cons_of_mem _ (List.mem_cons_of_mem _ hw))) (hat w hw)
  have hk' : (Cond.classLink own ik cls).before args s' = true := vx_ot_at hW0 hvm.symm (hgood _ List.mem_cons_self) hk
  have hini' : (Cond.initialized cls).before args s' = true := vx_ot_at hW0 hvm.symm (hgood _ (List.mem_cons_of_mem _ List.mem_cons_self)) hini
  have hU' : vx_Zq Bundle.tN "UNASSIGNED_STACK" Bundle.steD A s' s'.heap := by rw [hhp]; exact vx_Zq.moved hW0.alike (hU.kept hS.2.1)
  have hN' : vx_Zq Bundle.tN "SUPPRESSED_SENTINEL" Bundle.listD A s' s'.heap := by rw [hhp]; exact vx_Zq.moved hW0.alike (hN.kept hS.2.1)
  have h : ∀ w ∈ Bundle.ownAtoms0 own ic cls names, w.before args s' = true := vx_own hat' (vx_isRefq hU'.1) (vx_isRefq hN'.1) hU'.2.word hN'.2.word
  have hown' : s'.vm.findClass own = some m.cls := by rw [hvm]; exact hown
  have hins : (Cond.instantiable cls 6).before args s' = true := h _ (by simp [Bundle.ownAtoms0])
  obtain ⟨vm₁, cX, kX, hfX, hkX, -, -, X₁, st1⟩ := Y.newCold hexec (own := own) (C := cls) (index := ik) (n := 6) hown' hk' hins hini'
    (g := F0 m pc ls rest) rfl (by rw [hb]; exact d0) (Nat.le_refl _) (Nat.le_refl _)
  generalize hT1 : (T.setVm vm₁).pushCell { cls := cX, slots := kX.instanceTypes.map defaultValue, vm := .none } = T1 at X₁ st1
  have hcat : (Value.ref T.heap.size).category = 1 := rfl
  have hcellA : T1.heap[T.heap.size]? = some (freshCell cX kX) := by rw [← hT1]; exact State.heap_pushCell_size _ _
  have d3' : decode c.code (pc + 3) = .ok (.dup, 1) := by rw [hb]; exact d3
  obtain ⟨U, hsteps, hrun, hend, hW, hsame, ce, hce, hO⟩ := X₁.ctorThrow0 hexec htr (own := own) (cls := cls) (names := names) (ic := ic) hown' hcls hnames h (fun x hx => nomatch hx) hfX hkX hcellA (by rw [hhp, hT]; exact Nat.le_refl _)
    (g := { method := m, pc := pc + 4, locals := ls, stack := .ref T.heap.size :: .ref T.heap.size :: rest, locked := none }) rfl hsize rfl rfl (rest := rest) rfl
    (by rw [hb]; exact d4) (by rw [hb]; exact d7) hout hRframes (by simp only [List.map_cons, List.sum_cons, hcat]; omega) hlocks
  obtain ⟨f1, f2⟩ := vx_frame hsame
  rw [hhp] at f1 f2
  have hWs : s.WarmedH U.vm := State.WarmedH.trans hW0 hW
  have hcl : s.vm.findClass cls = some ce.cls := by
    have h9 := hO.cls
    rw [hvm] at h9
    exact h9
  have hall : s.sameButNew ({ U with vm := s.vm } : State) locs mc ms := by
    subst hA
    obtain ⟨e1, e2⟩ := hsame
    rw [State.setFrames_setFrames] at e1
    have h2 : (T.setVm s.vm).sameButNew ({ U with vm := s.vm } : State) [] (0 + 1) (0 + 6) := ⟨e1, e2⟩
    have h3 := X.same.trans h2
    rw [List.append_nil] at h3
    exact h3.mono hc hs
  refine ⟨U, ?_, .threw T.heap.size, hrun, hend, Or.inr ⟨T.heap.size, rfl, cls, ce, locs, hx U hWs.alike f1 (fun q hq => f2 q hq (fun z hz => nomatch hz)), hce, hO.vm, hcl, hWs, hall, hf⟩⟩
  refine st1 _ ?_
  show Steps p.tables e below (T1.setTop { method := m, pc := pc + 3, locals := ls, stack := .ref T.heap.size :: rest, locked := none }) _
  jvm_step X₁.here [X₁.here.top, hexec, d3', Value.category]
  exact hsteps
/-- 'throw new E("text")': new; dup; ldc; invokespecial; athrow -/
theorem vx_throwS {cc : ByteArray} {pc : Nat} (hexec : p.tables.exec = Jvm.exec) (hb : c.code = cc) (hl : l.stackTraces = false) {own cls text : String} {names : List String} {ik is ic mc ms sa : Nat} {A : Nat → Prop}
    (hown : s.vm.findClass own = some m.cls) (hcls : Bundle.fit cls = true) (hnames : ∀ n ∈ names, Bundle.fit n = true)
    (hk : (Cond.classLink own ik cls).before args s = true) (hini : (Cond.initialized cls).before args s = true) (hstr : vk_R own is text sa s) (hat : ∀ w ∈ vx_atS own ic cls names, w.before args s = true)
    (hgood : ∀ w ∈ Cond.classLink own ik cls :: Cond.initialized cls :: vx_atS own ic cls names, vx_ot w = true)
    (hU : vx_Zq Bundle.tN "UNASSIGNED_STACK" Bundle.steD A s s.heap) (hN : vx_Zq Bundle.tN "SUPPRESSED_SENTINEL" Bundle.listD A s s.heap) (hS : va_S A s.heap H locs) (hsize : ls.size = c.maxLocals)
    (d0 : decode cc pc = .ok (.new ik, 3)) (d3 : decode cc (pc + 3) = .ok (.dup, 1)) (d4 : decode cc (pc + 4) = .ok (.ldc is, 2)) (d6 : decode cc (pc + 6) = .ok (.invokespecial ic, 3)) (d9 : decode cc (pc + 9) = .ok (.athrow, 1))
    (hout : ∀ x ∈ c.exceptionTable.toList, covers x (pc + 9) = false)
    (hRframes : names.length + 3 < R.frames) (hRlocals : (rest.map fun v => v.category).sum + (13 * (names.length + 1) + 43) ≤ R.locals) (hRcells : cells + 1 ≤ R.cells) (hRslots : slots + 6 ≤ R.slots) (hlocks : meth.locks = false)
    (hx : ∀ t : State, s.vm.Alike t.vm → H.size ≤ t.heap.size → (∀ q : Nat, q < H.size → t.heap[q]? = H[q]?) → XC cls s t)
    (hf : ∀ z ∈ locs, free z.base) (hc : cells + 1 ≤ mc) (hs : slots + 6 ≤ ms) :
    W p l e R s m args below meth c H locs cells slots (vx_MQ below Qc XC args s mc ms free) (F0 m pc ls rest) := by
  intro T hT X
  have htr : e.platform.stackTraces = false := (show e.platform.stackTraces = l.stackTraces by rw [X.admits.platform]).trans hl
  have Y := vx_rebase X (R' := { frames := R.frames, locals := R.locals, cells := 1, slots := 6 }) (Nat.le_refl _) (Nat.le_refl _) hRcells hRslots
  obtain ⟨s', hA⟩ : ∃ z, z = (T.setVm s.vm).setFrames (.invoking m args :: below) := ⟨_, rfl⟩
  rw [← hA] at Y
  have hvm : s'.vm = s.vm := by rw [hA]; rfl
  have hhp : s'.heap = H := by rw [hA]; exact hT
  have hW0 : s.WarmedH s'.vm := by rw [hvm]; exact State.WarmedH.refl s
  have hat' : ∀ w ∈ vx_atS own ic cls names, w.before args s' = true := fun w hw => vx_ot_at hW0 hvm.symm (hgood w (List.mem_cons_of_mem _ (List.mem_cons_of_mem _ hw))) (hat w hw)
  have hk' : (Cond.classLink own ik cls).before args s' = true := vx_ot_at hW0 hvm.symm (hgood _ List.mem_cons_self) hk
  have hini' : (Cond.initialized cls).before args s' = true := vx_ot_at hW0 hvm.symm (hgood _ (List.mem_cons_of_mem _ List.mem_cons_self)) hini
  have hU' : vx_Zq Bundle.tN "UNASSIGNED_STACK" Bundle.steD A s' s'.heap := by rw [hhp]; exact vx_Zq.moved hW0.alike (hU.kept hS.2.1)
  have hN' : vx_Zq Bundle.tN "SUPPRESSED_SENTINEL" Bundle.listD A s' s'.heap := by rw [hhp]; exact vx_Zq.moved hW0.alike (hN.kept hS.2.1)
  have h : ∀ w ∈ Bundle.ownAtoms own ic cls names, w.before args s' = true := vx_own hat' (vx_isRefq hU'.1) (vx_isRefq hN'.1) hU'.2.word hN'.2.word
  have hown' : s'.vm.findClass own = some m.cls := by rw [hvm]; exact hown
  have hins : (Cond.instantiable cls 6).before args s' = true := h _ (by simp [Bundle.ownAtoms])
  obtain ⟨vm₁, cX, kX, hfX, hkX, -, -, X₁, st1⟩ := Y.newCold hexec (own := own) (C := cls) (index := ik) (n := 6) hown' hk' hins hini'
    (g := F0 m pc ls rest) rfl (by rw [hb]; exact d0) (Nat.le_refl _) (Nat.le_refl _)
  generalize hT1 : (T.setVm vm₁).pushCell { cls := cX, slots := kX.instanceTypes.map defaultValue, vm := .none } = T1 at X₁ st1
  have hcat : (Value.ref T.heap.size).category = 1 := rfl
  have hcellA : T1.heap[T.heap.size]? = some (freshCell cX kX) := by rw [← hT1]; exact State.heap_pushCell_size _ _
  have d3' : decode c.code (pc + 3) = .ok (.dup, 1) := by rw [hb]; exact d3
  have d4' : decode c.code (pc + 4) = .ok (.ldc is, 2) := by rw [hb]; exact d4
  have hstr' : vk_R own is text sa s' := vk_R.warm hW0 hstr
  obtain ⟨U, hsteps, hrun, hend, hW, hsame, ce, hce, hO⟩ := X₁.ctorThrowS hexec htr (own := own) (cls := cls) (names := names) (ic := ic) hown' hcls hnames h (fun x hx => nomatch hx) hfX hkX hcellA (by rw [hhp, hT]; exact Nat.le_refl _) (msg := .ref sa) rfl
    (g := { method := m, pc := pc + 6, locals := ls, stack := .ref sa :: .ref T.heap.size :: .ref T.heap.size :: rest, locked := none }) rfl hsize rfl rfl (rest := rest) rfl
    (by rw [hb]; exact d6) (by rw [hb]; exact d9) hout hRframes (by simp only [List.map_cons, List.sum_cons, hcat]; omega) hlocks
  obtain ⟨f1, f2⟩ := vx_frame hsame
  rw [hhp] at f1 f2
  have hWs : s.WarmedH U.vm := State.WarmedH.trans hW0 hW
  have hcl : s.vm.findClass cls = some ce.cls := by
    have h9 := hO.cls
    rw [hvm] at h9
    exact h9
  have hall : s.sameButNew ({ U with vm := s.vm } : State) locs mc ms := by
    subst hA
    obtain ⟨e1, e2⟩ := hsame
    rw [State.setFrames_setFrames] at e1
    have h2 : (T.setVm s.vm).sameButNew ({ U with vm := s.vm } : State) [] (0 + 1) (0 + 6) := ⟨e1, e2⟩
    have h3 := X.same.trans h2
    rw [List.append_nil] at h3
    exact h3.mono hc hs
  refine ⟨U, ?_, .threw T.heap.size, hrun, hend, Or.inr ⟨T.heap.size, rfl, cls, ce, locs, hx U hWs.alike f1 (fun q hq => f2 q hq (fun z hz => nomatch hz)), hce, hO.vm, hcl, hWs, hall, hf⟩⟩
  refine st1 _ ?_
  show Steps p.tables e below (T1.setTop { method := m, pc := pc + 3, locals := ls, stack := .ref T.heap.size :: rest, locked := none }) _
  jvm_step X₁.here [X₁.here.top, hexec, d3', Value.category]
  exact X₁.ldcString hexec (own := own) (text := text) (index := is) (a := sa) hown' hstr'.1 hstr'.2
    (g := { method := m, pc := pc + 4, locals := ls, stack := .ref T.heap.size :: .ref T.heap.size :: rest, locked := none }) rfl d4' _ hsteps
/-- 'throw new E("text")', the text by a wide index -/
theorem vx_throwSW {cc : ByteArray} {pc : Nat} (hexec : p.tables.exec = Jvm.exec) (hb : c.code = cc) (hl : l.stackTraces = false) {own cls text : String} {names : List String} {ik is ic mc ms sa : Nat} {A : Nat → Prop}
    (hown : s.vm.findClass own = some m.cls) (hcls : Bundle.fit cls = true) (hnames : ∀ n ∈ names, Bundle.fit n = true)
    (hk : (Cond.classLink own ik cls).before args s = true) (hini : (Cond.initialized cls).before args s = true) (hstr : vk_R own is text sa s) (hat : ∀ w ∈ vx_atS own ic cls names, w.before args s = true)
    (hgood : ∀ w ∈ Cond.classLink own ik cls :: Cond.initialized cls :: vx_atS own ic cls names, vx_ot w = true)
    (hU : vx_Zq Bundle.tN "UNASSIGNED_STACK" Bundle.steD A s s.heap) (hN : vx_Zq Bundle.tN "SUPPRESSED_SENTINEL" Bundle.listD A s s.heap) (hS : va_S A s.heap H locs) (hsize : ls.size = c.maxLocals)
    (d0 : decode cc pc = .ok (.new ik, 3)) (d3 : decode cc (pc + 3) = .ok (.dup, 1)) (d4 : decode cc (pc + 4) = .ok (.ldc_w is, 3)) (d7 : decode cc (pc + 7) = .ok (.invokespecial ic, 3)) (d10 : decode cc (pc + 10) = .ok (.athrow, 1))
    (hout : ∀ x ∈ c.exceptionTable.toList, covers x (pc + 10) = false)
    (hRframes : names.length + 3 < R.frames) (hRlocals : (rest.map fun v => v.category).sum + (13 * (names.length + 1) + 43) ≤ R.locals) (hRcells : cells + 1 ≤ R.cells) (hRslots : slots + 6 ≤ R.slots) (hlocks : meth.locks = false)
    (hx : ∀ t : State, s.vm.Alike t.vm → H.size ≤ t.heap.size → (∀ q : Nat, q < H.size → t.heap[q]? = H[q]?) → XC cls s t)
    (hf : ∀ z ∈ locs, free z.base) (hc : cells + 1 ≤ mc) (hs : slots + 6 ≤ ms) :
    W p l e R s m args below meth c H locs cells slots (vx_MQ below Qc XC args s mc ms free) (F0 m pc ls rest) := by
  intro T hT X
  have htr : e.platform.stackTraces = false := (show e.platform.stackTraces = l.stackTraces by rw [X.admits.platform]).trans hl
  have Y := vx_rebase X (R' := { frames := R.frames, locals := R.locals, cells := 1, slots := 6 }) (Nat.le_refl _) (Nat.le_refl _) hRcells hRslots
  obtain ⟨s', hA⟩ : ∃ z, z = (T.setVm s.vm).setFrames (.invoking m args :: below) := ⟨_, rfl⟩
  rw [← hA] at Y
  have hvm : s'.vm = s.vm := by rw [hA]; rfl
  have hhp : s'.heap = H := by rw [hA]; exact hT
  have hW0 : s.WarmedH s'.vm := by rw [hvm]; exact State.WarmedH.refl s
  have hat' : ∀ w ∈ vx_atS own ic cls names, w.before args s' = true := fun w hw => vx_ot_at hW0 hvm.symm (hgood w (List.mem_cons_of_mem _ (List.mem_cons_of_mem _ hw))) (hat w hw)
  have hk' : (Cond.classLink own ik cls).before args s' = true := vx_ot_at hW0 hvm.symm (hgood _ List.mem_cons_self) hk
  have hini' : (Cond.initialized cls).before args s' = true := vx_ot_at hW0 hvm.symm (hgood _ (List.mem_cons_of_mem _ List.mem_cons_self)) hini
  have hU' : vx_Zq Bundle.tN "UNASSIGNED_STACK" Bundle.steD A s' s'.heap := by rw [hhp]; exact vx_Zq.moved hW0.alike (hU.kept hS.2.1)
  have hN' : vx_Zq Bundle.tN "SUPPRESSED_SENTINEL" Bundle.listD A s' s'.heap := by rw [hhp]; exact vx_Zq.moved hW0.alike (hN.kept hS.2.1)
  have h : ∀ w ∈ Bundle.ownAtoms own ic cls names, w.before args s' = true := vx_own hat' (vx_isRefq hU'.1) (vx_isRefq hN'.1) hU'.2.word hN'.2.word
  have hown' : s'.vm.findClass own = some m.cls := by rw [hvm]; exact hown
  have hins : (Cond.instantiable cls 6).before args s' = true := h _ (by simp [Bundle.ownAtoms])
  obtain ⟨vm₁, cX, kX, hfX, hkX, -, -, X₁, st1⟩ := Y.newCold hexec (own := own) (C := cls) (index := ik) (n := 6) hown' hk' hins hini'
    (g := F0 m pc ls rest) rfl (by rw [hb]; exact d0) (Nat.le_refl _) (Nat.le_refl _)
  generalize hT1 : (T.setVm vm₁).pushCell { cls := cX, slots := kX.instanceTypes.map defaultValue, vm := .none } = T1 at X₁ st1
  have hcat : (Value.ref T.heap.size).category = 1 := rfl
  have hcellA : T1.heap[T.heap.size]? = some (freshCell cX kX) := by rw [← hT1]; exact State.heap_pushCell_size _ _
  have d3' : decode c.code (pc + 3) = .ok (.dup, 1) := by rw [hb]; exact d3
  have d4' : decode c.code (pc + 4) = .ok (.ldc_w is, 3) := by rw [hb]; exact d4
  have hstr' : vk_R own is text sa s' := vk_R.warm hW0 hstr
  obtain ⟨U, hsteps, hrun, hend, hW, hsame, ce, hce, hO⟩ := X₁.ctorThrowS hexec htr (own := own) (cls := cls) (names := names) (ic := ic) hown' hcls hnames h (fun x hx => nomatch hx) hfX hkX hcellA (by rw [hhp, hT]; exact Nat.le_refl _) (msg := .ref sa) rfl
    (g := { method := m, pc := pc + 7, locals := ls, stack := .ref sa :: .ref T.heap.size :: .ref T.heap.size :: rest, locked := none }) rfl hsize rfl rfl (rest := rest) rfl
    (by rw [hb]; exact d7) (by rw [hb]; exact d10) hout hRframes (by simp only [List.map_cons, List.sum_cons, hcat]; omega) hlocks
  obtain ⟨f1, f2⟩ := vx_frame hsame
  rw [hhp] at f1 f2
  have hWs : s.WarmedH U.vm := State.WarmedH.trans hW0 hW
  have hcl : s.vm.findClass cls = some ce.cls := by
    have h9 := hO.cls
    rw [hvm] at h9
    exact h9
  have hall : s.sameButNew ({ U with vm := s.vm } : State) locs mc ms := by
    subst hA
    obtain ⟨e1, e2⟩ := hsame
    rw [State.setFrames_setFrames] at e1
    have h2 : (T.setVm s.vm).sameButNew ({ U with vm := s.vm } : State) [] (0 + 1) (0 + 6) := ⟨e1, e2⟩
    have h3 := X.same.trans h2
    rw [List.append_nil] at h3
    exact h3.mono hc hs
  refine ⟨U, ?_, .threw T.heap.size, hrun, hend, Or.inr ⟨T.heap.size, rfl, cls, ce, locs, hx U hWs.alike f1 (fun q hq => f2 q hq (fun z hz => nomatch hz)), hce, hO.vm, hcl, hWs, hall, hf⟩⟩
  refine st1 _ ?_
  show Steps p.tables e below (T1.setTop { method := m, pc := pc + 3, locals := ls, stack := .ref T.heap.size :: rest, locked := none }) _
  jvm_step X₁.here [X₁.here.top, hexec, d3', Value.category]
  exact X₁.ldcStringW hexec (own := own) (text := text) (index := is) (a := sa) hown' hstr'.1 hstr'.2
    (g := { method := m, pc := pc + 4, locals := ls, stack := .ref T.heap.size :: .ref T.heap.size :: rest, locked := none }) rfl d4' _ hsteps
end Ends
section Bodies
variable {l : Launch}
theorem vx_ofW {y : MethodName} {ws ws' : List Cond} {rm : Room} {Pc : Array Value → State → Prop} {Qc : Array Value → State → Outcome → State → Prop} {XC : String → State → State → Prop} {mc ms : Nat} {free : Addr → Prop} {cc : ByteArray} {maxL : Nat} {ret : Option FieldType}
    (hy : plainName y.cls = true) (hw : ws = Cond.code y cc maxL ret :: ws')
    (body : ∀ p e s m args below meth c s₁, BodyLoose p l y (headSpec ws rm) cc maxL ret e s m args below meth c s₁ → c.maxLocals = maxL → (∀ x ∈ c.exceptionTable.toList, False) → Pc args s →
      W p l e (headSpec ws rm).room s m args below meth c s.heap [] 0 0 (vx_MQ below Qc XC args s mc ms free) (entryFrame m args maxL)) : vx_Met l y ws rm Pc Qc XC mc ms free := by
  refine MetFree.of_bodyS (code := cc) (maxLocals := maxL) (ret := ret) hy ?_ ?_
  · intro args s m h hn
    obtain ⟨meth, c, h1, h2, h3, h4, h5, h6, -, -⟩ := Cond.code_spec hn (atoms_spec (ws := ws) h _ (by rw [hw]; exact List.mem_cons_self))
    exact ⟨meth, c, h1, h2, h3, h4, h5, h6⟩
  · intro p e s m args below meth c s₁ B hml hP _
    have hh0 : s₁.heap = s.heap := by rw [B.state]; rfl
    have ht : ∀ x ∈ c.exceptionTable.toList, False := by
      obtain ⟨meth9, c9, h1, h2, -, -, -, -, h7, -⟩ := Cond.code_spec B.named (atoms_spec (ws := ws) B.pre _ (by rw [hw]; exact List.mem_cons_self))
      cases Option.some.inj (h1.symm.trans B.method)
      cases Option.some.inj (h2.symm.trans (Stand.of_body B).code)
      intro x hx
      rw [Array.isEmpty_iff.mp h7] at hx
      cases hx
    obtain ⟨t, a1, o, b1, b2, b3⟩ := body p e s m args below meth c s₁ B hml ht hP s₁ hh0 (Stand.of_body B)
    exact ⟨t, o, a1, b1, b2, b3⟩
/-- the table of a body with handlers -/
theorem vx_table {p : Program} {x y : MethodName} {S : Spec} {cc bytes : ByteArray} {maxL maxL' : Nat} {ret ret' : Option FieldType} {e : Env} {s s₁ : State} {m : MethodId} {args : Array Value} {below : List Frame} {meth : Method} {c : Code} {hh : List (Nat × Nat × Nat × Nat)}
    (B : BodyLoose p l y S cc maxL ret e s m args below meth c s₁) (h : (Cond.codeWith y bytes maxL' ret' hh).before args s = true) : c.exceptionTable.toList = tableOf hh := by
  obtain ⟨m9, meth9, c9, hn9, h1, h2, -, -, h6, -⟩ := Cond.codeWith_spec h
  cases Option.some.inj (hn9.symm.trans B.named)
  cases Option.some.inj (h1.symm.trans B.method)
  cases Option.some.inj (h2.symm.trans (Stand.of_body B).code)
  rw [← h6, table_eq]
end Bodies
end VXA
/-! ===== END ===== -/
/-! ===== BEGIN a static call of a method with an exception table ===== -/
section VXS
variable {p : Program} {l : Launch} {e : Env} {R : Room} {s : State} {m : MethodId} {args : Array Value} {below : List Frame} {meth : Method} {c : Code} {T : State} {H : Heap} {locs : List Loc} {cells slots : Nat}
abbrev vx_CSW (R : Room) (s : State) (args : Array Value) (own : String) (index : Nat) (y : MethodName) (bytes : ByteArray) (maxL : Nat) (ret : Option FieldType) (hh : List (Nat × Nat × Nat × Nat)) (ws : List Cond) (rm : Room) (mc ms n : Nat) : Prop :=
  (rm.cells = mc ∧ rm.slots = ms ∧ rm.frames + 1 ≤ R.frames ∧ 8 + (maxL + 11) + rm.locals ≤ R.locals ∧ (∀ w ∈ ws, ∀ (a' : Array Value) (U : State), s.WarmedH U.vm → w.before a' U = true) ∧ Cond.codeWith y bytes maxL ret hh ∈ ws) ∧
  (Cond.codeWith y bytes maxL ret hh).before args s = true ∧ (Cond.initialized y.cls).before args s = true ∧ (y.cls ≠ "java/lang/invoke/MethodHandle" ∧ y.cls ≠ "java/lang/invoke/VarHandle") ∧
  (∀ sig, parseMethodDescriptor y.desc = some sig → n = sig.parameters.length) ∧ (Cond.methodLink own index y).before args s = true ∧ (Cond.static y).before args s = true
theorem vx_cwSW {own : String} {index maxL mc ms : Nat} {y : MethodName} {bytes : ByteArray} {ret : Option FieldType} {hh : List (Nat × Nat × Nat × Nat)} {Ts ws ws' : List Cond} {rm : Room} (n : Nat) (ht : ∀ w ∈ Ts, w.before args s = true) (hT : GoodIn Ts (va_wsS own index y ws)) (hw : ws = Cond.codeWith y bytes maxL ret hh :: ws') (hrc : rm.cells = mc) (hrs : rm.slots = ms)
    (hd : y.cls ≠ "java/lang/invoke/MethodHandle" ∧ y.cls ≠ "java/lang/invoke/VarHandle" ∧ (parseMethodDescriptor y.desc).map (fun d => d.parameters.length) = some n) (hR : rm.frames + 1 ≤ R.frames ∧ 8 + (maxL + 11) + rm.locals ≤ R.locals) :
    vx_CSW R s args own index y bytes maxL ret hh ws rm mc ms n := by
  have ok : ∀ w ∈ va_wsS own index y ws, w.before args s = true := fun w h => ht w (hT w h).1
  have hG : GoodIn Ts ws := fun w h => hT w (by unfold va_wsS; exact List.mem_append_right _ h)
  have hc : Cond.codeWith y bytes maxL ret hh ∈ ws := by rw [hw]; exact List.mem_cons_self
  refine ⟨⟨hrc, hrs, hR.1, hR.2, pay_in ht hG, hc⟩, ht _ (hG _ hc).1, ok _ (by simp [va_wsS]), ⟨hd.1, hd.2.1⟩, fun sig h => ?_, ok _ (by simp [va_wsS]), ok _ (by simp [va_wsS])⟩
  have h2 := hd.2.2
  rw [h] at h2
  exact (Option.some.inj h2).symm
theorem vx_callSW (X : Stand p l e R s m args below meth c T locs cells slots) (hexec : p.tables.exec = Jvm.exec) {own : String} {index : Nat} {y : MethodName} {bytes : ByteArray} {maxL : Nat} {ret : Option FieldType} {hh : List (Nat × Nat × Nat × Nat)}
    (hown : s.vm.findClass own = some m.cls) (hlink : (Cond.methodLink own index y).before args s = true) (hstat : (Cond.static y).before args s = true) (hinit : (Cond.initialized y.cls).before args s = true)
    (hcode : (Cond.codeWith y bytes maxL ret hh).before args s = true) (hy : y.cls ≠ "java/lang/invoke/MethodHandle" ∧ y.cls ≠ "java/lang/invoke/VarHandle")
    {W9 : Nat} {Pre : Pt → Array Value → Prop} {Post : Pt → Array Value → Option Value → Pt → Prop} (hK : Back l R p e below s args y 3 W9 Pre Post)
    {g : JFrame} (hg : g.method = m) (hsize : g.locals.size = c.maxLocals) {argsL rest : List Value} (hlen : ∀ sig, parseMethodDescriptor y.desc = some sig → argsL.length = sig.parameters.length)
    (hstack : g.stack = argsL.reverse ++ rest) (hW : 2 * g.monitorRoom + (rest.map fun v => v.category).sum ≤ W9) (hdg : decode c.code g.pc = .ok (.invokestatic index, 3))
    (hpre : ∀ vm₁, s.WarmedH vm₁ → Pre ⟨T.setVm vm₁, locs, cells, slots⟩ argsL.toArray) :
    ∃ (v : Option Value) (vm₁ : Vm) (B : Pt), s.WarmedH vm₁ ∧ Stand p l e R s m args below meth c B.U B.locs B.cells B.slots ∧ Post ⟨T.setVm vm₁, locs, cells, slots⟩ argsL.toArray v B ∧
      ∀ target, Steps p.tables e below (B.U.setTop { g with pc := g.pc + 3, stack := v.toList ++ rest }) target → Steps p.tables e below (T.setTop g) target := by
  obtain ⟨mk, methM, cM, hnamed, hmethM, -, -, -, -, -, -, hsigM⟩ := Cond.codeWith_spec hcode
  have hstatic : methM.isStatic = true := Cond.static_spec hnamed hmethM hstat
  obtain ⟨kP, hkP, -⟩ := className_of_methodNamed hnamed
  have hinitP : kP.init = .initialized := Cond.initialized_spec (findClass_of_methodNamed hnamed) hkP hinit
  obtain ⟨vm₁, X₁, hstep₁⟩ := X.invokestatic hexec hown hlink hnamed hmethM hstatic hkP hinitP hy (g := g) hg (argsL := argsL) (rest := rest) (hlen _ hsigM) hstack hdg
  obtain ⟨v, B, X', hpost, hsteps⟩ := hK m meth c ⟨T.setVm vm₁, locs, cells, slots⟩ { g with stack := rest } (.invokestatic index) mk argsL.toArray X₁ hg hsize hdg hW (X₁.named hnamed) (hpre vm₁ X₁.warmed)
  exact ⟨v, vm₁, B, X₁.warmed, X', hpost, fun target h => hstep₁ _ fun acts => by rw [doInvoke_state]; exact hsteps.trans h⟩
theorem vx_runSW {y : MethodName} {bytes cc : ByteArray} {maxL nL mc ms n index : Nat} {ret : Option FieldType} {hh : List (Nat × Nat × Nat × Nat)} {ws : List Cond} {rm : Room} {Pc : Array Value → State → Prop} {Qc : Array Value → State → Outcome → State → Prop} {free : Addr → Prop} {Ts : List Cond} {own : String} {As rest : List Value} {g : JFrame}
    (S : CallFix p m c cc nL s args Ts own) (hM : Met l y ws rm Pc Qc mc ms free) (cw : vx_CSW R s args own index y bytes maxL ret hh ws rm mc ms n) (hp : PreS s H Pc As)
    (hg : g.method = m) (hn : As.length = n) (hsize : g.locals.size = nL) (hstack : g.stack = As.reverse ++ rest) (hW : 2 * g.monitorRoom + (rest.map fun v => v.category).sum ≤ 8) (hdg : decode cc g.pc = .ok (.invokestatic index, 3)) (hf : cells + mc ≤ R.cells ∧ slots + ms ≤ R.slots) :
    va_Run p l e R s m args below meth c H locs cells slots mc ms g rest (Qc As.toArray) (free) := by
  obtain ⟨⟨hrc, hrs, hfr, hlo, hws, hcw⟩, hcode, hini, hy, hlen, hl, hstt⟩ := cw
  have hK : Back l R p e below s args y 3 8 (PreOf R mc ms Pc) (PostOf Qc mc ms free) := va_backW (hh := hh) (bytes := bytes) (maxL := maxL) (ret := ret) hM hp.1 hrc hrs hfr hlo hws hcw (fun a' U hW => word_at hW (Or.inl (by first | rfl | simp [Cond.onTables, Cond.keeps, Cond.steady])) hini)
  obtain ⟨hx, hb, hml, ho, -⟩ := S
  intro T hT X
  obtain ⟨v, vm₁, ⟨U', l2, c2, s2⟩, hW₁, X', ⟨g', mk, t, L, e1, e2, hq, h1, hL, h2, h3⟩, st⟩ := vx_callSW X hx (hh := hh) (bytes := bytes) (maxL := maxL) (ret := ret) ho hl hstt hini hcode hy hK hg (hsize.trans hml.symm) (argsL := As) (rest := rest) (fun sig h => hn.trans (hlen sig h)) hstack hW (by rw [hb]; exact hdg)
    (fun vm₁ hW₁ => ⟨hf.1, hf.2, hp.2 (T.setVm vm₁) hT hW₁⟩)
  dsimp only [Pt.U, Pt.locs, Pt.cells, Pt.slots] at X' e1 e2 h1 h2 h3 st
  subst h1; subst h2; subst h3
  exact ⟨v, (T.setVm vm₁).calling g' mk As.toArray, t, U', L, hT, X', hL, e1, e2, hq, st⟩
/-- not caught here, past rows that name other classes: it goes on to the caller -/
theorem vx_outP {p : Program} {l : Launch} {e : Env} {R : Room} {s : State} {m : MethodId} {args : Array Value} {below : List Frame} {meth : Method} {c : Code} {H : Heap} {locs : List Loc} {cells slots : Nat} {free : Addr → Prop} {ls : Array Slot} {rest : List Value} {Qc : Array Value → State → Outcome → State → Prop} {XC : String → State → State → Prop}
    {pc : Nat} {own E : String} {ce : Cell} {q : Addr} {mc ms : Nat} (hown : s.vm.findClass own = some m.cls) (hlocks : meth.locks = false)
    (hpass : ∀ z ∈ c.exceptionTable.toList, covers z pc = false ∨ (z.catchType ≠ 0 ∧ ∃ nm : String, (Cond.classLink own z.catchType nm).before args s = true ∧ va_Nc E nm s)) (hcell : H[q]? = some ce) (hv : ce.vm = .none) (hcl : s.vm.findClass E = some ce.cls)
    (hx : ∀ t : State, t.heap = H → s.vm.Alike t.vm → XC E s t) (hf : ∀ z ∈ locs, free z.base) (hc : cells ≤ mc) (hs : slots ≤ ms) :
    vx_W p l e R s m args below meth c H locs cells slots (vx_MQ below Qc XC args s mc ms free) (F0 m pc ls rest) q := by
  intro T hT X
  have hpl : e.platform.magicAccessors = ({} : Platform).magicAccessors := by rw [X.admits.platform]
  obtain ⟨vm', hW', X', st⟩ := X.outThrough hlocks q (g := F0 m pc ls rest) rfl rfl rfl (cell := ce) (by rw [hT]; exact hcell) (by rw [hv]; rfl)
    (by obtain ⟨k9, h9, -⟩ := Vm.findClass_spec hcl; exact ⟨k9, h9⟩) (fun z hz => by
      rcases hpass z hz with h | ⟨hz0, nm, hl1, hn1⟩
      · exact Or.inl h
      · obtain ⟨c6, hc6, hcl6⟩ := Cond.classLink_spec hown hl1 e.platform hpl
        obtain ⟨a8, b8, h1, h2, h3⟩ := hn1
        cases Option.some.inj (h1.symm.trans hcl)
        cases Option.some.inj (h2.symm.trans hc6)
        exact Or.inr ⟨hz0, _, hcl6, h3⟩)
  obtain ⟨g₀, hfr⟩ := X'.frames_eq
  have hcell9 : ((T.setVm vm').setFrames (.throwing q :: below)).heap[q]? = some ce := by
    show T.heap[q]? = some ce
    rw [hT]; exact hcell
  have hend : Ended ((T.setVm vm').setFrames (.throwing q :: below)) below (.threw q) := State.frames_setFrames _ (State.cur_lt_of_frames hfr)
  refine ⟨(T.setVm vm').setFrames (.throwing q :: below), ?_, .threw q, X'.here.running, hend, Or.inr ⟨q, rfl, E, ce, locs, hx _ hT (X'.ends _).1.alike, hcell9, hv, hcl, (X'.ends _).1, (X'.ends _).2.mono hc hs, hf⟩⟩
  rw [X.pushThrowing_eq]
  exact st
/-- a thing of a world lies in the heap -/
theorem vx_lt {D : va_G} {cl : List vw_C} {ws : va_W} {H1 : Heap} (h : va_P D cl ws H1) {k : Nat} {q : Nat × va_E} (hk : ws[k]? = some q) : q.1 < H1.size := (h k q hk).lt
end VXS
/-! ===== END ===== -/
/-! ===== BEGIN methods with a table of their own: called by a name, returning or throwing ===== -/
section VXH
/-! vx_backW, vx_callVX, vx_callSX, vx_callVW, vx_runVW, vx_runVX, vx_runSX, vx_ofWH follow the same proofs as their sisters above (Free/Laws.lean, Shelf42/LK1.lean); vx_outP calls Shelf42/NT130.lean (outThrough). -/
section
variable {l : Launch} {R : Room} {p : Program} {e : Env} {below : List Frame} {s : State} {sargs : Array Value} {y : MethodName} {len W9 : Nat}
theorem vx_backW {ws : List Cond} {rm : Room} {Pc : Array Value → State → Prop} {Qc : Array Value → State → Outcome → State → Prop} {XC : String → State → State → Prop} {mc ms : Nat} {free : Addr → Prop} {bytes : ByteArray} {maxL : Nat} {ret : Option FieldType} {hh : List (Nat × Nat × Nat × Nat)}
    (hM : vx_Met l y ws rm Pc Qc XC mc ms free) (hblind : FrameBlind Pc) (hrc : rm.cells = mc) (hrs : rm.slots = ms)
    (hframes : rm.frames + 1 ≤ R.frames) (hlocals : W9 + (maxL + 11) + rm.locals ≤ R.locals)
    (hws : ∀ w ∈ ws, ∀ a' U, s.WarmedH U.vm → w.before a' U = true) (hcode : Cond.codeWith y bytes maxL ret hh ∈ ws) (hinit : ∀ a' U, s.WarmedH U.vm → (Cond.initialized y.cls).before a' U = true) :
    vx_Back l R p e below s sargs y len W9 (PreOf R mc ms Pc) (PostOf Qc mc ms free) (vx_Post XC mc ms free) := by
  intro m meth c A g ig mk a X hg hsize hdg hW hn hp
  have h1 : (headSpec ws rm).pre.before a A.U = true := atoms_intro fun w hw => hws w hw _ _ X.warmed
  have h2 : (Cond.codeWith y bytes maxL ret hh).before a A.U = true := hws _ hcode _ _ X.warmed
  have h3 : (Cond.initialized y.cls).before a A.U = true := hinit _ _ X.warmed
  have h4 : A.cells + (headSpec ws rm).room.cells ≤ R.cells := by rw [show (headSpec ws rm).room.cells = mc from hrc]; exact hp.1
  have h5 : A.slots + (headSpec ws rm).room.slots ≤ R.slots := by rw [show (headSpec ws rm).room.slots = ms from hrs]; exact hp.2.1
  have hPc : Pc a (A.U.calling g mk a) := hblind _ _ _ _ hp.2.2
  obtain ⟨U, Ls, c0, s0⟩ := A
  dsimp only [Pt.U, Pt.locs, Pt.cells, Pt.slots] at h1 h2 h3 h4 h5 X hn hPc ⊢
  obtain ⟨m9, methY, cY, hn9, hmY, hcY, -, hlY, -⟩ := Cond.codeWith_spec h2
  cases Option.some.inj (hn9.symm.trans hn)
  obtain ⟨kY, hkY, -⟩ := className_of_methodNamed hn
  have hinitY : kY.init = .initialized := Cond.initialized_spec (findClass_of_methodNamed hn) hkY h3
  have h : At U g.method c below := by rw [hg]; exact X.here
  have hlocals9 : W9 + (maxL + 11) + (headSpec ws rm).room.locals ≤ R.locals := hlocals
  have happ : (headSpec ws rm).appliesLoose y e.platform (U.calling g mk a) = true :=
    Spec.appliesLoose_calling (g := g) h hdg hn hkY hinitY
      (X.room_calling (g := g) (R' := (headSpec ws rm).room) hsize hmY hcY hframes (by rw [hlY]; omega) h4 h5) h1
  obtain ⟨mid, hmid⟩ := h.above
  have hfr : (U.setTop g).frames = (.java g :: mid) ++ below := by rw [State.frames_setTop' g h.top, hmid]; rfl
  obtain ⟨o, s₂, hsteps, -, hend, hq⟩ := Steps.callFree hM p X.admits X.cas X.clock (acts := []) hfr happ hPc trivial
  have hq' : vx_Q Qc XC mc ms free a (U.calling g mk a) o s₂ := hq
  rw [State.frames_setTop' g h.top] at hend
  obtain ⟨g₀, hg0⟩ := Option.isSome_iff_exists.mp h.top
  obtain ⟨r, hr⟩ := State.topJava?_eq_some.mp hg0
  have hr' : (({ U with heap := s₂.heap, slotsUsed := s₂.slotsUsed } : State).setVm s₂.vm).frames = .java g₀ :: r := hr
  rcases hq' with ⟨hqc, L, hfe, hL⟩ | ⟨q, rfl, E, ce, L, hx, hce, hcv, hcl, hW₂, hsm, hL⟩
  · obtain ⟨⟨v, rfl⟩, hW₂, e2, q2, q3, q4, q5, q6⟩ := id hfe
    have e3 : s₂ = ({ (U.calling g mk a).setFrames s₂.frames with heap := s₂.heap, slotsUsed := s₂.slotsUsed } : State).setVm s₂.vm := by
      have : s₂ = ({ s₂ with vm := (U.calling g mk a).vm } : State).setVm s₂.vm := rfl
      rw [e2] at this
      exact this
    obtain ⟨c₂, i₂, len₂, hc₂, hd₂, hf₂⟩ := hend
    have hW' : U.WarmedH s₂.vm := hW₂
    have hcc : c₂ = c := by
      have h1 : s₂.code? g.method = U.code? g.method := by
        rw [State.code?_eq, State.code?_eq, hW'.alike.method?]
      exact Option.some.inj (hc₂.symm.trans (h1.trans h.code))
    subst hcc
    have hlen : len₂ = len := by rw [hdg] at hd₂; cases hd₂; rfl
    subst hlen
    have hs₂ : s₂ = (({ U with heap := s₂.heap, slotsUsed := s₂.slotsUsed } : State).setVm s₂.vm).setTop { g with pc := g.pc + len₂, stack := v.toList ++ g.stack } := by
      refine e3.trans ?_
      rw [hf₂, State.calling_eq h.top, State.setFrames_setFrames, State.setTop_of_frames _ hr', hr]
      rfl
    have hsame : U.sameButNew ({ U with heap := s₂.heap, slotsUsed := s₂.slotsUsed } : State) L mc ms := by
      refine ⟨?_, q2, q3, q4, q5, q6⟩
      obtain ⟨t, ht, -⟩ := State.frames_cons hr
      show ({ U with heap := s₂.heap, slotsUsed := s₂.slotsUsed } : State) = { U.setFrames U.frames with heap := s₂.heap, slotsUsed := s₂.slotsUsed }
      rw [State.setFrames_self ht]
    subst hg
    refine Or.inl ⟨v, ⟨(({ U with heap := s₂.heap, slotsUsed := s₂.slotsUsed } : State).setVm s₂.vm), Ls ++ L, c0 + mc, s0 + ms⟩,
      ⟨X.admits, X.cas, X.clock, X.frames, X.room, X.hears, X.method, X.code, (X.here.setHeapUsed s₂.heap s₂.slotsUsed).setVm hW'.alike, X.tail, State.WarmedH.trans X.warmed hW', X.limits, X.bytes, X.same.trans (hsame.setVm s.vm)⟩,
      ⟨g, mk, s₂, L, rfl, rfl, hqc, rfl, hL, rfl, rfl⟩, ?_⟩
    show Steps p.tables e below _ ((({ U with heap := s₂.heap, slotsUsed := s₂.slotsUsed } : State).setVm s₂.vm).setTop { g with pc := g.pc + len₂, stack := v.toList ++ g.stack })
    rw [← hs₂]
    exact hsteps
  · obtain ⟨e2, q2, q3, q4, q5, q6⟩ := id hsm
    have e3 : s₂ = ({ (U.calling g mk a).setFrames s₂.frames with heap := s₂.heap, slotsUsed := s₂.slotsUsed } : State).setVm s₂.vm := by
      have : s₂ = ({ s₂ with vm := (U.calling g mk a).vm } : State).setVm s₂.vm := rfl
      rw [e2] at this
      exact this
    have hf₂ : s₂.frames = .throwing q :: .java g :: U.frames.tail := hend
    have hW' : U.WarmedH s₂.vm := hW₂
    have hs₂ : s₂ = ((({ U with heap := s₂.heap, slotsUsed := s₂.slotsUsed } : State).setVm s₂.vm).setTop g).pushFrame (.throwing q) := by
      refine e3.trans ?_
      rw [hf₂, State.calling_eq h.top, State.setFrames_setFrames, State.pushFrame, State.frames_setTop _ hr', State.setTop_of_frames _ hr', State.setFrames_setFrames, hr]
      rfl
    have hsame : U.sameButNew ({ U with heap := s₂.heap, slotsUsed := s₂.slotsUsed } : State) L mc ms := by
      refine ⟨?_, q2, q3, q4, q5, q6⟩
      obtain ⟨t, ht, -⟩ := State.frames_cons hr
      show ({ U with heap := s₂.heap, slotsUsed := s₂.slotsUsed } : State) = { U.setFrames U.frames with heap := s₂.heap, slotsUsed := s₂.slotsUsed }
      rw [State.setFrames_self ht]
    subst hg
    refine Or.inr ⟨q, ⟨(({ U with heap := s₂.heap, slotsUsed := s₂.slotsUsed } : State).setVm s₂.vm), Ls ++ L, c0 + mc, s0 + ms⟩,
      ⟨X.admits, X.cas, X.clock, X.frames, X.room, X.hears, X.method, X.code, (X.here.setHeapUsed s₂.heap s₂.slotsUsed).setVm hW'.alike, X.tail, State.WarmedH.trans X.warmed hW', X.limits, X.bytes, X.same.trans (hsame.setVm s.vm)⟩,
      ⟨g, mk, s₂, L, E, ce, rfl, rfl, hx, hce, hcv, hcl, rfl, hL, rfl, rfl⟩, ?_⟩
    show Steps p.tables e below _ (((({ U with heap := s₂.heap, slotsUsed := s₂.slotsUsed } : State).setVm s₂.vm).setTop g).pushFrame (.throwing q))
    rw [← hs₂]
    exact hsteps
end
variable {p : Program} {l : Launch} {e : Env} {R : Room} {s : State} {m : MethodId} {args : Array Value} {below : List Frame} {meth : Method} {c : Code} {T : State} {H : Heap} {locs : List Loc} {cells slots : Nat}
theorem vx_callVX (X : Stand p l e R s m args below meth c T locs cells slots) (hexec : p.tables.exec = Jvm.exec) {own C : String} {index : Nat} {y : MethodName} {bytes : ByteArray} {maxL : Nat} {ret : Option FieldType} {hh : List (Nat × Nat × Nat × Nat)}
    (hown : s.vm.findClass own = some m.cls) (hlink : (Cond.methodLink own index y).before args s = true) (hinst : (Cond.instanceMethod y).before args s = true) (hsel : (Cond.selects C y y).before args s = true)
    (hcode : (Cond.codeWith y bytes maxL ret hh).before args s = true) (hy : y.cls ≠ "java/lang/invoke/MethodHandle" ∧ y.cls ≠ "java/lang/invoke/VarHandle")
    {W9 : Nat} {Pre : Pt → Array Value → Prop} {Post : Pt → Array Value → Option Value → Pt → Prop} {PostX : Pt → Array Value → Addr → Pt → Prop} (hK : vx_Back l R p e below s args y 3 W9 Pre Post PostX)
    {b : Addr} {cellB : Cell} (hcell : T.heap[b]? = some cellB) (hobj : cellB.vm.isStatics = false) (hcls : s.vm.findClass C = some cellB.cls)
    {g : JFrame} (hg : g.method = m) (hsize : g.locals.size = c.maxLocals) {argsL rest : List Value} (hlen : ∀ sig, parseMethodDescriptor y.desc = some sig → argsL.length = sig.parameters.length)
    (hstack : g.stack = argsL.reverse ++ .ref b :: rest) (hW : 2 * g.monitorRoom + (rest.map fun v => v.category).sum ≤ W9) (hdg : decode c.code g.pc = .ok (.invokevirtual index, 3))
    (hpre : ∀ vm₁, s.WarmedH vm₁ → Pre ⟨T.setVm vm₁, locs, cells, slots⟩ (Value.ref b :: argsL).toArray) :
    (∃ (v : Option Value) (vm₁ : Vm) (B : Pt), s.WarmedH vm₁ ∧ Stand p l e R s m args below meth c B.U B.locs B.cells B.slots ∧ Post ⟨T.setVm vm₁, locs, cells, slots⟩ (Value.ref b :: argsL).toArray v B ∧
      ∀ target, Steps p.tables e below (B.U.setTop { g with pc := g.pc + 3, stack := v.toList ++ rest }) target → Steps p.tables e below (T.setTop g) target) ∨
    (∃ (q : Addr) (vm₁ : Vm) (B : Pt), s.WarmedH vm₁ ∧ Stand p l e R s m args below meth c B.U B.locs B.cells B.slots ∧ PostX ⟨T.setVm vm₁, locs, cells, slots⟩ (Value.ref b :: argsL).toArray q B ∧
      Steps p.tables e below (T.setTop g) ((B.U.setTop { g with stack := rest }).pushFrame (.throwing q))) := by
  obtain ⟨mk, methM, hnamed, hmethM, hstM, habM⟩ := Cond.instanceMethod_spec hinst
  obtain ⟨m8, methM', cM, hn8, hmethM', -, -, -, -, -, -, hsigM⟩ := Cond.codeWith_spec hcode
  cases Option.some.inj (hn8.symm.trans hnamed)
  cases hmethM.symm.trans hmethM'
  obtain ⟨c2, r2, m2, q1, q2, q3, q4, kP, hkP, hkPi⟩ := Cond.selects_spec hsel
  cases hcls.symm.trans q1
  cases (State.methodFound?_of_named hnamed hy).symm.trans q2
  cases hnamed.symm.trans q3
  have hselP : selectMethod e.platform s.vm cellB.cls mk = .method mk := by rw [Launch.admits_selectMethod X.admits]; exact q4
  obtain ⟨vm₁, X₁, hstep₁⟩ := X.invokevirtual hexec hown hlink hnamed hmethM hstM hkP hkPi hy (a := b) (cell := cellB) hcell
    (fun z h => by rw [h] at hobj; cases hobj) hselP hmethM habM hkP hkPi (g := g) hg (argsL := argsL) (rest := rest) (hlen _ hsigM) hstack hdg
  rcases hK m meth c ⟨T.setVm vm₁, locs, cells, slots⟩ { g with stack := rest } (.invokevirtual index) mk (Value.ref b :: argsL).toArray X₁ hg hsize hdg hW (X₁.named hnamed) (hpre vm₁ X₁.warmed) with ⟨v, B, X', hpost, hsteps⟩ | ⟨q, B, X', hpost, hsteps⟩
  · exact Or.inl ⟨v, vm₁, B, X₁.warmed, X', hpost, fun target h => hstep₁ _ fun acts => by rw [doInvoke_state]; exact hsteps.trans h⟩
  · exact Or.inr ⟨q, vm₁, B, X₁.warmed, X', hpost, hstep₁ _ fun acts => by rw [doInvoke_state]; exact hsteps⟩
theorem vx_callSX (X : Stand p l e R s m args below meth c T locs cells slots) (hexec : p.tables.exec = Jvm.exec) {own : String} {index : Nat} {y : MethodName} {bytes : ByteArray} {maxL : Nat} {ret : Option FieldType} {hh : List (Nat × Nat × Nat × Nat)}
    (hown : s.vm.findClass own = some m.cls) (hlink : (Cond.methodLink own index y).before args s = true) (hstat : (Cond.static y).before args s = true) (hinit : (Cond.initialized y.cls).before args s = true)
    (hcode : (Cond.codeWith y bytes maxL ret hh).before args s = true) (hy : y.cls ≠ "java/lang/invoke/MethodHandle" ∧ y.cls ≠ "java/lang/invoke/VarHandle")
    {W9 : Nat} {Pre : Pt → Array Value → Prop} {Post : Pt → Array Value → Option Value → Pt → Prop} {PostX : Pt → Array Value → Addr → Pt → Prop} (hK : vx_Back l R p e below s args y 3 W9 Pre Post PostX)
    {g : JFrame} (hg : g.method = m) (hsize : g.locals.size = c.maxLocals) {argsL rest : List Value} (hlen : ∀ sig, parseMethodDescriptor y.desc = some sig → argsL.length = sig.parameters.length)
    (hstack : g.stack = argsL.reverse ++ rest) (hW : 2 * g.monitorRoom + (rest.map fun v => v.category).sum ≤ W9) (hdg : decode c.code g.pc = .ok (.invokestatic index, 3))
    (hpre : ∀ vm₁, s.WarmedH vm₁ → Pre ⟨T.setVm vm₁, locs, cells, slots⟩ argsL.toArray) :
    (∃ (v : Option Value) (vm₁ : Vm) (B : Pt), s.WarmedH vm₁ ∧ Stand p l e R s m args below meth c B.U B.locs B.cells B.slots ∧ Post ⟨T.setVm vm₁, locs, cells, slots⟩ argsL.toArray v B ∧
      ∀ target, Steps p.tables e below (B.U.setTop { g with pc := g.pc + 3, stack := v.toList ++ rest }) target → Steps p.tables e below (T.setTop g) target) ∨
    (∃ (q : Addr) (vm₁ : Vm) (B : Pt), s.WarmedH vm₁ ∧ Stand p l e R s m args below meth c B.U B.locs B.cells B.slots ∧ PostX ⟨T.setVm vm₁, locs, cells, slots⟩ argsL.toArray q B ∧
      Steps p.tables e below (T.setTop g) ((B.U.setTop { g with stack := rest }).pushFrame (.throwing q))) := by
  obtain ⟨mk, methM, cM, hnamed, hmethM, -, -, -, -, -, -, hsigM⟩ := Cond.codeWith_spec hcode
  have hstatic : methM.isStatic = true := Cond.static_spec hnamed hmethM hstat
  obtain ⟨kP, hkP, -⟩ := className_of_methodNamed hnamed
  have hinitP : kP.init = .initialized := Cond.initialized_spec (findClass_of_methodNamed hnamed) hkP hinit
  obtain ⟨vm₁, X₁, hstep₁⟩ := X.invokestatic hexec hown hlink hnamed hmethM hstatic hkP hinitP hy (g := g) hg (argsL := argsL) (rest := rest) (hlen _ hsigM) hstack hdg
  rcases hK m meth c ⟨T.setVm vm₁, locs, cells, slots⟩ { g with stack := rest } (.invokestatic index) mk argsL.toArray X₁ hg hsize hdg hW (X₁.named hnamed) (hpre vm₁ X₁.warmed) with ⟨v, B, X', hpost, hsteps⟩ | ⟨q, B, X', hpost, hsteps⟩
  · exact Or.inl ⟨v, vm₁, B, X₁.warmed, X', hpost, fun target h => hstep₁ _ fun acts => by rw [doInvoke_state]; exact hsteps.trans h⟩
  · exact Or.inr ⟨q, vm₁, B, X₁.warmed, X', hpost, hstep₁ _ fun acts => by rw [doInvoke_state]; exact hsteps⟩
theorem vx_callVW (X : Stand p l e R s m args below meth c T locs cells slots) (hexec : p.tables.exec = Jvm.exec) {own C : String} {index : Nat} {y : MethodName} {bytes : ByteArray} {maxL : Nat} {ret : Option FieldType} {hh : List (Nat × Nat × Nat × Nat)}
    (hown : s.vm.findClass own = some m.cls) (hlink : (Cond.methodLink own index y).before args s = true) (hinst : (Cond.instanceMethod y).before args s = true) (hsel : (Cond.selects C y y).before args s = true)
    (hcode : (Cond.codeWith y bytes maxL ret hh).before args s = true) (hy : y.cls ≠ "java/lang/invoke/MethodHandle" ∧ y.cls ≠ "java/lang/invoke/VarHandle")
    {W9 : Nat} {Pre : Pt → Array Value → Prop} {Post : Pt → Array Value → Option Value → Pt → Prop} (hK : Back l R p e below s args y 3 W9 Pre Post)
    {b : Addr} {cellB : Cell} (hcell : T.heap[b]? = some cellB) (hobj : cellB.vm.isStatics = false) (hcls : s.vm.findClass C = some cellB.cls)
    {g : JFrame} (hg : g.method = m) (hsize : g.locals.size = c.maxLocals) {argsL rest : List Value} (hlen : ∀ sig, parseMethodDescriptor y.desc = some sig → argsL.length = sig.parameters.length)
    (hstack : g.stack = argsL.reverse ++ .ref b :: rest) (hW : 2 * g.monitorRoom + (rest.map fun v => v.category).sum ≤ W9) (hdg : decode c.code g.pc = .ok (.invokevirtual index, 3))
    (hpre : ∀ vm₁, s.WarmedH vm₁ → Pre ⟨T.setVm vm₁, locs, cells, slots⟩ (Value.ref b :: argsL).toArray) :
    ∃ (v : Option Value) (vm₁ : Vm) (B : Pt), s.WarmedH vm₁ ∧ Stand p l e R s m args below meth c B.U B.locs B.cells B.slots ∧ Post ⟨T.setVm vm₁, locs, cells, slots⟩ (Value.ref b :: argsL).toArray v B ∧
      ∀ target, Steps p.tables e below (B.U.setTop { g with pc := g.pc + 3, stack := v.toList ++ rest }) target → Steps p.tables e below (T.setTop g) target := by
  obtain ⟨mk, methM, hnamed, hmethM, hstM, habM⟩ := Cond.instanceMethod_spec hinst
  obtain ⟨m8, methM', cM, hn8, hmethM', -, -, -, -, -, -, hsigM⟩ := Cond.codeWith_spec hcode
  cases Option.some.inj (hn8.symm.trans hnamed)
  cases hmethM.symm.trans hmethM'
  obtain ⟨c2, r2, m2, q1, q2, q3, q4, kP, hkP, hkPi⟩ := Cond.selects_spec hsel
  cases hcls.symm.trans q1
  cases (State.methodFound?_of_named hnamed hy).symm.trans q2
  cases hnamed.symm.trans q3
  have hselP : selectMethod e.platform s.vm cellB.cls mk = .method mk := by rw [Launch.admits_selectMethod X.admits]; exact q4
  obtain ⟨vm₁, X₁, hstep₁⟩ := X.invokevirtual hexec hown hlink hnamed hmethM hstM hkP hkPi hy (a := b) (cell := cellB) hcell
    (fun z h => by rw [h] at hobj; cases hobj) hselP hmethM habM hkP hkPi (g := g) hg (argsL := argsL) (rest := rest) (hlen _ hsigM) hstack hdg
  obtain ⟨v, B, X', hpost, hsteps⟩ := hK m meth c ⟨T.setVm vm₁, locs, cells, slots⟩ { g with stack := rest } (.invokevirtual index) mk (Value.ref b :: argsL).toArray X₁ hg hsize hdg hW (X₁.named hnamed) (hpre vm₁ X₁.warmed)
  exact ⟨v, vm₁, B, X₁.warmed, X', hpost, fun target h => hstep₁ _ fun acts => by rw [doInvoke_state]; exact hsteps.trans h⟩
abbrev vx_CVW (R : Room) (s : State) (args : Array Value) (own C : String) (index : Nat) (y : MethodName) (bytes : ByteArray) (maxL : Nat) (ret : Option FieldType) (hh : List (Nat × Nat × Nat × Nat)) (ws : List Cond) (rm : Room) (mc ms n : Nat) : Prop :=
  (rm.cells = mc ∧ rm.slots = ms ∧ rm.frames + 1 ≤ R.frames ∧ 8 + (maxL + 11) + rm.locals ≤ R.locals ∧ (∀ w ∈ ws, ∀ (a' : Array Value) (U : State), s.WarmedH U.vm → w.before a' U = true) ∧ Cond.codeWith y bytes maxL ret hh ∈ ws) ∧
  (Cond.codeWith y bytes maxL ret hh).before args s = true ∧ (Cond.initialized y.cls).before args s = true ∧ (y.cls ≠ "java/lang/invoke/MethodHandle" ∧ y.cls ≠ "java/lang/invoke/VarHandle") ∧
  (∀ sig, parseMethodDescriptor y.desc = some sig → n = sig.parameters.length) ∧ (Cond.methodLink own index y).before args s = true ∧ (Cond.instanceMethod y).before args s = true ∧ (Cond.selects C y y).before args s = true
theorem vx_cwVW {own C : String} {index maxL mc ms : Nat} {y : MethodName} {bytes : ByteArray} {ret : Option FieldType} {hh : List (Nat × Nat × Nat × Nat)} {Ts ws ws' : List Cond} {rm : Room} (n : Nat) (ht : ∀ w ∈ Ts, w.before args s = true) (hT : GoodIn Ts (wsV own index C y ws)) (hw : ws = Cond.codeWith y bytes maxL ret hh :: ws') (hrc : rm.cells = mc) (hrs : rm.slots = ms)
    (hd : y.cls = C ∧ y.cls ≠ "java/lang/invoke/MethodHandle" ∧ y.cls ≠ "java/lang/invoke/VarHandle" ∧ (parseMethodDescriptor y.desc).map (fun d => d.parameters.length) = some n) (hR : rm.frames + 1 ≤ R.frames ∧ 8 + (maxL + 11) + rm.locals ≤ R.locals) :
    vx_CVW R s args own C index y bytes maxL ret hh ws rm mc ms n := by
  obtain ⟨hC, hd⟩ := hd
  subst hC
  have ok : ∀ w ∈ wsV own index y.cls y ws, w.before args s = true := fun w h => ht w (hT w h).1
  have hG : GoodIn Ts ws := fun w h => hT w (by unfold wsV; exact List.mem_append_right _ h)
  have hc : Cond.codeWith y bytes maxL ret hh ∈ ws := by rw [hw]; exact List.mem_cons_self
  refine ⟨⟨hrc, hrs, hR.1, hR.2, pay_in ht hG, hc⟩, ht _ (hG _ hc).1, ok _ (by simp [wsV]), ⟨hd.1, hd.2.1⟩, fun sig h => ?_, ok _ (by simp [wsV]), ok _ (by simp [wsV]), ok _ (by simp [wsV])⟩
  have h2 := hd.2.2
  rw [h] at h2
  exact (Option.some.inj h2).symm
theorem vx_runVW {y : MethodName} {bytes cc : ByteArray} {maxL nL mc ms n index : Nat} {ret : Option FieldType} {hh : List (Nat × Nat × Nat × Nat)} {ws : List Cond} {rm : Room} {Pc : Array Value → State → Prop} {Qc : Array Value → State → Outcome → State → Prop} {free : Addr → Prop} {Ts : List Cond} {own C : String} {b : Addr} {As rest : List Value} {g : JFrame}
    (S : CallFix p m c cc nL s args Ts own) (hM : Met l y ws rm Pc Qc mc ms free) (cw : vx_CVW R s args own C index y bytes maxL ret hh ws rm mc ms n) (hp : PreV s H C b Pc As)
    (hg : g.method = m) (hn : As.length = n) (hsize : g.locals.size = nL) (hstack : g.stack = As.reverse ++ .ref b :: rest) (hW : 2 * g.monitorRoom + (rest.map fun v => v.category).sum ≤ 8) (hdg : decode cc g.pc = .ok (.invokevirtual index, 3)) (hf : cells + mc ≤ R.cells ∧ slots + ms ≤ R.slots) :
    va_Run p l e R s m args below meth c H locs cells slots mc ms g rest (Qc (Value.ref b :: As).toArray) free := by
  obtain ⟨⟨hrc, hrs, hfr, hlo, hws, hcw⟩, hcode, hini, hy, hlen, hl, hin, hse⟩ := cw
  have hK : Back l R p e below s args y 3 8 (PreOf R mc ms Pc) (PostOf Qc mc ms free) := va_backW (hh := hh) (bytes := bytes) (maxL := maxL) (ret := ret) hM hp.1 hrc hrs hfr hlo hws hcw (fun a' U hW => word_at hW (Or.inl (by first | rfl | simp [Cond.onTables, Cond.keeps, Cond.steady])) hini)
  obtain ⟨hx, hb, hml, ho, -⟩ := S
  obtain ⟨-, ⟨cellB, hcB, hoB, hclB⟩, hPc⟩ := hp
  intro T hT X
  obtain ⟨v, vm₁, ⟨U', l2, c2, s2⟩, hW₁, X', ⟨g', mk, t, L, e1, e2, hq, h1, hL, h2, h3⟩, st⟩ := vx_callVW X hx (C := C) (hh := hh) (bytes := bytes) (maxL := maxL) (ret := ret) ho hl hin hse hcode hy hK (by rw [hT]; exact hcB) hoB hclB hg (hsize.trans hml.symm) (argsL := As) (rest := rest) (fun sig h => hn.trans (hlen sig h)) hstack hW (by rw [hb]; exact hdg)
    (fun vm₁ hW₁ => ⟨hf.1, hf.2, hPc (T.setVm vm₁) hT hW₁⟩)
  dsimp only [Pt.U, Pt.locs, Pt.cells, Pt.slots] at X' e1 e2 h1 h2 h3 st
  subst h1; subst h2; subst h3
  exact ⟨v, (T.setVm vm₁).calling g' mk (Value.ref b :: As).toArray, t, U', L, hT, X', hL, e1, e2, hq, st⟩
section
variable {y : MethodName} {bytes cc : ByteArray} {maxL nL mc ms n index : Nat} {ret : Option FieldType} {ws : List Cond} {rm : Room} {Pc : Array Value → State → Prop} {Qc : Array Value → State → Outcome → State → Prop} {XC : String → State → State → Prop} {free : Addr → Prop} {Ts : List Cond} {own C : String} {b : Addr} {As rest : List Value} {g : JFrame}
theorem vx_runVX {hh : List (Nat × Nat × Nat × Nat)} (S : CallFix p m c cc nL s args Ts own) (hM : vx_Met l y ws rm Pc Qc XC mc ms free) (cw : vx_CVW R s args own C index y bytes maxL ret hh ws rm mc ms n) (hp : PreV s H C b Pc As)
    (hg : g.method = m) (hn : As.length = n) (hsize : g.locals.size = nL) (hstack : g.stack = As.reverse ++ .ref b :: rest) (hW : 2 * g.monitorRoom + (rest.map fun v => v.category).sum ≤ 8) (hdg : decode cc g.pc = .ok (.invokevirtual index, 3)) (hf : cells + mc ≤ R.cells ∧ slots + ms ≤ R.slots) :
    vx_Run p l e R s m args below meth c H locs cells slots mc ms g rest (Qc (Value.ref b :: As).toArray) XC free := by
  obtain ⟨⟨hrc, hrs, hfr, hlo, hws, hcw⟩, hcode, hini, hy, hlen, hl, hin, hse⟩ := cw
  have hK : vx_Back l R p e below s args y 3 8 (PreOf R mc ms Pc) (PostOf Qc mc ms free) (vx_Post XC mc ms free) := vx_backW (hh := hh) (bytes := bytes) (maxL := maxL) (ret := ret) hM hp.1 hrc hrs hfr hlo hws hcw (fun a' U hW => word_at hW (Or.inl (by first | rfl | simp [Cond.onTables, Cond.keeps, Cond.steady])) hini)
  obtain ⟨hx, hb, hml, ho, -⟩ := S
  obtain ⟨-, ⟨cellB, hcB, hoB, hclB⟩, hPc⟩ := hp
  intro T hT X
  rcases vx_callVX X hx (C := C) (hh := hh) (bytes := bytes) (maxL := maxL) (ret := ret) ho hl hin hse hcode hy hK (by rw [hT]; exact hcB) hoB hclB hg (hsize.trans hml.symm) (argsL := As) (rest := rest) (fun sig h => hn.trans (hlen sig h)) hstack hW (by rw [hb]; exact hdg)
    (fun vm₁ hW₁ => ⟨hf.1, hf.2, hPc (T.setVm vm₁) hT hW₁⟩) with ⟨v, vm₁, ⟨U', l2, c2, s2⟩, hW₁, X', ⟨g', mk, t, L, e1, e2, hq, h1, hL, h2, h3⟩, st⟩ | ⟨q, vm₁, ⟨U', l2, c2, s2⟩, hW₁, X', ⟨g', mk, t, L, E, ce, e1, e2, hq, hce, hcv, hcl, h1, hL, h2, h3⟩, st⟩
  · dsimp only [Pt.U, Pt.locs, Pt.cells, Pt.slots] at X' e1 e2 h1 h2 h3 st
    subst h1; subst h2; subst h3
    exact Or.inl ⟨v, (T.setVm vm₁).calling g' mk (Value.ref b :: As).toArray, t, U', L, hT, X', hL, e1, e2, hq, st⟩
  · dsimp only [Pt.U, Pt.locs, Pt.cells, Pt.slots] at X' e1 e2 h1 h2 h3 st hcl
    subst h1; subst h2; subst h3
    exact Or.inr ⟨q, (T.setVm vm₁).calling g' mk (Value.ref b :: As).toArray, t, U', L, E, ce, hT, X', hL, e1, e2, hq, hce, hcv, vx_cls hW₁ hcl, st⟩
theorem vx_runSX {hh : List (Nat × Nat × Nat × Nat)} (S : CallFix p m c cc nL s args Ts own) (hM : vx_Met l y ws rm Pc Qc XC mc ms free) (cw : vx_CSW R s args own index y bytes maxL ret hh ws rm mc ms n) (hp : PreS s H Pc As)
    (hg : g.method = m) (hn : As.length = n) (hsize : g.locals.size = nL) (hstack : g.stack = As.reverse ++ rest) (hW : 2 * g.monitorRoom + (rest.map fun v => v.category).sum ≤ 8) (hdg : decode cc g.pc = .ok (.invokestatic index, 3)) (hf : cells + mc ≤ R.cells ∧ slots + ms ≤ R.slots) :
    vx_Run p l e R s m args below meth c H locs cells slots mc ms g rest (Qc As.toArray) XC free := by
  obtain ⟨⟨hrc, hrs, hfr, hlo, hws, hcw⟩, hcode, hini, hy, hlen, hl, hstt⟩ := cw
  have hK : vx_Back l R p e below s args y 3 8 (PreOf R mc ms Pc) (PostOf Qc mc ms free) (vx_Post XC mc ms free) := vx_backW (hh := hh) (bytes := bytes) (maxL := maxL) (ret := ret) hM hp.1 hrc hrs hfr hlo hws hcw (fun a' U hW => word_at hW (Or.inl (by first | rfl | simp [Cond.onTables, Cond.keeps, Cond.steady])) hini)
  obtain ⟨hx, hb, hml, ho, -⟩ := S
  intro T hT X
  rcases vx_callSX X hx (hh := hh) (bytes := bytes) (maxL := maxL) (ret := ret) ho hl hstt hini hcode hy hK hg (hsize.trans hml.symm) (argsL := As) (rest := rest) (fun sig h => hn.trans (hlen sig h)) hstack hW (by rw [hb]; exact hdg)
    (fun vm₁ hW₁ => ⟨hf.1, hf.2, hp.2 (T.setVm vm₁) hT hW₁⟩) with ⟨v, vm₁, ⟨U', l2, c2, s2⟩, hW₁, X', ⟨g', mk, t, L, e1, e2, hq, h1, hL, h2, h3⟩, st⟩ | ⟨q, vm₁, ⟨U', l2, c2, s2⟩, hW₁, X', ⟨g', mk, t, L, E, ce, e1, e2, hq, hce, hcv, hcl, h1, hL, h2, h3⟩, st⟩
  · dsimp only [Pt.U, Pt.locs, Pt.cells, Pt.slots] at X' e1 e2 h1 h2 h3 st
    subst h1; subst h2; subst h3
    exact Or.inl ⟨v, (T.setVm vm₁).calling g' mk As.toArray, t, U', L, hT, X', hL, e1, e2, hq, st⟩
  · dsimp only [Pt.U, Pt.locs, Pt.cells, Pt.slots] at X' e1 e2 h1 h2 h3 st hcl
    subst h1; subst h2; subst h3
    exact Or.inr ⟨q, (T.setVm vm₁).calling g' mk As.toArray, t, U', L, E, ce, hT, X', hL, e1, e2, hq, hce, hcv, vx_cls hW₁ hcl, st⟩
end
end VXH
theorem vx_ofWH {l : Launch} {y : MethodName} {ws ws' : List Cond} {rm : Room} {Pc : Array Value → State → Prop} {Qc : Array Value → State → Outcome → State → Prop} {XC : String → State → State → Prop} {mc ms : Nat} {free : Addr → Prop} {cc : ByteArray} {maxL : Nat} {ret : Option FieldType} {hh : List (Nat × Nat × Nat × Nat)}
    (hy : plainName y.cls = true) (hw : ws = Cond.codeWith y cc maxL ret hh :: ws')
    (body : ∀ p e s m args below meth c s₁, BodyLoose p l y (headSpec ws rm) cc maxL ret e s m args below meth c s₁ → c.maxLocals = maxL → Pc args s →
      W p l e (headSpec ws rm).room s m args below meth c s.heap [] 0 0 (vx_MQ below Qc XC args s mc ms free) (entryFrame m args maxL)) : vx_Met l y ws rm Pc Qc XC mc ms free := by
  refine MetFree.of_bodyS (code := cc) (maxLocals := maxL) (ret := ret) hy ?_ ?_
  · intro args s m h hn
    obtain ⟨m9, meth, c, hn9, h1, h2, h3, h4, -, h5, h6, -⟩ := Cond.codeWith_spec (atoms_spec (ws := ws) h _ (by rw [hw]; exact List.mem_cons_self))
    cases hn.symm.trans hn9
    exact ⟨meth, c, h1, h2, h3, h4, h5, h6⟩
  · intro p e s m args below meth c s₁ B hml hP _
    have hh0 : s₁.heap = s.heap := by rw [B.state]; rfl
    obtain ⟨t, a1, o, b1, b2, b3⟩ := body p e s m args below meth c s₁ B hml hP s₁ hh0 (Stand.of_body B)
    exact ⟨t, o, a1, b1, b2, b3⟩
/-! ===== END ===== -/
end
section
/-! ===== BEGIN printed: names, fields, word lists, decode rows ===== -/
def RX0 : String := "PhraseCatalogue$Form"
def TX0 : u_T := fun k => match k with
  | 0 => ("PhraseCatalogue$Form", "signs", "[I", true)
  | 1 => ("PhraseCatalogue$Form", "mayLack", "Z", true)
  | _ => ("PhraseCatalogue$Form", "placeholders", "I", true)
def tyX0 : Nat → FieldType := fun k => match k with
  | 0 => .array .int
  | 1 => .boolean
  | _ => .int
abbrev wsX00 : List Cond := u_ws RX0 TX0 3
theorem nmX0 : ∀ a, a < 3 → ∀ b, b < 3 → a ≠ b → (TX0 a).2.1 ≠ (TX0 b).2.1 := by decide +kernel
theorem tyX0_ok : ∀ k, k < 3 → parseFieldDescriptor (TX0 k).2.2.1 = some (tyX0 k) := by decide +kernel
abbrev cX0_init : ByteArray := prog_2_method_1_code
def yX0_init : MethodName := ⟨RX0, "<init>", "([IZI)V"⟩
def RX1 : String := "PhraseCatalogue$Pair"
def TX1 : u_T := fun k => match k with
  | 0 => ("PhraseCatalogue$Pair", "language", "I", true)
  | 1 => ("PhraseCatalogue$Pair", "old", "LPhraseCatalogue$Form;", true)
  | _ => ("PhraseCatalogue$Pair", "translation", "LPhraseCatalogue$Form;", true)
def tyX1 : Nat → FieldType := fun k => match k with
  | 0 => .int
  | 1 => .object "PhraseCatalogue$Form"
  | _ => .object "PhraseCatalogue$Form"
abbrev wsX10 : List Cond := u_ws RX1 TX1 3
theorem nmX1 : ∀ a, a < 3 → ∀ b, b < 3 → a ≠ b → (TX1 a).2.1 ≠ (TX1 b).2.1 := by decide +kernel
theorem tyX1_ok : ∀ k, k < 3 → parseFieldDescriptor (TX1 k).2.2.1 = some (tyX1 k) := by decide +kernel
abbrev cX1_init : ByteArray := prog_3_method_1_code
def yX1_init : MethodName := ⟨RX1, "<init>", "(ILPhraseCatalogue$Form;LPhraseCatalogue$Form;)V"⟩
def RX2 : String := "PhraseCatalogue"
def TX2 : u_T := fun k => match k with
  | 0 => ("PhraseCatalogue", "fallbacks", "[I", true)
  | 1 => ("PhraseCatalogue", "onesLimits", "[I", true)
  | 2 => ("PhraseCatalogue", "fewLimits", "[I", true)
  | 3 => ("PhraseCatalogue", "draftSigns", "[I", true)
  | 4 => ("PhraseCatalogue", "draftLength", "I", false)
  | 5 => ("PhraseCatalogue", "formTable", "[LPhraseCatalogue$Form;", true)
  | 6 => ("PhraseCatalogue", "sourceVersions", "[I", true)
  | 7 => ("PhraseCatalogue", "seenVersions", "[I", true)
  | 8 => ("PhraseCatalogue", "past", "Ljava/util/ArrayList;", true)
  | _ => ("PhraseCatalogue", "distanceRow", "[I", true)
def tyX2 : Nat → FieldType := fun k => match k with
  | 0 => .array .int
  | 1 => .array .int
  | 2 => .array .int
  | 3 => .array .int
  | 4 => .int
  | 5 => .array (.object "PhraseCatalogue$Form")
  | 6 => .array .int
  | 7 => .array .int
  | 8 => .object "java/util/ArrayList"
  | _ => .array .int
abbrev wsX20 : List Cond := u_ws RX2 TX2 10
theorem nmX2 : ∀ a, a < 10 → ∀ b, b < 10 → a ≠ b → (TX2 a).2.1 ≠ (TX2 b).2.1 := by decide +kernel
theorem tyX2_ok : ∀ k, k < 10 → parseFieldDescriptor (TX2 k).2.2.1 = some (tyX2 k) := by decide +kernel
abbrev cX2_init : ByteArray := prog_1_method_1_code
def yX2_init : MethodName := ⟨RX2, "<init>", "()V"⟩
abbrev cX2_setFallback : ByteArray := prog_1_method_2_code
def yX2_setFallback : MethodName := ⟨RX2, "setFallback", "(II)I"⟩
abbrev cX2_setNumbers : ByteArray := prog_1_method_3_code
def yX2_setNumbers : MethodName := ⟨RX2, "setNumbers", "(III)V"⟩
abbrev cX2_sign : ByteArray := prog_1_method_4_code
def yX2_sign : MethodName := ⟨RX2, "sign", "(I)I"⟩
abbrev cX2_set : ByteArray := prog_1_method_5_code
def yX2_set : MethodName := ⟨RX2, "set", "(IIIIZ)I"⟩
abbrev cX2_remove : ByteArray := prog_1_method_6_code
def yX2_remove : MethodName := ⟨RX2, "remove", "(IIII)I"⟩
abbrev cX2_draft : ByteArray := prog_1_method_7_code
def yX2_draft : MethodName := ⟨RX2, "draft", "()I"⟩
abbrev cX2_kindOf : ByteArray := prog_1_method_8_code
def yX2_kindOf : MethodName := ⟨RX2, "kindOf", "(II)I"⟩
abbrev cX2_forms : ByteArray := prog_1_method_9_code
def yX2_forms : MethodName := ⟨RX2, "forms", "(II)I"⟩
abbrev cX2_version : ByteArray := prog_1_method_10_code
def yX2_version : MethodName := ⟨RX2, "version", "(I)I"⟩
abbrev cX2_staleBy : ByteArray := prog_1_method_11_code
def yX2_staleBy : MethodName := ⟨RX2, "staleBy", "(II)I"⟩
abbrev cX2_missing : ByteArray := prog_1_method_12_code
def yX2_missing : MethodName := ⟨RX2, "missing", "(I)I"⟩
abbrev cX2_fits : ByteArray := prog_1_method_13_code
def yX2_fits : MethodName := ⟨RX2, "fits", "(IIII)Z"⟩
abbrev cX2_toldBy : ByteArray := prog_1_method_14_code
def yX2_toldBy : MethodName := ⟨RX2, "toldBy", "(IIII)I"⟩
abbrev cX2_toldByLooking : ByteArray := prog_1_method_15_code
def yX2_toldByLooking : MethodName := ⟨RX2, "toldByLooking", "(IIII)I"⟩
abbrev cX2_toldForm : ByteArray := prog_1_method_16_code
def yX2_toldForm : MethodName := ⟨RX2, "toldForm", "(IIII)I"⟩
abbrev cX2_toldSign : ByteArray := prog_1_method_17_code
def yX2_toldSign : MethodName := ⟨RX2, "toldSign", "(IIIII)I"⟩
abbrev cX2_pairs : ByteArray := prog_1_method_18_code
def yX2_pairs : MethodName := ⟨RX2, "pairs", "()I"⟩
abbrev cX2_nearDistance : ByteArray := prog_1_method_19_code
def yX2_nearDistance : MethodName := ⟨RX2, "nearDistance", "(IIII)I"⟩
abbrev cX2_nearSign : ByteArray := prog_1_method_20_code
def yX2_nearSign : MethodName := ⟨RX2, "nearSign", "(IIIII)I"⟩
abbrev cX2_requireKey : ByteArray := prog_1_method_21_code
def yX2_requireKey : MethodName := ⟨RX2, "requireKey", "(I)V"⟩
abbrev cX2_requireLanguage : ByteArray := prog_1_method_22_code
def yX2_requireLanguage : MethodName := ⟨RX2, "requireLanguage", "(I)V"⟩
abbrev cX2_requireGender : ByteArray := prog_1_method_23_code
def yX2_requireGender : MethodName := ⟨RX2, "requireGender", "(I)V"⟩
abbrev cX2_requireForm : ByteArray := prog_1_method_24_code
def yX2_requireForm : MethodName := ⟨RX2, "requireForm", "(IIII)V"⟩
abbrev cX2_requireNumber : ByteArray := prog_1_method_25_code
def yX2_requireNumber : MethodName := ⟨RX2, "requireNumber", "(I)V"⟩
abbrev cX2_requireNumberLimit : ByteArray := prog_1_method_26_code
def yX2_requireNumberLimit : MethodName := ⟨RX2, "requireNumberLimit", "(I)V"⟩
abbrev cX2_requireQuestion : ByteArray := prog_1_method_27_code
def yX2_requireQuestion : MethodName := ⟨RX2, "requireQuestion", "(IIII)V"⟩
abbrev cX2_isWord : ByteArray := prog_1_method_28_code
def yX2_isWord : MethodName := ⟨RX2, "isWord", "(I)Z"⟩
abbrev cX2_isPlaceholder : ByteArray := prog_1_method_29_code
def yX2_isPlaceholder : MethodName := ⟨RX2, "isPlaceholder", "(I)Z"⟩
abbrev cX2_placeholdersOf : ByteArray := prog_1_method_30_code
def yX2_placeholdersOf : MethodName := ⟨RX2, "placeholdersOf", "([I)I"⟩
abbrev cX2_textOf : ByteArray := prog_1_method_31_code
def yX2_textOf : MethodName := ⟨RX2, "textOf", "(II)I"⟩
abbrev cX2_slotOf : ByteArray := prog_1_method_32_code
def yX2_slotOf : MethodName := ⟨RX2, "slotOf", "(IIII)I"⟩
abbrev cX2_languageOfSlot : ByteArray := prog_1_method_33_code
def yX2_languageOfSlot : MethodName := ⟨RX2, "languageOfSlot", "(I)I"⟩
abbrev cX2_chainPlace : ByteArray := prog_1_method_34_code
def yX2_chainPlace : MethodName := ⟨RX2, "chainPlace", "(II)I"⟩
abbrev cX2_classOf : ByteArray := prog_1_method_35_code
def yX2_classOf : MethodName := ⟨RX2, "classOf", "(II)I"⟩
abbrev cX2_countForms : ByteArray := prog_1_method_36_code
def yX2_countForms : MethodName := ⟨RX2, "countForms", "(II)I"⟩
abbrev cX2_change : ByteArray := prog_1_method_37_code
def yX2_change : MethodName := ⟨RX2, "change", "(IIIILPhraseCatalogue$Form;)V"⟩
abbrev cX2_sourcePlaceholders : ByteArray := prog_1_method_38_code
def yX2_sourcePlaceholders : MethodName := ⟨RX2, "sourcePlaceholders", "(I)I"⟩
abbrev cX2_isFitting : ByteArray := prog_1_method_39_code
def yX2_isFitting : MethodName := ⟨RX2, "isFitting", "(ILPhraseCatalogue$Form;)Z"⟩
abbrev cX2_findAlongChain : ByteArray := prog_1_method_40_code
def yX2_findAlongChain : MethodName := ⟨RX2, "findAlongChain", "(IIII)I"⟩
abbrev cX2_findInLanguage : ByteArray := prog_1_method_41_code
def yX2_findInLanguage : MethodName := ⟨RX2, "findInLanguage", "(IIII)I"⟩
abbrev cX2_findInClass : ByteArray := prog_1_method_42_code
def yX2_findInClass : MethodName := ⟨RX2, "findInClass", "(IIII)I"⟩
abbrev cX2_findByLooking : ByteArray := prog_1_method_43_code
def yX2_findByLooking : MethodName := ⟨RX2, "findByLooking", "(IIII)I"⟩
abbrev cX2_turnOf : ByteArray := prog_1_method_44_code
def yX2_turnOf : MethodName := ⟨RX2, "turnOf", "(IIII)I"⟩
abbrev cX2_tryOf : ByteArray := prog_1_method_45_code
def yX2_tryOf : MethodName := ⟨RX2, "tryOf", "(IIII)I"⟩
abbrev cX2_keepPairs : ByteArray := prog_1_method_46_code
def yX2_keepPairs : MethodName := ⟨RX2, "keepPairs", "(IIILPhraseCatalogue$Form;)V"⟩
abbrev cX2_keepPair : ByteArray := prog_1_method_47_code
def yX2_keepPair : MethodName := ⟨RX2, "keepPair", "(LPhraseCatalogue$Pair;)V"⟩
abbrev cX2_findNear : ByteArray := prog_1_method_48_code
def yX2_findNear : MethodName := ⟨RX2, "findNear", "(LPhraseCatalogue$Form;I)LPhraseCatalogue$Pair;"⟩
abbrev cX2_distance : ByteArray := prog_1_method_49_code
def yX2_distance : MethodName := ⟨RX2, "distance", "(LPhraseCatalogue$Form;LPhraseCatalogue$Form;)I"⟩
def RX3 : String := "PhraseCatalogueModel"
def TX3 : u_T := fun k => match k with
  | 0 => ("PhraseCatalogueModel", "fallbacks", "[I", true)
  | 1 => ("PhraseCatalogueModel", "ones", "[I", true)
  | 2 => ("PhraseCatalogueModel", "fews", "[I", true)
  | 3 => ("PhraseCatalogueModel", "drafted", "[I", true)
  | 4 => ("PhraseCatalogueModel", "draft", "I", false)
  | 5 => ("PhraseCatalogueModel", "lengths", "[I", true)
  | 6 => ("PhraseCatalogueModel", "lax", "[Z", true)
  | 7 => ("PhraseCatalogueModel", "signs", "[I", true)
  | 8 => ("PhraseCatalogueModel", "versions", "[I", true)
  | 9 => ("PhraseCatalogueModel", "changedAt", "[I", true)
  | 10 => ("PhraseCatalogueModel", "pairLanguages", "[I", true)
  | 11 => ("PhraseCatalogueModel", "oldLengths", "[I", true)
  | 12 => ("PhraseCatalogueModel", "newLengths", "[I", true)
  | 13 => ("PhraseCatalogueModel", "olds", "[I", true)
  | 14 => ("PhraseCatalogueModel", "news", "[I", true)
  | 15 => ("PhraseCatalogueModel", "pairs", "I", false)
  | 16 => ("PhraseCatalogueModel", "above", "[I", true)
  | 17 => ("PhraseCatalogueModel", "row", "[I", true)
  | 18 => ("PhraseCatalogueModel", "toldAt", "I", false)
  | 19 => ("PhraseCatalogueModel", "toldIn", "I", false)
  | _ => ("PhraseCatalogueModel", "last", "I", false)
def tyX3 : Nat → FieldType := fun k => match k with
  | 0 => .array .int
  | 1 => .array .int
  | 2 => .array .int
  | 3 => .array .int
  | 4 => .int
  | 5 => .array .int
  | 6 => .array .boolean
  | 7 => .array .int
  | 8 => .array .int
  | 9 => .array .int
  | 10 => .array .int
  | 11 => .array .int
  | 12 => .array .int
  | 13 => .array .int
  | 14 => .array .int
  | 15 => .int
  | 16 => .array .int
  | 17 => .array .int
  | 18 => .int
  | 19 => .int
  | _ => .int
abbrev wsX30 : List Cond := u_ws RX3 TX3 21
theorem nmX3 : ∀ a, a < 21 → ∀ b, b < 21 → a ≠ b → (TX3 a).2.1 ≠ (TX3 b).2.1 := by decide +kernel
theorem tyX3_ok : ∀ k, k < 21 → parseFieldDescriptor (TX3 k).2.2.1 = some (tyX3 k) := by decide +kernel
abbrev cX3_init : ByteArray := prog_5_method_1_code
def yX3_init : MethodName := ⟨RX3, "<init>", "()V"⟩
abbrev cX3_thrown : ByteArray := prog_5_method_2_code
def yX3_thrown : MethodName := ⟨RX3, "thrown", "()I"⟩
abbrev cX3_in : ByteArray := prog_5_method_3_code
def yX3_in : MethodName := ⟨RX3, "in", "(III)Z"⟩
abbrev cX3_goes : ByteArray := prog_5_method_4_code
def yX3_goes : MethodName := ⟨RX3, "goes", "(ZZZ)Z"⟩
abbrev cX3_isKey : ByteArray := prog_5_method_5_code
def yX3_isKey : MethodName := ⟨RX3, "isKey", "(I)Z"⟩
abbrev cX3_isLanguage : ByteArray := prog_5_method_6_code
def yX3_isLanguage : MethodName := ⟨RX3, "isLanguage", "(I)Z"⟩
abbrev cX3_isThird : ByteArray := prog_5_method_7_code
def yX3_isThird : MethodName := ⟨RX3, "isThird", "(I)Z"⟩
abbrev cX3_isForm : ByteArray := prog_5_method_8_code
def yX3_isForm : MethodName := ⟨RX3, "isForm", "(IIII)Z"⟩
abbrev cX3_at : ByteArray := prog_5_method_9_code
def yX3_at : MethodName := ⟨RX3, "at", "(IIII)I"⟩
abbrev cX3_isInChain : ByteArray := prog_5_method_10_code
def yX3_isInChain : MethodName := ⟨RX3, "isInChain", "(II)Z"⟩
abbrev cX3_setFallback : ByteArray := prog_5_method_11_code
def yX3_setFallback : MethodName := ⟨RX3, "setFallback", "(II)I"⟩
abbrev cX3_setNumbers : ByteArray := prog_5_method_12_code
def yX3_setNumbers : MethodName := ⟨RX3, "setNumbers", "(III)V"⟩
abbrev cX3_sign : ByteArray := prog_5_method_13_code
def yX3_sign : MethodName := ⟨RX3, "sign", "(I)I"⟩
abbrev cX3_keeps : ByteArray := prog_5_method_14_code
def yX3_keeps : MethodName := ⟨RX3, "keeps", "(II)V"⟩
abbrev cX3_forgets : ByteArray := prog_5_method_15_code
def yX3_forgets : MethodName := ⟨RX3, "forgets", "()V"⟩
abbrev cX3_changes : ByteArray := prog_5_method_16_code
def yX3_changes : MethodName := ⟨RX3, "changes", "(III)V"⟩
abbrev cX3_set : ByteArray := prog_5_method_17_code
def yX3_set : MethodName := ⟨RX3, "set", "(IIIIZ)I"⟩
abbrev cX3_remove : ByteArray := prog_5_method_18_code
def yX3_remove : MethodName := ⟨RX3, "remove", "(IIII)I"⟩
abbrev cX3_draft : ByteArray := prog_5_method_19_code
def yX3_draft : MethodName := ⟨RX3, "draft", "()I"⟩
abbrev cX3_kind : ByteArray := prog_5_method_20_code
def yX3_kind : MethodName := ⟨RX3, "kind", "(II)I"⟩
abbrev cX3_kindOf : ByteArray := prog_5_method_21_code
def yX3_kindOf : MethodName := ⟨RX3, "kindOf", "(II)I"⟩
abbrev cX3_count : ByteArray := prog_5_method_22_code
def yX3_count : MethodName := ⟨RX3, "count", "(II)I"⟩
abbrev cX3_forms : ByteArray := prog_5_method_23_code
def yX3_forms : MethodName := ⟨RX3, "forms", "(II)I"⟩
abbrev cX3_version : ByteArray := prog_5_method_24_code
def yX3_version : MethodName := ⟨RX3, "version", "(I)I"⟩
abbrev cX3_staleBy : ByteArray := prog_5_method_25_code
def yX3_staleBy : MethodName := ⟨RX3, "staleBy", "(II)I"⟩
abbrev cX3_missing : ByteArray := prog_5_method_26_code
def yX3_missing : MethodName := ⟨RX3, "missing", "(I)I"⟩
abbrev cX3_has : ByteArray := prog_5_method_27_code
def yX3_has : MethodName := ⟨RX3, "has", "(II)Z"⟩
abbrev cX3_isFit : ByteArray := prog_5_method_28_code
def yX3_isFit : MethodName := ⟨RX3, "isFit", "(II)Z"⟩
abbrev cX3_fits : ByteArray := prog_5_method_29_code
def yX3_fits : MethodName := ⟨RX3, "fits", "(IIII)Z"⟩
abbrev cX3_tells : ByteArray := prog_5_method_30_code
def yX3_tells : MethodName := ⟨RX3, "tells", "(IIII)V"⟩
abbrev cX3_isAsked : ByteArray := prog_5_method_31_code
def yX3_isAsked : MethodName := ⟨RX3, "isAsked", "(IIII)Z"⟩
abbrev cX3_toldBy : ByteArray := prog_5_method_32_code
def yX3_toldBy : MethodName := ⟨RX3, "toldBy", "(IIII)I"⟩
abbrev cX3_toldByLooking : ByteArray := prog_5_method_33_code
def yX3_toldByLooking : MethodName := ⟨RX3, "toldByLooking", "(IIII)I"⟩
abbrev cX3_toldForm : ByteArray := prog_5_method_34_code
def yX3_toldForm : MethodName := ⟨RX3, "toldForm", "(IIII)I"⟩
abbrev cX3_toldSign : ByteArray := prog_5_method_35_code
def yX3_toldSign : MethodName := ⟨RX3, "toldSign", "(IIIII)I"⟩
abbrev cX3_pairs : ByteArray := prog_5_method_36_code
def yX3_pairs : MethodName := ⟨RX3, "pairs", "()I"⟩
abbrev cX3_distance : ByteArray := prog_5_method_37_code
def yX3_distance : MethodName := ⟨RX3, "distance", "(II)I"⟩
abbrev cX3_near : ByteArray := prog_5_method_38_code
def yX3_near : MethodName := ⟨RX3, "near", "(IIII)I"⟩
abbrev cX3_nearDistance : ByteArray := prog_5_method_39_code
def yX3_nearDistance : MethodName := ⟨RX3, "nearDistance", "(IIII)I"⟩
abbrev cX3_nearSign : ByteArray := prog_5_method_40_code
def yX3_nearSign : MethodName := ⟨RX3, "nearSign", "(IIIII)I"⟩
def RJx145de : String := "java/io/Serializable"
def TJx145de : u_T := fun k => match k with
  | _ => ("", "", "", false)
def tyJx145de : Nat → FieldType := fun k => match k with
  | _ => .int
abbrev wsJx145de0 : List Cond := u_ws RJx145de TJx145de 0
theorem nmJx145de : ∀ a, a < 0 → ∀ b, b < 0 → a ≠ b → (TJx145de a).2.1 ≠ (TJx145de b).2.1 := by decide +kernel
theorem tyJx145de_ok : ∀ k, k < 0 → parseFieldDescriptor (TJx145de k).2.2.1 = some (tyJx145de k) := by decide +kernel
def RJx8e188 : String := "java/lang/Cloneable"
def TJx8e188 : u_T := fun k => match k with
  | _ => ("", "", "", false)
def tyJx8e188 : Nat → FieldType := fun k => match k with
  | _ => .int
abbrev wsJx8e1880 : List Cond := u_ws RJx8e188 TJx8e188 0
theorem nmJx8e188 : ∀ a, a < 0 → ∀ b, b < 0 → a ≠ b → (TJx8e188 a).2.1 ≠ (TJx8e188 b).2.1 := by decide +kernel
theorem tyJx8e188_ok : ∀ k, k < 0 → parseFieldDescriptor (TJx8e188 k).2.2.1 = some (tyJx8e188 k) := by decide +kernel
def RJxab1ab : String := "java/lang/Iterable"
def TJxab1ab : u_T := fun k => match k with
  | _ => ("", "", "", false)
def tyJxab1ab : Nat → FieldType := fun k => match k with
  | _ => .int
abbrev wsJxab1ab0 : List Cond := u_ws RJxab1ab TJxab1ab 0
theorem nmJxab1ab : ∀ a, a < 0 → ∀ b, b < 0 → a ≠ b → (TJxab1ab a).2.1 ≠ (TJxab1ab b).2.1 := by decide +kernel
theorem tyJxab1ab_ok : ∀ k, k < 0 → parseFieldDescriptor (TJxab1ab k).2.2.1 = some (tyJxab1ab k) := by decide +kernel
def RJ9 : String := "java/lang/Math"
def TJ9 : u_T := fun k => match k with
  | _ => ("", "", "", false)
def tyJ9 : Nat → FieldType := fun k => match k with
  | _ => .int
abbrev wsJ90 : List Cond := u_ws RJ9 TJ9 0
theorem nmJ9 : ∀ a, a < 0 → ∀ b, b < 0 → a ≠ b → (TJ9 a).2.1 ≠ (TJ9 b).2.1 := by decide +kernel
theorem tyJ9_ok : ∀ k, k < 0 → parseFieldDescriptor (TJ9 k).2.2.1 = some (tyJ9 k) := by decide +kernel
abbrev cJ9_max_7cf53 : ByteArray := prog_13_method_65_code
def yJ9_max_7cf53 : MethodName := ⟨RJ9, "max", "(II)I"⟩
abbrev cJ9_min_7cf53 : ByteArray := prog_13_method_69_code
def yJ9_min_7cf53 : MethodName := ⟨RJ9, "min", "(II)I"⟩
def RJ0 : String := "java/lang/String"
def TJ0 : u_T := fun k => match k with
  | _ => ("", "", "", false)
def tyJ0 : Nat → FieldType := fun k => match k with
  | _ => .int
abbrev wsJ00 : List Cond := u_ws RJ0 TJ0 0
theorem nmJ0 : ∀ a, a < 0 → ∀ b, b < 0 → a ≠ b → (TJ0 a).2.1 ≠ (TJ0 b).2.1 := by decide +kernel
theorem tyJ0_ok : ∀ k, k < 0 → parseFieldDescriptor (TJ0 k).2.2.1 = some (tyJ0 k) := by decide +kernel
def RJ10 : String := "java/lang/System"
def TJ10 : u_T := fun k => match k with
  | _ => ("", "", "", false)
def tyJ10 : Nat → FieldType := fun k => match k with
  | _ => .int
abbrev wsJ100 : List Cond := u_ws RJ10 TJ10 0
theorem nmJ10 : ∀ a, a < 0 → ∀ b, b < 0 → a ≠ b → (TJ10 a).2.1 ≠ (TJ10 b).2.1 := by decide +kernel
theorem tyJ10_ok : ∀ k, k < 0 → parseFieldDescriptor (TJ10 k).2.2.1 = some (tyJ10 k) := by decide +kernel
def RJxa1e45 : String := "java/util/AbstractCollection"
def TJxa1e45 : u_T := fun k => match k with
  | _ => ("", "", "", false)
def tyJxa1e45 : Nat → FieldType := fun k => match k with
  | _ => .int
abbrev wsJxa1e450 : List Cond := u_ws RJxa1e45 TJxa1e45 0
theorem nmJxa1e45 : ∀ a, a < 0 → ∀ b, b < 0 → a ≠ b → (TJxa1e45 a).2.1 ≠ (TJxa1e45 b).2.1 := by decide +kernel
theorem tyJxa1e45_ok : ∀ k, k < 0 → parseFieldDescriptor (TJxa1e45 k).2.2.1 = some (tyJxa1e45 k) := by decide +kernel
abbrev cJxa1e45_init_da8c8 : ByteArray := prog_18_method_1_code
def yJxa1e45_init_da8c8 : MethodName := ⟨RJxa1e45, "<init>", "()V"⟩
def RJxc12de : String := "java/util/AbstractList"
def TJxc12de : u_T := fun k => match k with
  | _ => ("", "", "", false)
def tyJxc12de : Nat → FieldType := fun k => match k with
  | _ => .int
abbrev wsJxc12de0 : List Cond := u_ws RJxc12de TJxc12de 0
theorem nmJxc12de : ∀ a, a < 0 → ∀ b, b < 0 → a ≠ b → (TJxc12de a).2.1 ≠ (TJxc12de b).2.1 := by decide +kernel
theorem tyJxc12de_ok : ∀ k, k < 0 → parseFieldDescriptor (TJxc12de k).2.2.1 = some (tyJxc12de k) := by decide +kernel
abbrev cJxc12de_init_da8c8 : ByteArray := prog_19_method_1_code
def yJxc12de_init_da8c8 : MethodName := ⟨RJxc12de, "<init>", "()V"⟩
def RJx4a65c : String := "java/util/ArrayList"
def TJx4a65c : u_T := fun k => match k with
  | 0 => ("java/util/AbstractList", "modCount", "I", false)
  | 1 => ("java/util/ArrayList", "elementData", "[Ljava/lang/Object;", false)
  | _ => ("java/util/ArrayList", "size", "I", false)
def tyJx4a65c : Nat → FieldType := fun k => match k with
  | 0 => .int
  | 1 => .array (.object "java/lang/Object")
  | _ => .int
abbrev wsJx4a65c0 : List Cond := u_ws RJx4a65c TJx4a65c 3
theorem nmJx4a65c : ∀ a, a < 3 → ∀ b, b < 3 → a ≠ b → (TJx4a65c a).2.1 ≠ (TJx4a65c b).2.1 := by decide +kernel
theorem tyJx4a65c_ok : ∀ k, k < 3 → parseFieldDescriptor (TJx4a65c k).2.2.1 = some (tyJx4a65c k) := by decide +kernel
abbrev cJx4a65c_init_da8c8 : ByteArray := prog_20_method_2_code
def yJx4a65c_init_da8c8 : MethodName := ⟨RJx4a65c, "<init>", "()V"⟩
abbrev cJx4a65c_grow_92f84 : ByteArray := prog_20_method_6_code
def yJx4a65c_grow_92f84 : MethodName := ⟨RJx4a65c, "grow", "(I)[Ljava/lang/Object;"⟩
abbrev cJx4a65c_grow_d5877 : ByteArray := prog_20_method_7_code
def yJx4a65c_grow_d5877 : MethodName := ⟨RJx4a65c, "grow", "()[Ljava/lang/Object;"⟩
abbrev cJx4a65c_size_8abf5 : ByteArray := prog_20_method_8_code
def yJx4a65c_size_8abf5 : MethodName := ⟨RJx4a65c, "size", "()I"⟩
abbrev cJx4a65c_elementData_915e3 : ByteArray := prog_20_method_18_code
def yJx4a65c_elementData_915e3 : MethodName := ⟨RJx4a65c, "elementData", "(I)Ljava/lang/Object;"⟩
abbrev cJx4a65c_get_915e3 : ByteArray := prog_20_method_20_code
def yJx4a65c_get_915e3 : MethodName := ⟨RJx4a65c, "get", "(I)Ljava/lang/Object;"⟩
abbrev cJx4a65c_add_72be8 : ByteArray := prog_20_method_24_code
def yJx4a65c_add_72be8 : MethodName := ⟨RJx4a65c, "add", "(Ljava/lang/Object;[Ljava/lang/Object;I)V"⟩
abbrev cJx4a65c_add_9ea2d : ByteArray := prog_20_method_25_code
def yJx4a65c_add_9ea2d : MethodName := ⟨RJx4a65c, "add", "(Ljava/lang/Object;)Z"⟩
abbrev cJx4a65c_remove_915e3 : ByteArray := prog_20_method_29_code
def yJx4a65c_remove_915e3 : MethodName := ⟨RJx4a65c, "remove", "(I)Ljava/lang/Object;"⟩
abbrev cJx4a65c_fastRemove_b59b0 : ByteArray := prog_20_method_39_code
def yJx4a65c_fastRemove_b59b0 : MethodName := ⟨RJx4a65c, "fastRemove", "([Ljava/lang/Object;I)V"⟩
def RJ7 : String := "java/util/Arrays"
def TJ7 : u_T := fun k => match k with
  | _ => ("", "", "", false)
def tyJ7 : Nat → FieldType := fun k => match k with
  | _ => .int
abbrev wsJ70 : List Cond := u_ws RJ7 TJ7 0
theorem nmJ7 : ∀ a, a < 0 → ∀ b, b < 0 → a ≠ b → (TJ7 a).2.1 ≠ (TJ7 b).2.1 := by decide +kernel
theorem tyJ7_ok : ∀ k, k < 0 → parseFieldDescriptor (TJ7 k).2.2.1 = some (tyJ7 k) := by decide +kernel
abbrev cJ7_fill_53178 : ByteArray := prog_21_method_103_code
def yJ7_fill_53178 : MethodName := ⟨RJ7, "fill", "([II)V"⟩
abbrev cJ7_copyOf_1904c : ByteArray := prog_21_method_119_code
def yJ7_copyOf_1904c : MethodName := ⟨RJ7, "copyOf", "([Ljava/lang/Object;I)[Ljava/lang/Object;"⟩
abbrev cJ7_copyOf_6403c : ByteArray := prog_21_method_120_code
def yJ7_copyOf_6403c : MethodName := ⟨RJ7, "copyOf", "([Ljava/lang/Object;ILjava/lang/Class;)[Ljava/lang/Object;"⟩
abbrev cJ7_copyOf_59c91 : ByteArray := prog_21_method_123_code
def yJ7_copyOf_59c91 : MethodName := ⟨RJ7, "copyOf", "([II)[I"⟩
def RJx5ef63 : String := "java/util/Collection"
def TJx5ef63 : u_T := fun k => match k with
  | _ => ("", "", "", false)
def tyJx5ef63 : Nat → FieldType := fun k => match k with
  | _ => .int
abbrev wsJx5ef630 : List Cond := u_ws RJx5ef63 TJx5ef63 0
theorem nmJx5ef63 : ∀ a, a < 0 → ∀ b, b < 0 → a ≠ b → (TJx5ef63 a).2.1 ≠ (TJx5ef63 b).2.1 := by decide +kernel
theorem tyJx5ef63_ok : ∀ k, k < 0 → parseFieldDescriptor (TJx5ef63 k).2.2.1 = some (tyJx5ef63 k) := by decide +kernel
def RJxbd725 : String := "java/util/List"
def TJxbd725 : u_T := fun k => match k with
  | _ => ("", "", "", false)
def tyJxbd725 : Nat → FieldType := fun k => match k with
  | _ => .int
abbrev wsJxbd7250 : List Cond := u_ws RJxbd725 TJxbd725 0
theorem nmJxbd725 : ∀ a, a < 0 → ∀ b, b < 0 → a ≠ b → (TJxbd725 a).2.1 ≠ (TJxbd725 b).2.1 := by decide +kernel
theorem tyJxbd725_ok : ∀ k, k < 0 → parseFieldDescriptor (TJxbd725 k).2.2.1 = some (tyJxbd725 k) := by decide +kernel
def RJ15 : String := "java/util/Objects"
def TJ15 : u_T := fun k => match k with
  | _ => ("", "", "", false)
def tyJ15 : Nat → FieldType := fun k => match k with
  | _ => .int
abbrev wsJ150 : List Cond := u_ws RJ15 TJ15 0
theorem nmJ15 : ∀ a, a < 0 → ∀ b, b < 0 → a ≠ b → (TJ15 a).2.1 ≠ (TJ15 b).2.1 := by decide +kernel
theorem tyJ15_ok : ∀ k, k < 0 → parseFieldDescriptor (TJ15 k).2.2.1 = some (tyJ15 k) := by decide +kernel
abbrev cJ15_checkIndex_7cf53 : ByteArray := prog_24_method_17_code
def yJ15_checkIndex_7cf53 : MethodName := ⟨RJ15, "checkIndex", "(II)I"⟩
def RJxf0a74 : String := "java/util/RandomAccess"
def TJxf0a74 : u_T := fun k => match k with
  | _ => ("", "", "", false)
def tyJxf0a74 : Nat → FieldType := fun k => match k with
  | _ => .int
abbrev wsJxf0a740 : List Cond := u_ws RJxf0a74 TJxf0a74 0
theorem nmJxf0a74 : ∀ a, a < 0 → ∀ b, b < 0 → a ≠ b → (TJxf0a74 a).2.1 ≠ (TJxf0a74 b).2.1 := by decide +kernel
theorem tyJxf0a74_ok : ∀ k, k < 0 → parseFieldDescriptor (TJxf0a74 k).2.2.1 = some (tyJxf0a74 k) := by decide +kernel
def RJxa66e6 : String := "java/util/SequencedCollection"
def TJxa66e6 : u_T := fun k => match k with
  | _ => ("", "", "", false)
def tyJxa66e6 : Nat → FieldType := fun k => match k with
  | _ => .int
abbrev wsJxa66e60 : List Cond := u_ws RJxa66e6 TJxa66e6 0
theorem nmJxa66e6 : ∀ a, a < 0 → ∀ b, b < 0 → a ≠ b → (TJxa66e6 a).2.1 ≠ (TJxa66e6 b).2.1 := by decide +kernel
theorem tyJxa66e6_ok : ∀ k, k < 0 → parseFieldDescriptor (TJxa66e6 k).2.2.1 = some (tyJxa66e6 k) := by decide +kernel
def RJ8 : String := "jdk/internal/util/ArraysSupport"
def TJ8 : u_T := fun k => match k with
  | _ => ("", "", "", false)
def tyJ8 : Nat → FieldType := fun k => match k with
  | _ => .int
abbrev wsJ80 : List Cond := u_ws RJ8 TJ8 0
theorem nmJ8 : ∀ a, a < 0 → ∀ b, b < 0 → a ≠ b → (TJ8 a).2.1 ≠ (TJ8 b).2.1 := by decide +kernel
theorem tyJ8_ok : ∀ k, k < 0 → parseFieldDescriptor (TJ8 k).2.2.1 = some (tyJ8 k) := by decide +kernel
abbrev cJ8_newLength_cabcc : ByteArray := prog_27_method_27_code
def yJ8_newLength_cabcc : MethodName := ⟨RJ8, "newLength", "(III)I"⟩
abbrev cJ8_hugeLength_7cf53 : ByteArray := prog_27_method_28_code
def yJ8_hugeLength_7cf53 : MethodName := ⟨RJ8, "hugeLength", "(II)I"⟩
def RJ3 : String := "jdk/internal/util/Preconditions"
def TJ3 : u_T := fun k => match k with
  | _ => ("", "", "", false)
def tyJ3 : Nat → FieldType := fun k => match k with
  | _ => .int
abbrev wsJ30 : List Cond := u_ws RJ3 TJ3 0
theorem nmJ3 : ∀ a, a < 0 → ∀ b, b < 0 → a ≠ b → (TJ3 a).2.1 ≠ (TJ3 b).2.1 := by decide +kernel
theorem tyJ3_ok : ∀ k, k < 0 → parseFieldDescriptor (TJ3 k).2.2.1 = some (tyJ3 k) := by decide +kernel
abbrev cJ3_checkIndex_8e157 : ByteArray := prog_28_method_11_code
def yJ3_checkIndex_8e157 : MethodName := ⟨RJ3, "checkIndex", "(IILjava/util/function/BiFunction;)I"⟩
def RL : String := "PhraseCatalogueLaw"
abbrev cL_setFallback : ByteArray := method_3_code
def yL_setFallback : MethodName := ⟨RL, "setFallback", "(LPhraseCatalogue;II[J)I"⟩
abbrev cL_setNumbers : ByteArray := method_4_code
def yL_setNumbers : MethodName := ⟨RL, "setNumbers", "(LPhraseCatalogue;III)I"⟩
abbrev cL_sign : ByteArray := method_5_code
def yL_sign : MethodName := ⟨RL, "sign", "(LPhraseCatalogue;I[J)I"⟩
abbrev cL_set : ByteArray := method_6_code
def yL_set : MethodName := ⟨RL, "set", "(LPhraseCatalogue;IIIIZ[J)I"⟩
abbrev cL_remove : ByteArray := method_7_code
def yL_remove : MethodName := ⟨RL, "remove", "(LPhraseCatalogue;IIII[J)I"⟩
abbrev cL_kindOf : ByteArray := method_8_code
def yL_kindOf : MethodName := ⟨RL, "kindOf", "(LPhraseCatalogue;II[J)I"⟩
abbrev cL_forms : ByteArray := method_9_code
def yL_forms : MethodName := ⟨RL, "forms", "(LPhraseCatalogue;II[J)I"⟩
abbrev cL_version : ByteArray := method_10_code
def yL_version : MethodName := ⟨RL, "version", "(LPhraseCatalogue;I[J)I"⟩
abbrev cL_staleBy : ByteArray := method_11_code
def yL_staleBy : MethodName := ⟨RL, "staleBy", "(LPhraseCatalogue;II[J)I"⟩
abbrev cL_missing : ByteArray := method_12_code
def yL_missing : MethodName := ⟨RL, "missing", "(LPhraseCatalogue;I[J)I"⟩
abbrev cL_fits : ByteArray := method_13_code
def yL_fits : MethodName := ⟨RL, "fits", "(LPhraseCatalogue;IIII[J)I"⟩
abbrev cL_toldBy : ByteArray := method_14_code
def yL_toldBy : MethodName := ⟨RL, "toldBy", "(LPhraseCatalogue;IIII[J)I"⟩
abbrev cL_toldByLooking : ByteArray := method_15_code
def yL_toldByLooking : MethodName := ⟨RL, "toldByLooking", "(LPhraseCatalogue;IIII[J)I"⟩
abbrev cL_toldForm : ByteArray := method_16_code
def yL_toldForm : MethodName := ⟨RL, "toldForm", "(LPhraseCatalogue;IIII[J)I"⟩
abbrev cL_toldSign : ByteArray := method_17_code
def yL_toldSign : MethodName := ⟨RL, "toldSign", "(LPhraseCatalogue;IIIII[J)I"⟩
abbrev cL_nearDistance : ByteArray := method_18_code
def yL_nearDistance : MethodName := ⟨RL, "nearDistance", "(LPhraseCatalogue;IIII[J)I"⟩
abbrev cL_nearSign : ByteArray := method_19_code
def yL_nearSign : MethodName := ⟨RL, "nearSign", "(LPhraseCatalogue;IIIII[J)I"⟩
abbrev cL_law : ByteArray := code
def yL_law : MethodName := ⟨RL, "law", "([I)Z"⟩
def wsX0_init : List Cond := .code yX0_init cX0_init 4 none :: ([.methodLink RX0 1 objectInit, .instanceMethod objectInit, .code objectInit ⟨#[0xb1]⟩ 1 none, .fieldLink RX0 7 "PhraseCatalogue$Form" "signs" "[I", .fieldLink RX0 13 "PhraseCatalogue$Form" "mayLack" "Z", .fieldLink RX0 17 "PhraseCatalogue$Form" "placeholders" "I"] ++ wsX00)
def wsX1_init : List Cond := .code yX1_init cX1_init 4 none :: ([.methodLink RX1 1 objectInit, .instanceMethod objectInit, .code objectInit ⟨#[0xb1]⟩ 1 none, .fieldLink RX1 7 "PhraseCatalogue$Pair" "language" "I", .fieldLink RX1 13 "PhraseCatalogue$Pair" "old" "LPhraseCatalogue$Form;", .fieldLink RX1 17 "PhraseCatalogue$Pair" "translation" "LPhraseCatalogue$Form;"] ++ wsX10)
def wsJ7_fill_53178 : List Cond := .code yJ7_fill_53178 cJ7_fill_53178 4 none :: ([])
def wsJxa1e45_init_da8c8 : List Cond := .code yJxa1e45_init_da8c8 cJxa1e45_init_da8c8 1 none :: ([.methodLink RJxa1e45 1 objectInit, .instanceMethod objectInit, .code objectInit ⟨#[0xb1]⟩ 1 none])
def wsJxc12de_init_da8c8 : List Cond := .code yJxc12de_init_da8c8 cJxc12de_init_da8c8 1 none :: ([.fieldLink RJxc12de 7 "java/util/AbstractList" "modCount" "I", .methodLink RJxc12de 1 yJxa1e45_init_da8c8, .instanceMethod yJxa1e45_init_da8c8, .initialized RJxa1e45, .code yJxa1e45_init_da8c8 cJxa1e45_init_da8c8 1 none, .methodLink RJxa1e45 1 objectInit, .instanceMethod objectInit, .code objectInit ⟨#[0xb1]⟩ 1 none] ++ wsJx4a65c0)
def wsJx4a65c_init_da8c8 : List Cond := .code yJx4a65c_init_da8c8 cJx4a65c_init_da8c8 1 none :: ([.fieldLink RJx4a65c 39 "java/util/ArrayList" "DEFAULTCAPACITY_EMPTY_ELEMENTDATA" "[Ljava/lang/Object;", .fieldLink RJx4a65c 9 "java/util/ArrayList" "elementData" "[Ljava/lang/Object;", .methodLink RJx4a65c 1 yJxc12de_init_da8c8, .instanceMethod yJxc12de_init_da8c8, .initialized RJxc12de, .code yJxc12de_init_da8c8 cJxc12de_init_da8c8 1 none, .fieldLink RJxc12de 7 "java/util/AbstractList" "modCount" "I", .methodLink RJxc12de 1 yJxa1e45_init_da8c8, .instanceMethod yJxa1e45_init_da8c8, .initialized RJxa1e45, .code yJxa1e45_init_da8c8 cJxa1e45_init_da8c8 1 none, .methodLink RJxa1e45 1 objectInit, .instanceMethod objectInit, .code objectInit ⟨#[0xb1]⟩ 1 none] ++ wsJx4a65c0)
def wsX2_init_r1 : List Cond := [Cond.methodLink RX2 1 objectInit, Cond.instanceMethod objectInit, Cond.code objectInit ⟨#[0xb1]⟩ 1 none, Cond.arrayClass .int, Cond.fieldLink RX2 9 "PhraseCatalogue" "fallbacks" "[I", Cond.fieldLink RX2 13 "PhraseCatalogue" "onesLimits" "[I", Cond.fieldLink RX2 16 "PhraseCatalogue" "fewLimits" "[I", Cond.fieldLink RX2 25 "PhraseCatalogue" "draftSigns" "[I", Cond.fieldLink RX2 28 "PhraseCatalogue" "draftLength" "I", Cond.classLink RX2 32 RX0, Cond.fieldLink RX2 34 "PhraseCatalogue" "formTable" "[LPhraseCatalogue$Form;", Cond.fieldLink RX2 38 "PhraseCatalogue" "sourceVersions" "[I", Cond.fieldLink RX2 41 "PhraseCatalogue" "seenVersions" "[I", Cond.classLink RX2 44 RJx4a65c, Cond.instantiable RJx4a65c 3, Cond.initialized RJx4a65c, Cond.fieldLink RX2 47 "PhraseCatalogue" "past" "Ljava/util/ArrayList;", Cond.fieldLink RX2 51 "PhraseCatalogue" "distanceRow" "[I", Cond.methodLink RX2 19 yJ7_fill_53178, Cond.static yJ7_fill_53178, Cond.initialized RJ7, Cond.code yJ7_fill_53178 cJ7_fill_53178 4 none, Cond.methodLink RX2 46 yJx4a65c_init_da8c8, Cond.instanceMethod yJx4a65c_init_da8c8]
def wsX2_init_r2 : List Cond := [Cond.code yJx4a65c_init_da8c8 cJx4a65c_init_da8c8 1 none, Cond.fieldLink RJx4a65c 39 "java/util/ArrayList" "DEFAULTCAPACITY_EMPTY_ELEMENTDATA" "[Ljava/lang/Object;", Cond.fieldLink RJx4a65c 9 "java/util/ArrayList" "elementData" "[Ljava/lang/Object;", Cond.methodLink RJx4a65c 1 yJxc12de_init_da8c8, Cond.instanceMethod yJxc12de_init_da8c8, Cond.initialized RJxc12de, Cond.code yJxc12de_init_da8c8 cJxc12de_init_da8c8 1 none, Cond.fieldLink RJxc12de 7 "java/util/AbstractList" "modCount" "I", Cond.methodLink RJxc12de 1 yJxa1e45_init_da8c8, Cond.instanceMethod yJxa1e45_init_da8c8, Cond.initialized RJxa1e45, Cond.code yJxa1e45_init_da8c8 cJxa1e45_init_da8c8 1 none, Cond.methodLink RJxa1e45 1 objectInit]
def wsX2_init : List Cond := .code yX2_init cX2_init 1 none :: ((wsX2_init_r1 ++ wsX2_init_r2) ++ wsX20 ++ wsJx4a65c0)
def wsX2_requireLanguage : List Cond := .code yX2_requireLanguage cX2_requireLanguage 1 none :: ([.classLink RX2 58 "java/lang/IndexOutOfBoundsException", .initialized "java/lang/IndexOutOfBoundsException"] ++ (vx_atS RX2 62 "java/lang/IndexOutOfBoundsException" ["java/lang/RuntimeException", "java/lang/Exception"]).filter goodWord)
def wsX2_chainPlace : List Cond := .code yX2_chainPlace cX2_chainPlace 5 (some .int) :: ([.fieldLink RX2 9 "PhraseCatalogue" "fallbacks" "[I"] ++ wsX20)
def wsX2_setFallback : List Cond := .code yX2_setFallback cX2_setFallback 4 (some .int) :: ([.classLink RX2 58 "java/lang/IndexOutOfBoundsException", .initialized "java/lang/IndexOutOfBoundsException", .classLink RX2 69 "java/lang/IllegalArgumentException", .initialized "java/lang/IllegalArgumentException", .fieldLink RX2 9 "PhraseCatalogue" "fallbacks" "[I", .methodLink RX2 54 yX2_requireLanguage, .static yX2_requireLanguage, .initialized RX2, .code yX2_requireLanguage cX2_requireLanguage 1 none, .methodLink RX2 65 yX2_chainPlace, .instanceMethod yX2_chainPlace, .selects RX2 yX2_chainPlace yX2_chainPlace, .code yX2_chainPlace cX2_chainPlace 5 (some .int)] ++ wsX20 ++ (vx_atS RX2 62 "java/lang/IndexOutOfBoundsException" ["java/lang/RuntimeException", "java/lang/Exception"]).filter goodWord ++ (vx_atS RX2 73 "java/lang/IllegalArgumentException" ["java/lang/RuntimeException", "java/lang/Exception"]).filter goodWord)
def wsX2_requireNumberLimit : List Cond := .code yX2_requireNumberLimit cX2_requireNumberLimit 1 none :: ([.classLink RX2 69 "java/lang/IllegalArgumentException", .initialized "java/lang/IllegalArgumentException"] ++ (vx_atS RX2 73 "java/lang/IllegalArgumentException" ["java/lang/RuntimeException", "java/lang/Exception"]).filter goodWord)
def wsX2_setNumbers : List Cond := .code yX2_setNumbers cX2_setNumbers 4 none :: ([.fieldLink RX2 13 "PhraseCatalogue" "onesLimits" "[I", .fieldLink RX2 16 "PhraseCatalogue" "fewLimits" "[I", .methodLink RX2 54 yX2_requireLanguage, .static yX2_requireLanguage, .initialized RX2, .code yX2_requireLanguage cX2_requireLanguage 1 none, .classLink RX2 58 "java/lang/IndexOutOfBoundsException", .initialized "java/lang/IndexOutOfBoundsException", .methodLink RX2 74 yX2_requireNumberLimit, .static yX2_requireNumberLimit, .code yX2_requireNumberLimit cX2_requireNumberLimit 1 none, .classLink RX2 69 "java/lang/IllegalArgumentException", .initialized "java/lang/IllegalArgumentException"] ++ wsX20 ++ (vx_atS RX2 62 "java/lang/IndexOutOfBoundsException" ["java/lang/RuntimeException", "java/lang/Exception"]).filter goodWord ++ (vx_atS RX2 73 "java/lang/IllegalArgumentException" ["java/lang/RuntimeException", "java/lang/Exception"]).filter goodWord)
def wsX2_isWord : List Cond := .code yX2_isWord cX2_isWord 1 (some .boolean) :: ([])
def wsX2_isPlaceholder : List Cond := .code yX2_isPlaceholder cX2_isPlaceholder 1 (some .boolean) :: ([])
def wsX2_sign : List Cond := .code yX2_sign cX2_sign 2 (some .int) :: ([.classLink RX2 69 "java/lang/IllegalArgumentException", .initialized "java/lang/IllegalArgumentException", .classLink RX2 86 "java/lang/IllegalStateException", .initialized "java/lang/IllegalStateException", .fieldLink RX2 28 "PhraseCatalogue" "draftLength" "I", .fieldLink RX2 25 "PhraseCatalogue" "draftSigns" "[I", .methodLink RX2 77 yX2_isWord, .static yX2_isWord, .initialized RX2, .code yX2_isWord cX2_isWord 1 (some .boolean), .methodLink RX2 81 yX2_isPlaceholder, .static yX2_isPlaceholder, .code yX2_isPlaceholder cX2_isPlaceholder 1 (some .boolean)] ++ wsX20 ++ (vx_atS RX2 73 "java/lang/IllegalArgumentException" ["java/lang/RuntimeException", "java/lang/Exception"]).filter goodWord ++ (vx_atS RX2 90 "java/lang/IllegalStateException" ["java/lang/RuntimeException", "java/lang/Exception"]).filter goodWord)
def wsX2_requireKey : List Cond := .code yX2_requireKey cX2_requireKey 1 none :: ([.classLink RX2 58 "java/lang/IndexOutOfBoundsException", .initialized "java/lang/IndexOutOfBoundsException"] ++ (vx_atS RX2 62 "java/lang/IndexOutOfBoundsException" ["java/lang/RuntimeException", "java/lang/Exception"]).filter goodWord)
def wsX2_requireGender : List Cond := .code yX2_requireGender cX2_requireGender 1 none :: ([.classLink RX2 58 "java/lang/IndexOutOfBoundsException", .initialized "java/lang/IndexOutOfBoundsException"] ++ (vx_atS RX2 62 "java/lang/IndexOutOfBoundsException" ["java/lang/RuntimeException", "java/lang/Exception"]).filter goodWord)
def wsX2_requireForm : List Cond := .code yX2_requireForm cX2_requireForm 4 none :: ([.classLink RX2 58 "java/lang/IndexOutOfBoundsException", .initialized "java/lang/IndexOutOfBoundsException", .methodLink RX2 127 yX2_requireKey, .static yX2_requireKey, .initialized RX2, .code yX2_requireKey cX2_requireKey 1 none, .methodLink RX2 54 yX2_requireLanguage, .static yX2_requireLanguage, .code yX2_requireLanguage cX2_requireLanguage 1 none, .methodLink RX2 188 yX2_requireGender, .static yX2_requireGender, .code yX2_requireGender cX2_requireGender 1 none] ++ (vx_atS RX2 62 "java/lang/IndexOutOfBoundsException" ["java/lang/RuntimeException", "java/lang/Exception"]).filter goodWord)
def wsJ7_copyOf_59c91 : List Cond := .code yJ7_copyOf_59c91 cJ7_copyOf_59c91 3 (some (.array .int)) :: ([.methodLink RJ7 316 ⟨"[I", "clone", "()Ljava/lang/Object;"⟩, .sameMethod "[I" "java/lang/Object" "clone" "()Ljava/lang/Object;", .native ⟨"java/lang/Object", "clone", "()Ljava/lang/Object;"⟩, .instanceMethod ⟨"java/lang/Object", "clone", "()Ljava/lang/Object;"⟩, .selects "[I" ⟨"[I", "clone", "()Ljava/lang/Object;"⟩ ⟨"java/lang/Object", "clone", "()Ljava/lang/Object;"⟩, .classLink RJ7 317 "[I", .arrayClass .int, .methodLink RJ7 304 Lib.Math.min.name, .static Lib.Math.min.name, .initialized "java/lang/Math", .code Lib.Math.min.name Lib.Math.min.code 2 (some .int), .methodLink RJ7 150 arraycopyName, .native arraycopyName, .static arraycopyName, .initialized "java/lang/System"])
def wsX2_placeholdersOf : List Cond := .code yX2_placeholdersOf cX2_placeholdersOf 3 (some .int) :: ([.methodLink RX2 81 yX2_isPlaceholder, .static yX2_isPlaceholder, .initialized RX2, .code yX2_isPlaceholder cX2_isPlaceholder 1 (some .boolean)])
def wsX2_textOf : List Cond := .code yX2_textOf cX2_textOf 2 (some .int) :: ([])
def wsX2_slotOf : List Cond := .code yX2_slotOf cX2_slotOf 4 (some .int) :: ([.methodLink RX2 133 yX2_textOf, .static yX2_textOf, .initialized RX2, .code yX2_textOf cX2_textOf 2 (some .int)])
def wsJx4a65c_size_8abf5 : List Cond := .code yJx4a65c_size_8abf5 cJx4a65c_size_8abf5 1 (some .int) :: ([.fieldLink RJx4a65c 48 "java/util/ArrayList" "size" "I"] ++ wsJx4a65c0)
def wsJ3_checkIndex_8e157 : List Cond := .code yJ3_checkIndex_8e157 cJ3_checkIndex_8e157 3 (some .int) :: ([])
def wsJ15_checkIndex_7cf53 : List Cond := .code yJ15_checkIndex_7cf53 cJ15_checkIndex_7cf53 2 (some .int) :: ([.methodLink RJ15 105 yJ3_checkIndex_8e157, .static yJ3_checkIndex_8e157, .initialized RJ3, .code yJ3_checkIndex_8e157 cJ3_checkIndex_8e157 3 (some .int)])
def wsJx4a65c_fastRemove_b59b0 : List Cond := .code yJx4a65c_fastRemove_b59b0 cJx4a65c_fastRemove_b59b0 4 none :: ([.fieldLink RJx4a65c 63 "java/util/ArrayList" "modCount" "I", .sameField "java/util/ArrayList" "java/util/AbstractList" "modCount" "I", .fieldLink RJx4a65c 48 "java/util/ArrayList" "size" "I", .methodLink RJx4a65c 112 arraycopyName, .native arraycopyName, .static arraycopyName, .initialized "java/lang/System"] ++ wsJx4a65c0)
def wsJx4a65c_remove_915e3 : List Cond := .code yJx4a65c_remove_915e3 cJx4a65c_remove_915e3 4 (some (.object "java/lang/Object")) :: ([.fieldLink RJx4a65c 48 "java/util/ArrayList" "size" "I", .fieldLink RJx4a65c 9 "java/util/ArrayList" "elementData" "[Ljava/lang/Object;", .methodLink RJx4a65c 118 yJ15_checkIndex_7cf53, .static yJ15_checkIndex_7cf53, .initialized RJ15, .code yJ15_checkIndex_7cf53 cJ15_checkIndex_7cf53 2 (some .int), .methodLink RJ15 105 yJ3_checkIndex_8e157, .static yJ3_checkIndex_8e157, .initialized RJ3, .code yJ3_checkIndex_8e157 cJ3_checkIndex_8e157 3 (some .int), .methodLink RJx4a65c 144 yJx4a65c_fastRemove_b59b0, .instanceMethod yJx4a65c_fastRemove_b59b0, .selects RJx4a65c yJx4a65c_fastRemove_b59b0 yJx4a65c_fastRemove_b59b0, .initialized RJx4a65c, .code yJx4a65c_fastRemove_b59b0 cJx4a65c_fastRemove_b59b0 4 none, .fieldLink RJx4a65c 63 "java/util/ArrayList" "modCount" "I", .sameField "java/util/ArrayList" "java/util/AbstractList" "modCount" "I", .methodLink RJx4a65c 112 arraycopyName, .native arraycopyName, .static arraycopyName, .initialized "java/lang/System"] ++ wsJx4a65c0)
def wsJ8_hugeLength_7cf53 : List Cond := .code yJ8_hugeLength_7cf53 cJ8_hugeLength_7cf53 3 (some .int) :: ([.constant RJ8 200 (2147483639)])
def wsJ8_newLength_cabcc : List Cond := .code yJ8_newLength_cabcc cJ8_newLength_cabcc 4 (some .int) :: ([.methodLink RJ8 194 Lib.Math.max.name, .static Lib.Math.max.name, .initialized "java/lang/Math", .code Lib.Math.max.name Lib.Math.max.code 2 (some .int), .constant RJ8 200 (2147483639), .methodLink RJ8 201 yJ8_hugeLength_7cf53, .static yJ8_hugeLength_7cf53, .initialized RJ8, .code yJ8_hugeLength_7cf53 cJ8_hugeLength_7cf53 3 (some .int)])
def wsJ7_copyOf_6403c : List Cond := .code yJ7_copyOf_6403c cJ7_copyOf_6403c 4 (some (.array (.object "java/lang/Object"))) :: ([.classLink RJ7 110 "[Ljava/lang/Object;", .classLink RJ7 2 "java/lang/Object", .methodLink RJ7 304 Lib.Math.min.name, .static Lib.Math.min.name, .initialized "java/lang/Math", .code Lib.Math.min.name Lib.Math.min.code 2 (some .int), .methodLink RJ7 150 arraycopyName, .native arraycopyName, .static arraycopyName, .initialized "java/lang/System"])
def wsJ7_copyOf_1904c : List Cond := .code yJ7_copyOf_1904c cJ7_copyOf_1904c 2 (some (.array (.object "java/lang/Object"))) :: ([.methodLink RJ7 86 ⟨"java/lang/Object", "getClass", "()Ljava/lang/Class;"⟩, .selects "[Ljava/lang/Object;" ⟨"java/lang/Object", "getClass", "()Ljava/lang/Class;"⟩ ⟨"java/lang/Object", "getClass", "()Ljava/lang/Class;"⟩, .instanceMethod ⟨"java/lang/Object", "getClass", "()Ljava/lang/Class;"⟩, .native ⟨"java/lang/Object", "getClass", "()Ljava/lang/Class;"⟩, .methodLink RJ7 300 yJ7_copyOf_6403c, .static yJ7_copyOf_6403c, .initialized RJ7, .code yJ7_copyOf_6403c cJ7_copyOf_6403c 4 (some (.array (.object "java/lang/Object"))), .classLink RJ7 110 "[Ljava/lang/Object;", .classLink RJ7 2 "java/lang/Object", .methodLink RJ7 304 Lib.Math.min.name, .static Lib.Math.min.name, .initialized "java/lang/Math", .code Lib.Math.min.name Lib.Math.min.code 2 (some .int), .methodLink RJ7 150 arraycopyName, .native arraycopyName, .static arraycopyName, .initialized "java/lang/System"])
def wsJx4a65c_grow_92f84_r1 : List Cond := [Cond.fieldLink RJx4a65c 9 "java/util/ArrayList" "elementData" "[Ljava/lang/Object;", Cond.fieldLink RJx4a65c 39 "java/util/ArrayList" "DEFAULTCAPACITY_EMPTY_ELEMENTDATA" "[Ljava/lang/Object;", Cond.methodLink RJx4a65c 79 Lib.Math.max.name, Cond.static Lib.Math.max.name, Cond.initialized "java/lang/Math", Cond.code Lib.Math.max.name Lib.Math.max.code 2 (some .int), Cond.classLink RJx4a65c 7 "java/lang/Object", Cond.methodLink RJx4a65c 73 yJ8_newLength_cabcc, Cond.static yJ8_newLength_cabcc, Cond.initialized RJ8, Cond.code yJ8_newLength_cabcc cJ8_newLength_cabcc 4 (some .int), Cond.methodLink RJ8 194 Lib.Math.max.name, Cond.constant RJ8 200 (2147483639), Cond.methodLink RJ8 201 yJ8_hugeLength_7cf53, Cond.static yJ8_hugeLength_7cf53, Cond.code yJ8_hugeLength_7cf53 cJ8_hugeLength_7cf53 3 (some .int), Cond.methodLink RJx4a65c 66 yJ7_copyOf_1904c, Cond.static yJ7_copyOf_1904c, Cond.initialized RJ7, Cond.code yJ7_copyOf_1904c cJ7_copyOf_1904c 2 (some (.array (.object "java/lang/Object"))), Cond.methodLink RJ7 86 ⟨"java/lang/Object", "getClass", "()Ljava/lang/Class;"⟩, Cond.selects "[Ljava/lang/Object;" ⟨"java/lang/Object", "getClass", "()Ljava/lang/Class;"⟩ ⟨"java/lang/Object", "getClass", "()Ljava/lang/Class;"⟩, Cond.instanceMethod ⟨"java/lang/Object", "getClass", "()Ljava/lang/Class;"⟩, Cond.native ⟨"java/lang/Object", "getClass", "()Ljava/lang/Class;"⟩]
def wsJx4a65c_grow_92f84_r2 : List Cond := [Cond.methodLink RJ7 300 yJ7_copyOf_6403c, Cond.static yJ7_copyOf_6403c, Cond.code yJ7_copyOf_6403c cJ7_copyOf_6403c 4 (some (.array (.object "java/lang/Object"))), Cond.classLink RJ7 110 "[Ljava/lang/Object;", Cond.classLink RJ7 2 "java/lang/Object", Cond.methodLink RJ7 304 Lib.Math.min.name, Cond.static Lib.Math.min.name, Cond.code Lib.Math.min.name Lib.Math.min.code 2 (some .int), Cond.methodLink RJ7 150 arraycopyName, Cond.native arraycopyName, Cond.static arraycopyName, Cond.initialized "java/lang/System"]
def wsJx4a65c_grow_92f84 : List Cond := .code yJx4a65c_grow_92f84 cJx4a65c_grow_92f84 4 (some (.array (.object "java/lang/Object"))) :: ((wsJx4a65c_grow_92f84_r1 ++ wsJx4a65c_grow_92f84_r2) ++ wsJx4a65c0)
def wsJx4a65c_grow_d5877_r1 : List Cond := [Cond.fieldLink RJx4a65c 48 "java/util/ArrayList" "size" "I", Cond.methodLink RJx4a65c 69 yJx4a65c_grow_92f84, Cond.instanceMethod yJx4a65c_grow_92f84, Cond.selects RJx4a65c yJx4a65c_grow_92f84 yJx4a65c_grow_92f84, Cond.initialized RJx4a65c, Cond.code yJx4a65c_grow_92f84 cJx4a65c_grow_92f84 4 (some (.array (.object "java/lang/Object"))), Cond.fieldLink RJx4a65c 9 "java/util/ArrayList" "elementData" "[Ljava/lang/Object;", Cond.fieldLink RJx4a65c 39 "java/util/ArrayList" "DEFAULTCAPACITY_EMPTY_ELEMENTDATA" "[Ljava/lang/Object;", Cond.methodLink RJx4a65c 79 Lib.Math.max.name, Cond.static Lib.Math.max.name, Cond.initialized "java/lang/Math", Cond.code Lib.Math.max.name Lib.Math.max.code 2 (some .int), Cond.classLink RJx4a65c 7 "java/lang/Object", Cond.methodLink RJx4a65c 73 yJ8_newLength_cabcc, Cond.static yJ8_newLength_cabcc, Cond.initialized RJ8, Cond.code yJ8_newLength_cabcc cJ8_newLength_cabcc 4 (some .int), Cond.methodLink RJ8 194 Lib.Math.max.name, Cond.constant RJ8 200 (2147483639), Cond.methodLink RJ8 201 yJ8_hugeLength_7cf53, Cond.static yJ8_hugeLength_7cf53, Cond.code yJ8_hugeLength_7cf53 cJ8_hugeLength_7cf53 3 (some .int), Cond.methodLink RJx4a65c 66 yJ7_copyOf_1904c, Cond.static yJ7_copyOf_1904c]
def wsJx4a65c_grow_d5877_r2 : List Cond := [Cond.initialized RJ7, Cond.code yJ7_copyOf_1904c cJ7_copyOf_1904c 2 (some (.array (.object "java/lang/Object"))), Cond.methodLink RJ7 86 ⟨"java/lang/Object", "getClass", "()Ljava/lang/Class;"⟩, Cond.selects "[Ljava/lang/Object;" ⟨"java/lang/Object", "getClass", "()Ljava/lang/Class;"⟩ ⟨"java/lang/Object", "getClass", "()Ljava/lang/Class;"⟩, Cond.instanceMethod ⟨"java/lang/Object", "getClass", "()Ljava/lang/Class;"⟩, Cond.native ⟨"java/lang/Object", "getClass", "()Ljava/lang/Class;"⟩, Cond.methodLink RJ7 300 yJ7_copyOf_6403c, Cond.static yJ7_copyOf_6403c, Cond.code yJ7_copyOf_6403c cJ7_copyOf_6403c 4 (some (.array (.object "java/lang/Object"))), Cond.classLink RJ7 110 "[Ljava/lang/Object;", Cond.classLink RJ7 2 "java/lang/Object", Cond.methodLink RJ7 304 Lib.Math.min.name, Cond.static Lib.Math.min.name, Cond.code Lib.Math.min.name Lib.Math.min.code 2 (some .int), Cond.methodLink RJ7 150 arraycopyName, Cond.native arraycopyName, Cond.static arraycopyName, Cond.initialized "java/lang/System"]
def wsJx4a65c_grow_d5877 : List Cond := .code yJx4a65c_grow_d5877 cJx4a65c_grow_d5877 1 (some (.array (.object "java/lang/Object"))) :: ((wsJx4a65c_grow_d5877_r1 ++ wsJx4a65c_grow_d5877_r2) ++ wsJx4a65c0)
def wsJx4a65c_add_72be8_r1 : List Cond := [Cond.fieldLink RJx4a65c 48 "java/util/ArrayList" "size" "I", Cond.methodLink RJx4a65c 129 yJx4a65c_grow_d5877, Cond.instanceMethod yJx4a65c_grow_d5877, Cond.selects RJx4a65c yJx4a65c_grow_d5877 yJx4a65c_grow_d5877, Cond.initialized RJx4a65c, Cond.code yJx4a65c_grow_d5877 cJx4a65c_grow_d5877 1 (some (.array (.object "java/lang/Object"))), Cond.methodLink RJx4a65c 69 yJx4a65c_grow_92f84, Cond.instanceMethod yJx4a65c_grow_92f84, Cond.selects RJx4a65c yJx4a65c_grow_92f84 yJx4a65c_grow_92f84, Cond.code yJx4a65c_grow_92f84 cJx4a65c_grow_92f84 4 (some (.array (.object "java/lang/Object"))), Cond.fieldLink RJx4a65c 9 "java/util/ArrayList" "elementData" "[Ljava/lang/Object;", Cond.fieldLink RJx4a65c 39 "java/util/ArrayList" "DEFAULTCAPACITY_EMPTY_ELEMENTDATA" "[Ljava/lang/Object;", Cond.methodLink RJx4a65c 79 Lib.Math.max.name, Cond.static Lib.Math.max.name, Cond.initialized "java/lang/Math", Cond.code Lib.Math.max.name Lib.Math.max.code 2 (some .int), Cond.classLink RJx4a65c 7 "java/lang/Object", Cond.methodLink RJx4a65c 73 yJ8_newLength_cabcc, Cond.static yJ8_newLength_cabcc, Cond.initialized RJ8, Cond.code yJ8_newLength_cabcc cJ8_newLength_cabcc 4 (some .int), Cond.methodLink RJ8 194 Lib.Math.max.name, Cond.constant RJ8 200 (2147483639), Cond.methodLink RJ8 201 yJ8_hugeLength_7cf53]
def wsJx4a65c_add_72be8_r2 : List Cond := [Cond.static yJ8_hugeLength_7cf53, Cond.code yJ8_hugeLength_7cf53 cJ8_hugeLength_7cf53 3 (some .int), Cond.methodLink RJx4a65c 66 yJ7_copyOf_1904c, Cond.static yJ7_copyOf_1904c, Cond.initialized RJ7, Cond.code yJ7_copyOf_1904c cJ7_copyOf_1904c 2 (some (.array (.object "java/lang/Object"))), Cond.methodLink RJ7 86 ⟨"java/lang/Object", "getClass", "()Ljava/lang/Class;"⟩, Cond.selects "[Ljava/lang/Object;" ⟨"java/lang/Object", "getClass", "()Ljava/lang/Class;"⟩ ⟨"java/lang/Object", "getClass", "()Ljava/lang/Class;"⟩, Cond.instanceMethod ⟨"java/lang/Object", "getClass", "()Ljava/lang/Class;"⟩, Cond.native ⟨"java/lang/Object", "getClass", "()Ljava/lang/Class;"⟩, Cond.methodLink RJ7 300 yJ7_copyOf_6403c, Cond.static yJ7_copyOf_6403c, Cond.code yJ7_copyOf_6403c cJ7_copyOf_6403c 4 (some (.array (.object "java/lang/Object"))), Cond.classLink RJ7 110 "[Ljava/lang/Object;", Cond.classLink RJ7 2 "java/lang/Object", Cond.methodLink RJ7 304 Lib.Math.min.name, Cond.static Lib.Math.min.name, Cond.code Lib.Math.min.name Lib.Math.min.code 2 (some .int), Cond.methodLink RJ7 150 arraycopyName, Cond.native arraycopyName, Cond.static arraycopyName, Cond.initialized "java/lang/System"]
def wsJx4a65c_add_72be8 : List Cond := .code yJx4a65c_add_72be8 cJx4a65c_add_72be8 4 none :: ((wsJx4a65c_add_72be8_r1 ++ wsJx4a65c_add_72be8_r2) ++ wsJx4a65c0)
def wsJx4a65c_add_9ea2d_r1 : List Cond := [Cond.fieldLink RJx4a65c 63 "java/util/ArrayList" "modCount" "I", Cond.sameField "java/util/ArrayList" "java/util/AbstractList" "modCount" "I", Cond.fieldLink RJx4a65c 9 "java/util/ArrayList" "elementData" "[Ljava/lang/Object;", Cond.fieldLink RJx4a65c 48 "java/util/ArrayList" "size" "I", Cond.methodLink RJx4a65c 131 yJx4a65c_add_72be8, Cond.instanceMethod yJx4a65c_add_72be8, Cond.selects RJx4a65c yJx4a65c_add_72be8 yJx4a65c_add_72be8, Cond.initialized RJx4a65c, Cond.code yJx4a65c_add_72be8 cJx4a65c_add_72be8 4 none, Cond.methodLink RJx4a65c 129 yJx4a65c_grow_d5877, Cond.instanceMethod yJx4a65c_grow_d5877, Cond.selects RJx4a65c yJx4a65c_grow_d5877 yJx4a65c_grow_d5877, Cond.code yJx4a65c_grow_d5877 cJx4a65c_grow_d5877 1 (some (.array (.object "java/lang/Object"))), Cond.methodLink RJx4a65c 69 yJx4a65c_grow_92f84, Cond.instanceMethod yJx4a65c_grow_92f84, Cond.selects RJx4a65c yJx4a65c_grow_92f84 yJx4a65c_grow_92f84, Cond.code yJx4a65c_grow_92f84 cJx4a65c_grow_92f84 4 (some (.array (.object "java/lang/Object"))), Cond.fieldLink RJx4a65c 39 "java/util/ArrayList" "DEFAULTCAPACITY_EMPTY_ELEMENTDATA" "[Ljava/lang/Object;", Cond.methodLink RJx4a65c 79 Lib.Math.max.name, Cond.static Lib.Math.max.name, Cond.initialized "java/lang/Math", Cond.code Lib.Math.max.name Lib.Math.max.code 2 (some .int), Cond.classLink RJx4a65c 7 "java/lang/Object", Cond.methodLink RJx4a65c 73 yJ8_newLength_cabcc]
def wsJx4a65c_add_9ea2d_r2 : List Cond := [Cond.static yJ8_newLength_cabcc, Cond.initialized RJ8, Cond.code yJ8_newLength_cabcc cJ8_newLength_cabcc 4 (some .int), Cond.methodLink RJ8 194 Lib.Math.max.name, Cond.constant RJ8 200 (2147483639), Cond.methodLink RJ8 201 yJ8_hugeLength_7cf53, Cond.static yJ8_hugeLength_7cf53, Cond.code yJ8_hugeLength_7cf53 cJ8_hugeLength_7cf53 3 (some .int), Cond.methodLink RJx4a65c 66 yJ7_copyOf_1904c, Cond.static yJ7_copyOf_1904c, Cond.initialized RJ7, Cond.code yJ7_copyOf_1904c cJ7_copyOf_1904c 2 (some (.array (.object "java/lang/Object"))), Cond.methodLink RJ7 86 ⟨"java/lang/Object", "getClass", "()Ljava/lang/Class;"⟩, Cond.selects "[Ljava/lang/Object;" ⟨"java/lang/Object", "getClass", "()Ljava/lang/Class;"⟩ ⟨"java/lang/Object", "getClass", "()Ljava/lang/Class;"⟩, Cond.instanceMethod ⟨"java/lang/Object", "getClass", "()Ljava/lang/Class;"⟩, Cond.native ⟨"java/lang/Object", "getClass", "()Ljava/lang/Class;"⟩, Cond.methodLink RJ7 300 yJ7_copyOf_6403c, Cond.static yJ7_copyOf_6403c, Cond.code yJ7_copyOf_6403c cJ7_copyOf_6403c 4 (some (.array (.object "java/lang/Object"))), Cond.classLink RJ7 110 "[Ljava/lang/Object;", Cond.classLink RJ7 2 "java/lang/Object", Cond.methodLink RJ7 304 Lib.Math.min.name, Cond.static Lib.Math.min.name, Cond.code Lib.Math.min.name Lib.Math.min.code 2 (some .int)]
def wsJx4a65c_add_9ea2d_r3 : List Cond := [Cond.methodLink RJ7 150 arraycopyName, Cond.native arraycopyName, Cond.static arraycopyName, Cond.initialized "java/lang/System"]
def wsJx4a65c_add_9ea2d : List Cond := .code yJx4a65c_add_9ea2d cJx4a65c_add_9ea2d 2 (some .boolean) :: ((wsJx4a65c_add_9ea2d_r1 ++ (wsJx4a65c_add_9ea2d_r2 ++ wsJx4a65c_add_9ea2d_r3)) ++ wsJx4a65c0)
def wsX2_keepPair_r1 : List Cond := [Cond.fieldLink RX2 47 "PhraseCatalogue" "past" "Ljava/util/ArrayList;", Cond.methodLink RX2 157 yJx4a65c_size_8abf5, Cond.instanceMethod yJx4a65c_size_8abf5, Cond.selects RJx4a65c yJx4a65c_size_8abf5 yJx4a65c_size_8abf5, Cond.initialized RJx4a65c, Cond.code yJx4a65c_size_8abf5 cJx4a65c_size_8abf5 1 (some .int), Cond.fieldLink RJx4a65c 48 "java/util/ArrayList" "size" "I", Cond.methodLink RX2 228 yJx4a65c_remove_915e3, Cond.instanceMethod yJx4a65c_remove_915e3, Cond.selects RJx4a65c yJx4a65c_remove_915e3 yJx4a65c_remove_915e3, Cond.code yJx4a65c_remove_915e3 cJx4a65c_remove_915e3 4 (some (.object "java/lang/Object")), Cond.fieldLink RJx4a65c 9 "java/util/ArrayList" "elementData" "[Ljava/lang/Object;", Cond.methodLink RJx4a65c 118 yJ15_checkIndex_7cf53, Cond.static yJ15_checkIndex_7cf53, Cond.initialized RJ15, Cond.code yJ15_checkIndex_7cf53 cJ15_checkIndex_7cf53 2 (some .int), Cond.methodLink RJ15 105 yJ3_checkIndex_8e157, Cond.static yJ3_checkIndex_8e157, Cond.initialized RJ3, Cond.code yJ3_checkIndex_8e157 cJ3_checkIndex_8e157 3 (some .int), Cond.methodLink RJx4a65c 144 yJx4a65c_fastRemove_b59b0, Cond.instanceMethod yJx4a65c_fastRemove_b59b0, Cond.selects RJx4a65c yJx4a65c_fastRemove_b59b0 yJx4a65c_fastRemove_b59b0, Cond.code yJx4a65c_fastRemove_b59b0 cJx4a65c_fastRemove_b59b0 4 none]
def wsX2_keepPair_r2 : List Cond := [Cond.fieldLink RJx4a65c 63 "java/util/ArrayList" "modCount" "I", Cond.sameField "java/util/ArrayList" "java/util/AbstractList" "modCount" "I", Cond.methodLink RJx4a65c 112 arraycopyName, Cond.native arraycopyName, Cond.static arraycopyName, Cond.initialized "java/lang/System", Cond.methodLink RX2 232 yJx4a65c_add_9ea2d, Cond.instanceMethod yJx4a65c_add_9ea2d, Cond.selects RJx4a65c yJx4a65c_add_9ea2d yJx4a65c_add_9ea2d, Cond.code yJx4a65c_add_9ea2d cJx4a65c_add_9ea2d 2 (some .boolean), Cond.methodLink RJx4a65c 131 yJx4a65c_add_72be8, Cond.instanceMethod yJx4a65c_add_72be8, Cond.selects RJx4a65c yJx4a65c_add_72be8 yJx4a65c_add_72be8, Cond.code yJx4a65c_add_72be8 cJx4a65c_add_72be8 4 none, Cond.methodLink RJx4a65c 129 yJx4a65c_grow_d5877, Cond.instanceMethod yJx4a65c_grow_d5877, Cond.selects RJx4a65c yJx4a65c_grow_d5877 yJx4a65c_grow_d5877, Cond.code yJx4a65c_grow_d5877 cJx4a65c_grow_d5877 1 (some (.array (.object "java/lang/Object"))), Cond.methodLink RJx4a65c 69 yJx4a65c_grow_92f84, Cond.instanceMethod yJx4a65c_grow_92f84, Cond.selects RJx4a65c yJx4a65c_grow_92f84 yJx4a65c_grow_92f84, Cond.code yJx4a65c_grow_92f84 cJx4a65c_grow_92f84 4 (some (.array (.object "java/lang/Object"))), Cond.fieldLink RJx4a65c 39 "java/util/ArrayList" "DEFAULTCAPACITY_EMPTY_ELEMENTDATA" "[Ljava/lang/Object;", Cond.methodLink RJx4a65c 79 Lib.Math.max.name]
def wsX2_keepPair_r3 : List Cond := [Cond.static Lib.Math.max.name, Cond.initialized "java/lang/Math", Cond.code Lib.Math.max.name Lib.Math.max.code 2 (some .int), Cond.classLink RJx4a65c 7 "java/lang/Object", Cond.methodLink RJx4a65c 73 yJ8_newLength_cabcc, Cond.static yJ8_newLength_cabcc, Cond.initialized RJ8, Cond.code yJ8_newLength_cabcc cJ8_newLength_cabcc 4 (some .int), Cond.methodLink RJ8 194 Lib.Math.max.name, Cond.constant RJ8 200 (2147483639), Cond.methodLink RJ8 201 yJ8_hugeLength_7cf53, Cond.static yJ8_hugeLength_7cf53, Cond.code yJ8_hugeLength_7cf53 cJ8_hugeLength_7cf53 3 (some .int), Cond.methodLink RJx4a65c 66 yJ7_copyOf_1904c, Cond.static yJ7_copyOf_1904c, Cond.initialized RJ7, Cond.code yJ7_copyOf_1904c cJ7_copyOf_1904c 2 (some (.array (.object "java/lang/Object"))), Cond.methodLink RJ7 86 ⟨"java/lang/Object", "getClass", "()Ljava/lang/Class;"⟩, Cond.selects "[Ljava/lang/Object;" ⟨"java/lang/Object", "getClass", "()Ljava/lang/Class;"⟩ ⟨"java/lang/Object", "getClass", "()Ljava/lang/Class;"⟩, Cond.instanceMethod ⟨"java/lang/Object", "getClass", "()Ljava/lang/Class;"⟩, Cond.native ⟨"java/lang/Object", "getClass", "()Ljava/lang/Class;"⟩, Cond.methodLink RJ7 300 yJ7_copyOf_6403c, Cond.static yJ7_copyOf_6403c, Cond.code yJ7_copyOf_6403c cJ7_copyOf_6403c 4 (some (.array (.object "java/lang/Object")))]
def wsX2_keepPair_r4 : List Cond := [Cond.classLink RJ7 110 "[Ljava/lang/Object;", Cond.classLink RJ7 2 "java/lang/Object", Cond.methodLink RJ7 304 Lib.Math.min.name, Cond.static Lib.Math.min.name, Cond.code Lib.Math.min.name Lib.Math.min.code 2 (some .int), Cond.methodLink RJ7 150 arraycopyName]
def wsX2_keepPair : List Cond := .code yX2_keepPair cX2_keepPair 2 none :: ((wsX2_keepPair_r1 ++ (wsX2_keepPair_r2 ++ (wsX2_keepPair_r3 ++ wsX2_keepPair_r4))) ++ wsX20 ++ wsJx4a65c0)
def wsX2_keepPairs_r1 : List Cond := [Cond.fieldLink RX2 34 "PhraseCatalogue" "formTable" "[LPhraseCatalogue$Form;", Cond.classLink RX2 166 RX1, Cond.instantiable RX1 3, Cond.initialized RX1, Cond.methodLink RX2 112 yX2_slotOf, Cond.static yX2_slotOf, Cond.initialized RX2, Cond.code yX2_slotOf cX2_slotOf 4 (some .int), Cond.methodLink RX2 133 yX2_textOf, Cond.static yX2_textOf, Cond.code yX2_textOf cX2_textOf 2 (some .int), Cond.methodLink RX2 221 yX1_init, Cond.instanceMethod yX1_init, Cond.code yX1_init cX1_init 4 none, Cond.methodLink RX1 1 objectInit, Cond.instanceMethod objectInit, Cond.code objectInit ⟨#[0xb1]⟩ 1 none, Cond.fieldLink RX1 7 "PhraseCatalogue$Pair" "language" "I", Cond.fieldLink RX1 13 "PhraseCatalogue$Pair" "old" "LPhraseCatalogue$Form;", Cond.fieldLink RX1 17 "PhraseCatalogue$Pair" "translation" "LPhraseCatalogue$Form;", Cond.methodLink RX2 224 yX2_keepPair, Cond.instanceMethod yX2_keepPair, Cond.selects RX2 yX2_keepPair yX2_keepPair, Cond.code yX2_keepPair cX2_keepPair 2 none]
def wsX2_keepPairs_r2 : List Cond := [Cond.fieldLink RX2 47 "PhraseCatalogue" "past" "Ljava/util/ArrayList;", Cond.methodLink RX2 157 yJx4a65c_size_8abf5, Cond.instanceMethod yJx4a65c_size_8abf5, Cond.selects RJx4a65c yJx4a65c_size_8abf5 yJx4a65c_size_8abf5, Cond.initialized RJx4a65c, Cond.code yJx4a65c_size_8abf5 cJx4a65c_size_8abf5 1 (some .int), Cond.fieldLink RJx4a65c 48 "java/util/ArrayList" "size" "I", Cond.methodLink RX2 228 yJx4a65c_remove_915e3, Cond.instanceMethod yJx4a65c_remove_915e3, Cond.selects RJx4a65c yJx4a65c_remove_915e3 yJx4a65c_remove_915e3, Cond.code yJx4a65c_remove_915e3 cJx4a65c_remove_915e3 4 (some (.object "java/lang/Object")), Cond.fieldLink RJx4a65c 9 "java/util/ArrayList" "elementData" "[Ljava/lang/Object;", Cond.methodLink RJx4a65c 118 yJ15_checkIndex_7cf53, Cond.static yJ15_checkIndex_7cf53, Cond.initialized RJ15, Cond.code yJ15_checkIndex_7cf53 cJ15_checkIndex_7cf53 2 (some .int), Cond.methodLink RJ15 105 yJ3_checkIndex_8e157, Cond.static yJ3_checkIndex_8e157, Cond.initialized RJ3, Cond.code yJ3_checkIndex_8e157 cJ3_checkIndex_8e157 3 (some .int), Cond.methodLink RJx4a65c 144 yJx4a65c_fastRemove_b59b0, Cond.instanceMethod yJx4a65c_fastRemove_b59b0, Cond.selects RJx4a65c yJx4a65c_fastRemove_b59b0 yJx4a65c_fastRemove_b59b0, Cond.code yJx4a65c_fastRemove_b59b0 cJx4a65c_fastRemove_b59b0 4 none]
def wsX2_keepPairs_r3 : List Cond := [Cond.fieldLink RJx4a65c 63 "java/util/ArrayList" "modCount" "I", Cond.sameField "java/util/ArrayList" "java/util/AbstractList" "modCount" "I", Cond.methodLink RJx4a65c 112 arraycopyName, Cond.native arraycopyName, Cond.static arraycopyName, Cond.initialized "java/lang/System", Cond.methodLink RX2 232 yJx4a65c_add_9ea2d, Cond.instanceMethod yJx4a65c_add_9ea2d, Cond.selects RJx4a65c yJx4a65c_add_9ea2d yJx4a65c_add_9ea2d, Cond.code yJx4a65c_add_9ea2d cJx4a65c_add_9ea2d 2 (some .boolean), Cond.methodLink RJx4a65c 131 yJx4a65c_add_72be8, Cond.instanceMethod yJx4a65c_add_72be8, Cond.selects RJx4a65c yJx4a65c_add_72be8 yJx4a65c_add_72be8, Cond.code yJx4a65c_add_72be8 cJx4a65c_add_72be8 4 none, Cond.methodLink RJx4a65c 129 yJx4a65c_grow_d5877, Cond.instanceMethod yJx4a65c_grow_d5877, Cond.selects RJx4a65c yJx4a65c_grow_d5877 yJx4a65c_grow_d5877, Cond.code yJx4a65c_grow_d5877 cJx4a65c_grow_d5877 1 (some (.array (.object "java/lang/Object"))), Cond.methodLink RJx4a65c 69 yJx4a65c_grow_92f84, Cond.instanceMethod yJx4a65c_grow_92f84, Cond.selects RJx4a65c yJx4a65c_grow_92f84 yJx4a65c_grow_92f84, Cond.code yJx4a65c_grow_92f84 cJx4a65c_grow_92f84 4 (some (.array (.object "java/lang/Object"))), Cond.fieldLink RJx4a65c 39 "java/util/ArrayList" "DEFAULTCAPACITY_EMPTY_ELEMENTDATA" "[Ljava/lang/Object;", Cond.methodLink RJx4a65c 79 Lib.Math.max.name]
def wsX2_keepPairs_r4 : List Cond := [Cond.static Lib.Math.max.name, Cond.initialized "java/lang/Math", Cond.code Lib.Math.max.name Lib.Math.max.code 2 (some .int), Cond.classLink RJx4a65c 7 "java/lang/Object", Cond.methodLink RJx4a65c 73 yJ8_newLength_cabcc, Cond.static yJ8_newLength_cabcc, Cond.initialized RJ8, Cond.code yJ8_newLength_cabcc cJ8_newLength_cabcc 4 (some .int), Cond.methodLink RJ8 194 Lib.Math.max.name, Cond.constant RJ8 200 (2147483639), Cond.methodLink RJ8 201 yJ8_hugeLength_7cf53, Cond.static yJ8_hugeLength_7cf53, Cond.code yJ8_hugeLength_7cf53 cJ8_hugeLength_7cf53 3 (some .int), Cond.methodLink RJx4a65c 66 yJ7_copyOf_1904c, Cond.static yJ7_copyOf_1904c, Cond.initialized RJ7, Cond.code yJ7_copyOf_1904c cJ7_copyOf_1904c 2 (some (.array (.object "java/lang/Object"))), Cond.methodLink RJ7 86 ⟨"java/lang/Object", "getClass", "()Ljava/lang/Class;"⟩, Cond.selects "[Ljava/lang/Object;" ⟨"java/lang/Object", "getClass", "()Ljava/lang/Class;"⟩ ⟨"java/lang/Object", "getClass", "()Ljava/lang/Class;"⟩, Cond.instanceMethod ⟨"java/lang/Object", "getClass", "()Ljava/lang/Class;"⟩, Cond.native ⟨"java/lang/Object", "getClass", "()Ljava/lang/Class;"⟩, Cond.methodLink RJ7 300 yJ7_copyOf_6403c, Cond.static yJ7_copyOf_6403c, Cond.code yJ7_copyOf_6403c cJ7_copyOf_6403c 4 (some (.array (.object "java/lang/Object")))]
def wsX2_keepPairs_r5 : List Cond := [Cond.classLink RJ7 110 "[Ljava/lang/Object;", Cond.classLink RJ7 2 "java/lang/Object", Cond.methodLink RJ7 304 Lib.Math.min.name, Cond.static Lib.Math.min.name, Cond.code Lib.Math.min.name Lib.Math.min.code 2 (some .int), Cond.methodLink RJ7 150 arraycopyName]
def wsX2_keepPairs : List Cond := .code yX2_keepPairs cX2_keepPairs 7 none :: ((wsX2_keepPairs_r1 ++ (wsX2_keepPairs_r2 ++ (wsX2_keepPairs_r3 ++ (wsX2_keepPairs_r4 ++ wsX2_keepPairs_r5)))) ++ wsX20 ++ wsX10 ++ wsJx4a65c0)
def wsX2_change_r1 : List Cond := [Cond.fieldLink RX2 34 "PhraseCatalogue" "formTable" "[LPhraseCatalogue$Form;", Cond.fieldLink RX2 38 "PhraseCatalogue" "sourceVersions" "[I", Cond.fieldLink RX2 41 "PhraseCatalogue" "seenVersions" "[I", Cond.methodLink RX2 112 yX2_slotOf, Cond.static yX2_slotOf, Cond.initialized RX2, Cond.code yX2_slotOf cX2_slotOf 4 (some .int), Cond.methodLink RX2 133 yX2_textOf, Cond.static yX2_textOf, Cond.code yX2_textOf cX2_textOf 2 (some .int), Cond.methodLink RX2 195 yX2_keepPairs, Cond.instanceMethod yX2_keepPairs, Cond.selects RX2 yX2_keepPairs yX2_keepPairs, Cond.code yX2_keepPairs cX2_keepPairs 7 none, Cond.classLink RX2 166 RX1, Cond.instantiable RX1 3, Cond.initialized RX1, Cond.methodLink RX2 221 yX1_init, Cond.instanceMethod yX1_init, Cond.code yX1_init cX1_init 4 none, Cond.methodLink RX1 1 objectInit, Cond.instanceMethod objectInit, Cond.code objectInit ⟨#[0xb1]⟩ 1 none, Cond.fieldLink RX1 7 "PhraseCatalogue$Pair" "language" "I"]
def wsX2_change_r2 : List Cond := [Cond.fieldLink RX1 13 "PhraseCatalogue$Pair" "old" "LPhraseCatalogue$Form;", Cond.fieldLink RX1 17 "PhraseCatalogue$Pair" "translation" "LPhraseCatalogue$Form;", Cond.methodLink RX2 224 yX2_keepPair, Cond.instanceMethod yX2_keepPair, Cond.selects RX2 yX2_keepPair yX2_keepPair, Cond.code yX2_keepPair cX2_keepPair 2 none, Cond.fieldLink RX2 47 "PhraseCatalogue" "past" "Ljava/util/ArrayList;", Cond.methodLink RX2 157 yJx4a65c_size_8abf5, Cond.instanceMethod yJx4a65c_size_8abf5, Cond.selects RJx4a65c yJx4a65c_size_8abf5 yJx4a65c_size_8abf5, Cond.initialized RJx4a65c, Cond.code yJx4a65c_size_8abf5 cJx4a65c_size_8abf5 1 (some .int), Cond.fieldLink RJx4a65c 48 "java/util/ArrayList" "size" "I", Cond.methodLink RX2 228 yJx4a65c_remove_915e3, Cond.instanceMethod yJx4a65c_remove_915e3, Cond.selects RJx4a65c yJx4a65c_remove_915e3 yJx4a65c_remove_915e3, Cond.code yJx4a65c_remove_915e3 cJx4a65c_remove_915e3 4 (some (.object "java/lang/Object")), Cond.fieldLink RJx4a65c 9 "java/util/ArrayList" "elementData" "[Ljava/lang/Object;", Cond.methodLink RJx4a65c 118 yJ15_checkIndex_7cf53, Cond.static yJ15_checkIndex_7cf53, Cond.initialized RJ15, Cond.code yJ15_checkIndex_7cf53 cJ15_checkIndex_7cf53 2 (some .int), Cond.methodLink RJ15 105 yJ3_checkIndex_8e157, Cond.static yJ3_checkIndex_8e157]
def wsX2_change_r3 : List Cond := [Cond.initialized RJ3, Cond.code yJ3_checkIndex_8e157 cJ3_checkIndex_8e157 3 (some .int), Cond.methodLink RJx4a65c 144 yJx4a65c_fastRemove_b59b0, Cond.instanceMethod yJx4a65c_fastRemove_b59b0, Cond.selects RJx4a65c yJx4a65c_fastRemove_b59b0 yJx4a65c_fastRemove_b59b0, Cond.code yJx4a65c_fastRemove_b59b0 cJx4a65c_fastRemove_b59b0 4 none, Cond.fieldLink RJx4a65c 63 "java/util/ArrayList" "modCount" "I", Cond.sameField "java/util/ArrayList" "java/util/AbstractList" "modCount" "I", Cond.methodLink RJx4a65c 112 arraycopyName, Cond.native arraycopyName, Cond.static arraycopyName, Cond.initialized "java/lang/System", Cond.methodLink RX2 232 yJx4a65c_add_9ea2d, Cond.instanceMethod yJx4a65c_add_9ea2d, Cond.selects RJx4a65c yJx4a65c_add_9ea2d yJx4a65c_add_9ea2d, Cond.code yJx4a65c_add_9ea2d cJx4a65c_add_9ea2d 2 (some .boolean), Cond.methodLink RJx4a65c 131 yJx4a65c_add_72be8, Cond.instanceMethod yJx4a65c_add_72be8, Cond.selects RJx4a65c yJx4a65c_add_72be8 yJx4a65c_add_72be8, Cond.code yJx4a65c_add_72be8 cJx4a65c_add_72be8 4 none, Cond.methodLink RJx4a65c 129 yJx4a65c_grow_d5877, Cond.instanceMethod yJx4a65c_grow_d5877, Cond.selects RJx4a65c yJx4a65c_grow_d5877 yJx4a65c_grow_d5877, Cond.code yJx4a65c_grow_d5877 cJx4a65c_grow_d5877 1 (some (.array (.object "java/lang/Object")))]
def wsX2_change_r4 : List Cond := [Cond.methodLink RJx4a65c 69 yJx4a65c_grow_92f84, Cond.instanceMethod yJx4a65c_grow_92f84, Cond.selects RJx4a65c yJx4a65c_grow_92f84 yJx4a65c_grow_92f84, Cond.code yJx4a65c_grow_92f84 cJx4a65c_grow_92f84 4 (some (.array (.object "java/lang/Object"))), Cond.fieldLink RJx4a65c 39 "java/util/ArrayList" "DEFAULTCAPACITY_EMPTY_ELEMENTDATA" "[Ljava/lang/Object;", Cond.methodLink RJx4a65c 79 Lib.Math.max.name, Cond.static Lib.Math.max.name, Cond.initialized "java/lang/Math", Cond.code Lib.Math.max.name Lib.Math.max.code 2 (some .int), Cond.classLink RJx4a65c 7 "java/lang/Object", Cond.methodLink RJx4a65c 73 yJ8_newLength_cabcc, Cond.static yJ8_newLength_cabcc, Cond.initialized RJ8, Cond.code yJ8_newLength_cabcc cJ8_newLength_cabcc 4 (some .int), Cond.methodLink RJ8 194 Lib.Math.max.name, Cond.constant RJ8 200 (2147483639), Cond.methodLink RJ8 201 yJ8_hugeLength_7cf53, Cond.static yJ8_hugeLength_7cf53, Cond.code yJ8_hugeLength_7cf53 cJ8_hugeLength_7cf53 3 (some .int), Cond.methodLink RJx4a65c 66 yJ7_copyOf_1904c, Cond.static yJ7_copyOf_1904c, Cond.initialized RJ7, Cond.code yJ7_copyOf_1904c cJ7_copyOf_1904c 2 (some (.array (.object "java/lang/Object"))), Cond.methodLink RJ7 86 ⟨"java/lang/Object", "getClass", "()Ljava/lang/Class;"⟩]
def wsX2_change_r5 : List Cond := [Cond.selects "[Ljava/lang/Object;" ⟨"java/lang/Object", "getClass", "()Ljava/lang/Class;"⟩ ⟨"java/lang/Object", "getClass", "()Ljava/lang/Class;"⟩, Cond.instanceMethod ⟨"java/lang/Object", "getClass", "()Ljava/lang/Class;"⟩, Cond.native ⟨"java/lang/Object", "getClass", "()Ljava/lang/Class;"⟩, Cond.methodLink RJ7 300 yJ7_copyOf_6403c, Cond.static yJ7_copyOf_6403c, Cond.code yJ7_copyOf_6403c cJ7_copyOf_6403c 4 (some (.array (.object "java/lang/Object"))), Cond.classLink RJ7 110 "[Ljava/lang/Object;", Cond.classLink RJ7 2 "java/lang/Object", Cond.methodLink RJ7 304 Lib.Math.min.name, Cond.static Lib.Math.min.name, Cond.code Lib.Math.min.name Lib.Math.min.code 2 (some .int), Cond.methodLink RJ7 150 arraycopyName]
def wsX2_change : List Cond := .code yX2_change cX2_change 7 none :: ((wsX2_change_r1 ++ (wsX2_change_r2 ++ (wsX2_change_r3 ++ (wsX2_change_r4 ++ wsX2_change_r5)))) ++ wsX20 ++ wsX10 ++ wsJx4a65c0)
def wsX2_set_r1 : List Cond := [Cond.classLink RX2 86 "java/lang/IllegalStateException", Cond.initialized "java/lang/IllegalStateException", Cond.fieldLink RX2 28 "PhraseCatalogue" "draftLength" "I", Cond.fieldLink RX2 25 "PhraseCatalogue" "draftSigns" "[I", Cond.classLink RX2 32 RX0, Cond.instantiable RX0 3, Cond.initialized RX0, Cond.fieldLink RX2 38 "PhraseCatalogue" "sourceVersions" "[I", Cond.methodLink RX2 91 yX2_requireForm, Cond.static yX2_requireForm, Cond.initialized RX2, Cond.code yX2_requireForm cX2_requireForm 4 none, Cond.classLink RX2 58 "java/lang/IndexOutOfBoundsException", Cond.initialized "java/lang/IndexOutOfBoundsException", Cond.methodLink RX2 127 yX2_requireKey, Cond.static yX2_requireKey, Cond.code yX2_requireKey cX2_requireKey 1 none, Cond.methodLink RX2 54 yX2_requireLanguage, Cond.static yX2_requireLanguage, Cond.code yX2_requireLanguage cX2_requireLanguage 1 none, Cond.methodLink RX2 188 yX2_requireGender, Cond.static yX2_requireGender, Cond.code yX2_requireGender cX2_requireGender 1 none, Cond.methodLink RX2 97 yJ7_copyOf_59c91]
def wsX2_set_r2 : List Cond := [Cond.static yJ7_copyOf_59c91, Cond.initialized RJ7, Cond.code yJ7_copyOf_59c91 cJ7_copyOf_59c91 3 (some (.array .int)), Cond.methodLink RJ7 316 ⟨"[I", "clone", "()Ljava/lang/Object;"⟩, Cond.sameMethod "[I" "java/lang/Object" "clone" "()Ljava/lang/Object;", Cond.native ⟨"java/lang/Object", "clone", "()Ljava/lang/Object;"⟩, Cond.instanceMethod ⟨"java/lang/Object", "clone", "()Ljava/lang/Object;"⟩, Cond.selects "[I" ⟨"[I", "clone", "()Ljava/lang/Object;"⟩ ⟨"java/lang/Object", "clone", "()Ljava/lang/Object;"⟩, Cond.classLink RJ7 317 "[I", Cond.arrayClass .int, Cond.methodLink RJ7 304 Lib.Math.min.name, Cond.static Lib.Math.min.name, Cond.initialized "java/lang/Math", Cond.code Lib.Math.min.name Lib.Math.min.code 2 (some .int), Cond.methodLink RJ7 150 arraycopyName, Cond.native arraycopyName, Cond.static arraycopyName, Cond.initialized "java/lang/System", Cond.methodLink RX2 101 yX2_placeholdersOf, Cond.static yX2_placeholdersOf, Cond.code yX2_placeholdersOf cX2_placeholdersOf 3 (some .int), Cond.methodLink RX2 81 yX2_isPlaceholder, Cond.static yX2_isPlaceholder, Cond.code yX2_isPlaceholder cX2_isPlaceholder 1 (some .boolean)]
def wsX2_set_r3 : List Cond := [Cond.methodLink RX2 105 yX0_init, Cond.instanceMethod yX0_init, Cond.code yX0_init cX0_init 4 none, Cond.methodLink RX0 1 objectInit, Cond.instanceMethod objectInit, Cond.code objectInit ⟨#[0xb1]⟩ 1 none, Cond.fieldLink RX0 7 "PhraseCatalogue$Form" "signs" "[I", Cond.fieldLink RX0 13 "PhraseCatalogue$Form" "mayLack" "Z", Cond.fieldLink RX0 17 "PhraseCatalogue$Form" "placeholders" "I", Cond.methodLink RX2 108 yX2_change, Cond.instanceMethod yX2_change, Cond.selects RX2 yX2_change yX2_change, Cond.code yX2_change cX2_change 7 none, Cond.fieldLink RX2 34 "PhraseCatalogue" "formTable" "[LPhraseCatalogue$Form;", Cond.fieldLink RX2 41 "PhraseCatalogue" "seenVersions" "[I", Cond.methodLink RX2 112 yX2_slotOf, Cond.static yX2_slotOf, Cond.code yX2_slotOf cX2_slotOf 4 (some .int), Cond.methodLink RX2 133 yX2_textOf, Cond.static yX2_textOf, Cond.code yX2_textOf cX2_textOf 2 (some .int), Cond.methodLink RX2 195 yX2_keepPairs, Cond.instanceMethod yX2_keepPairs, Cond.selects RX2 yX2_keepPairs yX2_keepPairs]
def wsX2_set_r4 : List Cond := [Cond.code yX2_keepPairs cX2_keepPairs 7 none, Cond.classLink RX2 166 RX1, Cond.instantiable RX1 3, Cond.initialized RX1, Cond.methodLink RX2 221 yX1_init, Cond.instanceMethod yX1_init, Cond.code yX1_init cX1_init 4 none, Cond.methodLink RX1 1 objectInit, Cond.fieldLink RX1 7 "PhraseCatalogue$Pair" "language" "I", Cond.fieldLink RX1 13 "PhraseCatalogue$Pair" "old" "LPhraseCatalogue$Form;", Cond.fieldLink RX1 17 "PhraseCatalogue$Pair" "translation" "LPhraseCatalogue$Form;", Cond.methodLink RX2 224 yX2_keepPair, Cond.instanceMethod yX2_keepPair, Cond.selects RX2 yX2_keepPair yX2_keepPair, Cond.code yX2_keepPair cX2_keepPair 2 none, Cond.fieldLink RX2 47 "PhraseCatalogue" "past" "Ljava/util/ArrayList;", Cond.methodLink RX2 157 yJx4a65c_size_8abf5, Cond.instanceMethod yJx4a65c_size_8abf5, Cond.selects RJx4a65c yJx4a65c_size_8abf5 yJx4a65c_size_8abf5, Cond.initialized RJx4a65c, Cond.code yJx4a65c_size_8abf5 cJx4a65c_size_8abf5 1 (some .int), Cond.fieldLink RJx4a65c 48 "java/util/ArrayList" "size" "I", Cond.methodLink RX2 228 yJx4a65c_remove_915e3, Cond.instanceMethod yJx4a65c_remove_915e3]
def wsX2_set_r5 : List Cond := [Cond.selects RJx4a65c yJx4a65c_remove_915e3 yJx4a65c_remove_915e3, Cond.code yJx4a65c_remove_915e3 cJx4a65c_remove_915e3 4 (some (.object "java/lang/Object")), Cond.fieldLink RJx4a65c 9 "java/util/ArrayList" "elementData" "[Ljava/lang/Object;", Cond.methodLink RJx4a65c 118 yJ15_checkIndex_7cf53, Cond.static yJ15_checkIndex_7cf53, Cond.initialized RJ15, Cond.code yJ15_checkIndex_7cf53 cJ15_checkIndex_7cf53 2 (some .int), Cond.methodLink RJ15 105 yJ3_checkIndex_8e157, Cond.static yJ3_checkIndex_8e157, Cond.initialized RJ3, Cond.code yJ3_checkIndex_8e157 cJ3_checkIndex_8e157 3 (some .int), Cond.methodLink RJx4a65c 144 yJx4a65c_fastRemove_b59b0, Cond.instanceMethod yJx4a65c_fastRemove_b59b0, Cond.selects RJx4a65c yJx4a65c_fastRemove_b59b0 yJx4a65c_fastRemove_b59b0, Cond.code yJx4a65c_fastRemove_b59b0 cJx4a65c_fastRemove_b59b0 4 none, Cond.fieldLink RJx4a65c 63 "java/util/ArrayList" "modCount" "I", Cond.sameField "java/util/ArrayList" "java/util/AbstractList" "modCount" "I", Cond.methodLink RJx4a65c 112 arraycopyName, Cond.methodLink RX2 232 yJx4a65c_add_9ea2d, Cond.instanceMethod yJx4a65c_add_9ea2d, Cond.selects RJx4a65c yJx4a65c_add_9ea2d yJx4a65c_add_9ea2d, Cond.code yJx4a65c_add_9ea2d cJx4a65c_add_9ea2d 2 (some .boolean), Cond.methodLink RJx4a65c 131 yJx4a65c_add_72be8, Cond.instanceMethod yJx4a65c_add_72be8]
def wsX2_set_r6 : List Cond := [Cond.selects RJx4a65c yJx4a65c_add_72be8 yJx4a65c_add_72be8, Cond.code yJx4a65c_add_72be8 cJx4a65c_add_72be8 4 none, Cond.methodLink RJx4a65c 129 yJx4a65c_grow_d5877, Cond.instanceMethod yJx4a65c_grow_d5877, Cond.selects RJx4a65c yJx4a65c_grow_d5877 yJx4a65c_grow_d5877, Cond.code yJx4a65c_grow_d5877 cJx4a65c_grow_d5877 1 (some (.array (.object "java/lang/Object"))), Cond.methodLink RJx4a65c 69 yJx4a65c_grow_92f84, Cond.instanceMethod yJx4a65c_grow_92f84, Cond.selects RJx4a65c yJx4a65c_grow_92f84 yJx4a65c_grow_92f84, Cond.code yJx4a65c_grow_92f84 cJx4a65c_grow_92f84 4 (some (.array (.object "java/lang/Object"))), Cond.fieldLink RJx4a65c 39 "java/util/ArrayList" "DEFAULTCAPACITY_EMPTY_ELEMENTDATA" "[Ljava/lang/Object;", Cond.methodLink RJx4a65c 79 Lib.Math.max.name, Cond.static Lib.Math.max.name, Cond.code Lib.Math.max.name Lib.Math.max.code 2 (some .int), Cond.classLink RJx4a65c 7 "java/lang/Object", Cond.methodLink RJx4a65c 73 yJ8_newLength_cabcc, Cond.static yJ8_newLength_cabcc, Cond.initialized RJ8, Cond.code yJ8_newLength_cabcc cJ8_newLength_cabcc 4 (some .int), Cond.methodLink RJ8 194 Lib.Math.max.name, Cond.constant RJ8 200 (2147483639), Cond.methodLink RJ8 201 yJ8_hugeLength_7cf53, Cond.static yJ8_hugeLength_7cf53, Cond.code yJ8_hugeLength_7cf53 cJ8_hugeLength_7cf53 3 (some .int)]
def wsX2_set_r7 : List Cond := [Cond.methodLink RJx4a65c 66 yJ7_copyOf_1904c, Cond.static yJ7_copyOf_1904c, Cond.code yJ7_copyOf_1904c cJ7_copyOf_1904c 2 (some (.array (.object "java/lang/Object"))), Cond.methodLink RJ7 86 ⟨"java/lang/Object", "getClass", "()Ljava/lang/Class;"⟩, Cond.selects "[Ljava/lang/Object;" ⟨"java/lang/Object", "getClass", "()Ljava/lang/Class;"⟩ ⟨"java/lang/Object", "getClass", "()Ljava/lang/Class;"⟩, Cond.instanceMethod ⟨"java/lang/Object", "getClass", "()Ljava/lang/Class;"⟩, Cond.native ⟨"java/lang/Object", "getClass", "()Ljava/lang/Class;"⟩, Cond.methodLink RJ7 300 yJ7_copyOf_6403c, Cond.static yJ7_copyOf_6403c, Cond.code yJ7_copyOf_6403c cJ7_copyOf_6403c 4 (some (.array (.object "java/lang/Object"))), Cond.classLink RJ7 110 "[Ljava/lang/Object;", Cond.classLink RJ7 2 "java/lang/Object"]
def wsX2_set : List Cond := .code yX2_set cX2_set 7 (some .int) :: ((wsX2_set_r1 ++ (wsX2_set_r2 ++ (wsX2_set_r3 ++ (wsX2_set_r4 ++ (wsX2_set_r5 ++ (wsX2_set_r6 ++ wsX2_set_r7)))))) ++ wsX20 ++ wsX00 ++ wsX10 ++ wsJx4a65c0 ++ (vx_atS RX2 90 "java/lang/IllegalStateException" ["java/lang/RuntimeException", "java/lang/Exception"]).filter goodWord ++ (vx_atS RX2 62 "java/lang/IndexOutOfBoundsException" ["java/lang/RuntimeException", "java/lang/Exception"]).filter goodWord)
def wsX2_remove_r1 : List Cond := [Cond.classLink RX2 86 "java/lang/IllegalStateException", Cond.initialized "java/lang/IllegalStateException", Cond.fieldLink RX2 34 "PhraseCatalogue" "formTable" "[LPhraseCatalogue$Form;", Cond.fieldLink RX2 118 "PhraseCatalogue$Form" "signs" "[I", Cond.methodLink RX2 91 yX2_requireForm, Cond.static yX2_requireForm, Cond.initialized RX2, Cond.code yX2_requireForm cX2_requireForm 4 none, Cond.classLink RX2 58 "java/lang/IndexOutOfBoundsException", Cond.initialized "java/lang/IndexOutOfBoundsException", Cond.methodLink RX2 127 yX2_requireKey, Cond.static yX2_requireKey, Cond.code yX2_requireKey cX2_requireKey 1 none, Cond.methodLink RX2 54 yX2_requireLanguage, Cond.static yX2_requireLanguage, Cond.code yX2_requireLanguage cX2_requireLanguage 1 none, Cond.methodLink RX2 188 yX2_requireGender, Cond.static yX2_requireGender, Cond.code yX2_requireGender cX2_requireGender 1 none, Cond.methodLink RX2 112 yX2_slotOf, Cond.static yX2_slotOf, Cond.code yX2_slotOf cX2_slotOf 4 (some .int), Cond.methodLink RX2 133 yX2_textOf, Cond.static yX2_textOf]
def wsX2_remove_r2 : List Cond := [Cond.code yX2_textOf cX2_textOf 2 (some .int), Cond.methodLink RX2 108 yX2_change, Cond.instanceMethod yX2_change, Cond.selects RX2 yX2_change yX2_change, Cond.code yX2_change cX2_change 7 none, Cond.fieldLink RX2 38 "PhraseCatalogue" "sourceVersions" "[I", Cond.fieldLink RX2 41 "PhraseCatalogue" "seenVersions" "[I", Cond.methodLink RX2 195 yX2_keepPairs, Cond.instanceMethod yX2_keepPairs, Cond.selects RX2 yX2_keepPairs yX2_keepPairs, Cond.code yX2_keepPairs cX2_keepPairs 7 none, Cond.classLink RX2 166 RX1, Cond.instantiable RX1 3, Cond.initialized RX1, Cond.methodLink RX2 221 yX1_init, Cond.instanceMethod yX1_init, Cond.code yX1_init cX1_init 4 none, Cond.methodLink RX1 1 objectInit, Cond.instanceMethod objectInit, Cond.code objectInit ⟨#[0xb1]⟩ 1 none, Cond.fieldLink RX1 7 "PhraseCatalogue$Pair" "language" "I", Cond.fieldLink RX1 13 "PhraseCatalogue$Pair" "old" "LPhraseCatalogue$Form;", Cond.fieldLink RX1 17 "PhraseCatalogue$Pair" "translation" "LPhraseCatalogue$Form;", Cond.methodLink RX2 224 yX2_keepPair]
def wsX2_remove_r3 : List Cond := [Cond.instanceMethod yX2_keepPair, Cond.selects RX2 yX2_keepPair yX2_keepPair, Cond.code yX2_keepPair cX2_keepPair 2 none, Cond.fieldLink RX2 47 "PhraseCatalogue" "past" "Ljava/util/ArrayList;", Cond.methodLink RX2 157 yJx4a65c_size_8abf5, Cond.instanceMethod yJx4a65c_size_8abf5, Cond.selects RJx4a65c yJx4a65c_size_8abf5 yJx4a65c_size_8abf5, Cond.initialized RJx4a65c, Cond.code yJx4a65c_size_8abf5 cJx4a65c_size_8abf5 1 (some .int), Cond.fieldLink RJx4a65c 48 "java/util/ArrayList" "size" "I", Cond.methodLink RX2 228 yJx4a65c_remove_915e3, Cond.instanceMethod yJx4a65c_remove_915e3, Cond.selects RJx4a65c yJx4a65c_remove_915e3 yJx4a65c_remove_915e3, Cond.code yJx4a65c_remove_915e3 cJx4a65c_remove_915e3 4 (some (.object "java/lang/Object")), Cond.fieldLink RJx4a65c 9 "java/util/ArrayList" "elementData" "[Ljava/lang/Object;", Cond.methodLink RJx4a65c 118 yJ15_checkIndex_7cf53, Cond.static yJ15_checkIndex_7cf53, Cond.initialized RJ15, Cond.code yJ15_checkIndex_7cf53 cJ15_checkIndex_7cf53 2 (some .int), Cond.methodLink RJ15 105 yJ3_checkIndex_8e157, Cond.static yJ3_checkIndex_8e157, Cond.initialized RJ3, Cond.code yJ3_checkIndex_8e157 cJ3_checkIndex_8e157 3 (some .int), Cond.methodLink RJx4a65c 144 yJx4a65c_fastRemove_b59b0]
def wsX2_remove_r4 : List Cond := [Cond.instanceMethod yJx4a65c_fastRemove_b59b0, Cond.selects RJx4a65c yJx4a65c_fastRemove_b59b0 yJx4a65c_fastRemove_b59b0, Cond.code yJx4a65c_fastRemove_b59b0 cJx4a65c_fastRemove_b59b0 4 none, Cond.fieldLink RJx4a65c 63 "java/util/ArrayList" "modCount" "I", Cond.sameField "java/util/ArrayList" "java/util/AbstractList" "modCount" "I", Cond.methodLink RJx4a65c 112 arraycopyName, Cond.native arraycopyName, Cond.static arraycopyName, Cond.initialized "java/lang/System", Cond.methodLink RX2 232 yJx4a65c_add_9ea2d, Cond.instanceMethod yJx4a65c_add_9ea2d, Cond.selects RJx4a65c yJx4a65c_add_9ea2d yJx4a65c_add_9ea2d, Cond.code yJx4a65c_add_9ea2d cJx4a65c_add_9ea2d 2 (some .boolean), Cond.methodLink RJx4a65c 131 yJx4a65c_add_72be8, Cond.instanceMethod yJx4a65c_add_72be8, Cond.selects RJx4a65c yJx4a65c_add_72be8 yJx4a65c_add_72be8, Cond.code yJx4a65c_add_72be8 cJx4a65c_add_72be8 4 none, Cond.methodLink RJx4a65c 129 yJx4a65c_grow_d5877, Cond.instanceMethod yJx4a65c_grow_d5877, Cond.selects RJx4a65c yJx4a65c_grow_d5877 yJx4a65c_grow_d5877, Cond.code yJx4a65c_grow_d5877 cJx4a65c_grow_d5877 1 (some (.array (.object "java/lang/Object"))), Cond.methodLink RJx4a65c 69 yJx4a65c_grow_92f84, Cond.instanceMethod yJx4a65c_grow_92f84, Cond.selects RJx4a65c yJx4a65c_grow_92f84 yJx4a65c_grow_92f84]
def wsX2_remove_r5 : List Cond := [Cond.code yJx4a65c_grow_92f84 cJx4a65c_grow_92f84 4 (some (.array (.object "java/lang/Object"))), Cond.fieldLink RJx4a65c 39 "java/util/ArrayList" "DEFAULTCAPACITY_EMPTY_ELEMENTDATA" "[Ljava/lang/Object;", Cond.methodLink RJx4a65c 79 Lib.Math.max.name, Cond.static Lib.Math.max.name, Cond.initialized "java/lang/Math", Cond.code Lib.Math.max.name Lib.Math.max.code 2 (some .int), Cond.classLink RJx4a65c 7 "java/lang/Object", Cond.methodLink RJx4a65c 73 yJ8_newLength_cabcc, Cond.static yJ8_newLength_cabcc, Cond.initialized RJ8, Cond.code yJ8_newLength_cabcc cJ8_newLength_cabcc 4 (some .int), Cond.methodLink RJ8 194 Lib.Math.max.name, Cond.constant RJ8 200 (2147483639), Cond.methodLink RJ8 201 yJ8_hugeLength_7cf53, Cond.static yJ8_hugeLength_7cf53, Cond.code yJ8_hugeLength_7cf53 cJ8_hugeLength_7cf53 3 (some .int), Cond.methodLink RJx4a65c 66 yJ7_copyOf_1904c, Cond.static yJ7_copyOf_1904c, Cond.initialized RJ7, Cond.code yJ7_copyOf_1904c cJ7_copyOf_1904c 2 (some (.array (.object "java/lang/Object"))), Cond.methodLink RJ7 86 ⟨"java/lang/Object", "getClass", "()Ljava/lang/Class;"⟩, Cond.selects "[Ljava/lang/Object;" ⟨"java/lang/Object", "getClass", "()Ljava/lang/Class;"⟩ ⟨"java/lang/Object", "getClass", "()Ljava/lang/Class;"⟩, Cond.instanceMethod ⟨"java/lang/Object", "getClass", "()Ljava/lang/Class;"⟩, Cond.native ⟨"java/lang/Object", "getClass", "()Ljava/lang/Class;"⟩]
def wsX2_remove_r6 : List Cond := [Cond.methodLink RJ7 300 yJ7_copyOf_6403c, Cond.static yJ7_copyOf_6403c, Cond.code yJ7_copyOf_6403c cJ7_copyOf_6403c 4 (some (.array (.object "java/lang/Object"))), Cond.classLink RJ7 110 "[Ljava/lang/Object;", Cond.classLink RJ7 2 "java/lang/Object", Cond.methodLink RJ7 304 Lib.Math.min.name, Cond.static Lib.Math.min.name, Cond.code Lib.Math.min.name Lib.Math.min.code 2 (some .int), Cond.methodLink RJ7 150 arraycopyName]
def wsX2_remove : List Cond := .code yX2_remove cX2_remove 6 (some .int) :: ((wsX2_remove_r1 ++ (wsX2_remove_r2 ++ (wsX2_remove_r3 ++ (wsX2_remove_r4 ++ (wsX2_remove_r5 ++ wsX2_remove_r6))))) ++ wsX20 ++ wsX00 ++ wsX10 ++ wsJx4a65c0 ++ (vx_atS RX2 90 "java/lang/IllegalStateException" ["java/lang/RuntimeException", "java/lang/Exception"]).filter goodWord ++ (vx_atS RX2 62 "java/lang/IndexOutOfBoundsException" ["java/lang/RuntimeException", "java/lang/Exception"]).filter goodWord)
def wsX2_draft : List Cond := .code yX2_draft cX2_draft 1 (some .int) :: ([.fieldLink RX2 28 "PhraseCatalogue" "draftLength" "I"] ++ wsX20)
def wsX2_requireNumber : List Cond := .code yX2_requireNumber cX2_requireNumber 1 none :: ([.classLink RX2 69 "java/lang/IllegalArgumentException", .initialized "java/lang/IllegalArgumentException"] ++ (vx_atS RX2 73 "java/lang/IllegalArgumentException" ["java/lang/RuntimeException", "java/lang/Exception"]).filter goodWord)
def wsX2_classOf : List Cond := .code yX2_classOf cX2_classOf 3 (some .int) :: ([.fieldLink RX2 13 "PhraseCatalogue" "onesLimits" "[I", .fieldLink RX2 16 "PhraseCatalogue" "fewLimits" "[I"] ++ wsX20)
def wsX2_kindOf : List Cond := .code yX2_kindOf cX2_kindOf 3 (some .int) :: ([.methodLink RX2 54 yX2_requireLanguage, .static yX2_requireLanguage, .initialized RX2, .code yX2_requireLanguage cX2_requireLanguage 1 none, .classLink RX2 58 "java/lang/IndexOutOfBoundsException", .initialized "java/lang/IndexOutOfBoundsException", .methodLink RX2 121 yX2_requireNumber, .static yX2_requireNumber, .code yX2_requireNumber cX2_requireNumber 1 none, .classLink RX2 69 "java/lang/IllegalArgumentException", .initialized "java/lang/IllegalArgumentException", .methodLink RX2 124 yX2_classOf, .instanceMethod yX2_classOf, .selects RX2 yX2_classOf yX2_classOf, .code yX2_classOf cX2_classOf 3 (some .int), .fieldLink RX2 13 "PhraseCatalogue" "onesLimits" "[I", .fieldLink RX2 16 "PhraseCatalogue" "fewLimits" "[I"] ++ wsX20 ++ (vx_atS RX2 62 "java/lang/IndexOutOfBoundsException" ["java/lang/RuntimeException", "java/lang/Exception"]).filter goodWord ++ (vx_atS RX2 73 "java/lang/IllegalArgumentException" ["java/lang/RuntimeException", "java/lang/Exception"]).filter goodWord)
def wsX2_countForms : List Cond := .code yX2_countForms cX2_countForms 6 (some .int) :: ([.fieldLink RX2 34 "PhraseCatalogue" "formTable" "[LPhraseCatalogue$Form;", .methodLink RX2 112 yX2_slotOf, .static yX2_slotOf, .initialized RX2, .code yX2_slotOf cX2_slotOf 4 (some .int), .methodLink RX2 133 yX2_textOf, .static yX2_textOf, .code yX2_textOf cX2_textOf 2 (some .int)] ++ wsX20)
def wsX2_forms : List Cond := .code yX2_forms cX2_forms 3 (some .int) :: ([.methodLink RX2 127 yX2_requireKey, .static yX2_requireKey, .initialized RX2, .code yX2_requireKey cX2_requireKey 1 none, .classLink RX2 58 "java/lang/IndexOutOfBoundsException", .initialized "java/lang/IndexOutOfBoundsException", .methodLink RX2 54 yX2_requireLanguage, .static yX2_requireLanguage, .code yX2_requireLanguage cX2_requireLanguage 1 none, .methodLink RX2 130 yX2_countForms, .instanceMethod yX2_countForms, .selects RX2 yX2_countForms yX2_countForms, .code yX2_countForms cX2_countForms 6 (some .int), .fieldLink RX2 34 "PhraseCatalogue" "formTable" "[LPhraseCatalogue$Form;", .methodLink RX2 112 yX2_slotOf, .static yX2_slotOf, .code yX2_slotOf cX2_slotOf 4 (some .int), .methodLink RX2 133 yX2_textOf, .static yX2_textOf, .code yX2_textOf cX2_textOf 2 (some .int)] ++ wsX20 ++ (vx_atS RX2 62 "java/lang/IndexOutOfBoundsException" ["java/lang/RuntimeException", "java/lang/Exception"]).filter goodWord)
def wsX2_version : List Cond := .code yX2_version cX2_version 2 (some .int) :: ([.fieldLink RX2 38 "PhraseCatalogue" "sourceVersions" "[I", .methodLink RX2 127 yX2_requireKey, .static yX2_requireKey, .initialized RX2, .code yX2_requireKey cX2_requireKey 1 none, .classLink RX2 58 "java/lang/IndexOutOfBoundsException", .initialized "java/lang/IndexOutOfBoundsException"] ++ wsX20 ++ (vx_atS RX2 62 "java/lang/IndexOutOfBoundsException" ["java/lang/RuntimeException", "java/lang/Exception"]).filter goodWord)
def wsX2_staleBy : List Cond := .code yX2_staleBy cX2_staleBy 3 (some .int) :: ([.fieldLink RX2 38 "PhraseCatalogue" "sourceVersions" "[I", .fieldLink RX2 41 "PhraseCatalogue" "seenVersions" "[I", .methodLink RX2 127 yX2_requireKey, .static yX2_requireKey, .initialized RX2, .code yX2_requireKey cX2_requireKey 1 none, .classLink RX2 58 "java/lang/IndexOutOfBoundsException", .initialized "java/lang/IndexOutOfBoundsException", .methodLink RX2 54 yX2_requireLanguage, .static yX2_requireLanguage, .code yX2_requireLanguage cX2_requireLanguage 1 none, .methodLink RX2 130 yX2_countForms, .instanceMethod yX2_countForms, .selects RX2 yX2_countForms yX2_countForms, .code yX2_countForms cX2_countForms 6 (some .int), .fieldLink RX2 34 "PhraseCatalogue" "formTable" "[LPhraseCatalogue$Form;", .methodLink RX2 112 yX2_slotOf, .static yX2_slotOf, .code yX2_slotOf cX2_slotOf 4 (some .int), .methodLink RX2 133 yX2_textOf, .static yX2_textOf, .code yX2_textOf cX2_textOf 2 (some .int)] ++ wsX20 ++ (vx_atS RX2 62 "java/lang/IndexOutOfBoundsException" ["java/lang/RuntimeException", "java/lang/Exception"]).filter goodWord)
def wsX2_missing : List Cond := .code yX2_missing cX2_missing 4 (some .int) :: ([.methodLink RX2 54 yX2_requireLanguage, .static yX2_requireLanguage, .initialized RX2, .code yX2_requireLanguage cX2_requireLanguage 1 none, .classLink RX2 58 "java/lang/IndexOutOfBoundsException", .initialized "java/lang/IndexOutOfBoundsException", .methodLink RX2 130 yX2_countForms, .instanceMethod yX2_countForms, .selects RX2 yX2_countForms yX2_countForms, .code yX2_countForms cX2_countForms 6 (some .int), .fieldLink RX2 34 "PhraseCatalogue" "formTable" "[LPhraseCatalogue$Form;", .methodLink RX2 112 yX2_slotOf, .static yX2_slotOf, .code yX2_slotOf cX2_slotOf 4 (some .int), .methodLink RX2 133 yX2_textOf, .static yX2_textOf, .code yX2_textOf cX2_textOf 2 (some .int)] ++ wsX20 ++ (vx_atS RX2 62 "java/lang/IndexOutOfBoundsException" ["java/lang/RuntimeException", "java/lang/Exception"]).filter goodWord)
def wsX2_sourcePlaceholders : List Cond := .code yX2_sourcePlaceholders cX2_sourcePlaceholders 6 (some .int) :: ([.fieldLink RX2 34 "PhraseCatalogue" "formTable" "[LPhraseCatalogue$Form;", .fieldLink RX2 199 "PhraseCatalogue$Form" "placeholders" "I", .methodLink RX2 112 yX2_slotOf, .static yX2_slotOf, .initialized RX2, .code yX2_slotOf cX2_slotOf 4 (some .int), .methodLink RX2 133 yX2_textOf, .static yX2_textOf, .code yX2_textOf cX2_textOf 2 (some .int)] ++ wsX20 ++ wsX00)
def wsX2_isFitting : List Cond := .code yX2_isFitting cX2_isFitting 6 (some .boolean) :: ([.fieldLink RX2 199 "PhraseCatalogue$Form" "placeholders" "I", .fieldLink RX2 205 "PhraseCatalogue$Form" "mayLack" "Z", .methodLink RX2 202 yX2_sourcePlaceholders, .instanceMethod yX2_sourcePlaceholders, .selects RX2 yX2_sourcePlaceholders yX2_sourcePlaceholders, .initialized RX2, .code yX2_sourcePlaceholders cX2_sourcePlaceholders 6 (some .int), .fieldLink RX2 34 "PhraseCatalogue" "formTable" "[LPhraseCatalogue$Form;", .methodLink RX2 112 yX2_slotOf, .static yX2_slotOf, .code yX2_slotOf cX2_slotOf 4 (some .int), .methodLink RX2 133 yX2_textOf, .static yX2_textOf, .code yX2_textOf cX2_textOf 2 (some .int)] ++ wsX00 ++ wsX20)
def wsX2_fits_r1 : List Cond := [Cond.fieldLink RX2 34 "PhraseCatalogue" "formTable" "[LPhraseCatalogue$Form;", Cond.methodLink RX2 91 yX2_requireForm, Cond.static yX2_requireForm, Cond.initialized RX2, Cond.code yX2_requireForm cX2_requireForm 4 none, Cond.classLink RX2 58 "java/lang/IndexOutOfBoundsException", Cond.initialized "java/lang/IndexOutOfBoundsException", Cond.methodLink RX2 127 yX2_requireKey, Cond.static yX2_requireKey, Cond.code yX2_requireKey cX2_requireKey 1 none, Cond.methodLink RX2 54 yX2_requireLanguage, Cond.static yX2_requireLanguage, Cond.code yX2_requireLanguage cX2_requireLanguage 1 none, Cond.methodLink RX2 188 yX2_requireGender, Cond.static yX2_requireGender, Cond.code yX2_requireGender cX2_requireGender 1 none, Cond.methodLink RX2 112 yX2_slotOf, Cond.static yX2_slotOf, Cond.code yX2_slotOf cX2_slotOf 4 (some .int), Cond.methodLink RX2 133 yX2_textOf, Cond.static yX2_textOf, Cond.code yX2_textOf cX2_textOf 2 (some .int), Cond.methodLink RX2 136 yX2_isFitting, Cond.instanceMethod yX2_isFitting]
def wsX2_fits_r2 : List Cond := [Cond.selects RX2 yX2_isFitting yX2_isFitting, Cond.code yX2_isFitting cX2_isFitting 6 (some .boolean), Cond.fieldLink RX2 199 "PhraseCatalogue$Form" "placeholders" "I", Cond.fieldLink RX2 205 "PhraseCatalogue$Form" "mayLack" "Z", Cond.methodLink RX2 202 yX2_sourcePlaceholders, Cond.instanceMethod yX2_sourcePlaceholders, Cond.selects RX2 yX2_sourcePlaceholders yX2_sourcePlaceholders, Cond.code yX2_sourcePlaceholders cX2_sourcePlaceholders 6 (some .int)]
def wsX2_fits : List Cond := .code yX2_fits cX2_fits 5 (some .boolean) :: ((wsX2_fits_r1 ++ wsX2_fits_r2) ++ wsX20 ++ wsX00 ++ (vx_atS RX2 62 "java/lang/IndexOutOfBoundsException" ["java/lang/RuntimeException", "java/lang/Exception"]).filter goodWord)
def wsX2_requireQuestion : List Cond := .code yX2_requireQuestion cX2_requireQuestion 4 none :: ([.methodLink RX2 127 yX2_requireKey, .static yX2_requireKey, .initialized RX2, .code yX2_requireKey cX2_requireKey 1 none, .classLink RX2 58 "java/lang/IndexOutOfBoundsException", .initialized "java/lang/IndexOutOfBoundsException", .methodLink RX2 54 yX2_requireLanguage, .static yX2_requireLanguage, .code yX2_requireLanguage cX2_requireLanguage 1 none, .methodLink RX2 188 yX2_requireGender, .static yX2_requireGender, .code yX2_requireGender cX2_requireGender 1 none, .methodLink RX2 121 yX2_requireNumber, .static yX2_requireNumber, .code yX2_requireNumber cX2_requireNumber 1 none, .classLink RX2 69 "java/lang/IllegalArgumentException", .initialized "java/lang/IllegalArgumentException"] ++ (vx_atS RX2 62 "java/lang/IndexOutOfBoundsException" ["java/lang/RuntimeException", "java/lang/Exception"]).filter goodWord ++ (vx_atS RX2 73 "java/lang/IllegalArgumentException" ["java/lang/RuntimeException", "java/lang/Exception"]).filter goodWord)
def wsX2_findInClass : List Cond := .code yX2_findInClass cX2_findInClass 7 (some .int) :: ([.fieldLink RX2 34 "PhraseCatalogue" "formTable" "[LPhraseCatalogue$Form;", .methodLink RX2 112 yX2_slotOf, .static yX2_slotOf, .initialized RX2, .code yX2_slotOf cX2_slotOf 4 (some .int), .methodLink RX2 133 yX2_textOf, .static yX2_textOf, .code yX2_textOf cX2_textOf 2 (some .int), .methodLink RX2 136 yX2_isFitting, .instanceMethod yX2_isFitting, .selects RX2 yX2_isFitting yX2_isFitting, .code yX2_isFitting cX2_isFitting 6 (some .boolean), .fieldLink RX2 199 "PhraseCatalogue$Form" "placeholders" "I", .fieldLink RX2 205 "PhraseCatalogue$Form" "mayLack" "Z", .methodLink RX2 202 yX2_sourcePlaceholders, .instanceMethod yX2_sourcePlaceholders, .selects RX2 yX2_sourcePlaceholders yX2_sourcePlaceholders, .code yX2_sourcePlaceholders cX2_sourcePlaceholders 6 (some .int)] ++ wsX20 ++ wsX00)
def wsX2_findInLanguage_r1 : List Cond := [Cond.methodLink RX2 124 yX2_classOf, Cond.instanceMethod yX2_classOf, Cond.selects RX2 yX2_classOf yX2_classOf, Cond.initialized RX2, Cond.code yX2_classOf cX2_classOf 3 (some .int), Cond.fieldLink RX2 13 "PhraseCatalogue" "onesLimits" "[I", Cond.fieldLink RX2 16 "PhraseCatalogue" "fewLimits" "[I", Cond.methodLink RX2 212 yX2_findInClass, Cond.instanceMethod yX2_findInClass, Cond.selects RX2 yX2_findInClass yX2_findInClass, Cond.code yX2_findInClass cX2_findInClass 7 (some .int), Cond.fieldLink RX2 34 "PhraseCatalogue" "formTable" "[LPhraseCatalogue$Form;", Cond.methodLink RX2 112 yX2_slotOf, Cond.static yX2_slotOf, Cond.code yX2_slotOf cX2_slotOf 4 (some .int), Cond.methodLink RX2 133 yX2_textOf, Cond.static yX2_textOf, Cond.code yX2_textOf cX2_textOf 2 (some .int), Cond.methodLink RX2 136 yX2_isFitting, Cond.instanceMethod yX2_isFitting, Cond.selects RX2 yX2_isFitting yX2_isFitting, Cond.code yX2_isFitting cX2_isFitting 6 (some .boolean), Cond.fieldLink RX2 199 "PhraseCatalogue$Form" "placeholders" "I", Cond.fieldLink RX2 205 "PhraseCatalogue$Form" "mayLack" "Z"]
def wsX2_findInLanguage_r2 : List Cond := [Cond.methodLink RX2 202 yX2_sourcePlaceholders, Cond.instanceMethod yX2_sourcePlaceholders, Cond.selects RX2 yX2_sourcePlaceholders yX2_sourcePlaceholders, Cond.code yX2_sourcePlaceholders cX2_sourcePlaceholders 6 (some .int)]
def wsX2_findInLanguage : List Cond := .code yX2_findInLanguage cX2_findInLanguage 6 (some .int) :: ((wsX2_findInLanguage_r1 ++ wsX2_findInLanguage_r2) ++ wsX20 ++ wsX00)
def wsX2_findAlongChain_r1 : List Cond := [Cond.fieldLink RX2 9 "PhraseCatalogue" "fallbacks" "[I", Cond.methodLink RX2 209 yX2_findInLanguage, Cond.instanceMethod yX2_findInLanguage, Cond.selects RX2 yX2_findInLanguage yX2_findInLanguage, Cond.initialized RX2, Cond.code yX2_findInLanguage cX2_findInLanguage 6 (some .int), Cond.methodLink RX2 124 yX2_classOf, Cond.instanceMethod yX2_classOf, Cond.selects RX2 yX2_classOf yX2_classOf, Cond.code yX2_classOf cX2_classOf 3 (some .int), Cond.fieldLink RX2 13 "PhraseCatalogue" "onesLimits" "[I", Cond.fieldLink RX2 16 "PhraseCatalogue" "fewLimits" "[I", Cond.methodLink RX2 212 yX2_findInClass, Cond.instanceMethod yX2_findInClass, Cond.selects RX2 yX2_findInClass yX2_findInClass, Cond.code yX2_findInClass cX2_findInClass 7 (some .int), Cond.fieldLink RX2 34 "PhraseCatalogue" "formTable" "[LPhraseCatalogue$Form;", Cond.methodLink RX2 112 yX2_slotOf, Cond.static yX2_slotOf, Cond.code yX2_slotOf cX2_slotOf 4 (some .int), Cond.methodLink RX2 133 yX2_textOf, Cond.static yX2_textOf, Cond.code yX2_textOf cX2_textOf 2 (some .int), Cond.methodLink RX2 136 yX2_isFitting]
def wsX2_findAlongChain_r2 : List Cond := [Cond.instanceMethod yX2_isFitting, Cond.selects RX2 yX2_isFitting yX2_isFitting, Cond.code yX2_isFitting cX2_isFitting 6 (some .boolean), Cond.fieldLink RX2 199 "PhraseCatalogue$Form" "placeholders" "I", Cond.fieldLink RX2 205 "PhraseCatalogue$Form" "mayLack" "Z", Cond.methodLink RX2 202 yX2_sourcePlaceholders, Cond.instanceMethod yX2_sourcePlaceholders, Cond.selects RX2 yX2_sourcePlaceholders yX2_sourcePlaceholders, Cond.code yX2_sourcePlaceholders cX2_sourcePlaceholders 6 (some .int)]
def wsX2_findAlongChain : List Cond := .code yX2_findAlongChain cX2_findAlongChain 8 (some .int) :: ((wsX2_findAlongChain_r1 ++ wsX2_findAlongChain_r2) ++ wsX20 ++ wsX00)
def wsX2_languageOfSlot : List Cond := .code yX2_languageOfSlot cX2_languageOfSlot 1 (some .int) :: ([])
def wsX2_toldBy_r1 : List Cond := [Cond.methodLink RX2 140 yX2_requireQuestion, Cond.static yX2_requireQuestion, Cond.initialized RX2, Cond.code yX2_requireQuestion cX2_requireQuestion 4 none, Cond.methodLink RX2 127 yX2_requireKey, Cond.static yX2_requireKey, Cond.code yX2_requireKey cX2_requireKey 1 none, Cond.classLink RX2 58 "java/lang/IndexOutOfBoundsException", Cond.initialized "java/lang/IndexOutOfBoundsException", Cond.methodLink RX2 54 yX2_requireLanguage, Cond.static yX2_requireLanguage, Cond.code yX2_requireLanguage cX2_requireLanguage 1 none, Cond.methodLink RX2 188 yX2_requireGender, Cond.static yX2_requireGender, Cond.code yX2_requireGender cX2_requireGender 1 none, Cond.methodLink RX2 121 yX2_requireNumber, Cond.static yX2_requireNumber, Cond.code yX2_requireNumber cX2_requireNumber 1 none, Cond.classLink RX2 69 "java/lang/IllegalArgumentException", Cond.initialized "java/lang/IllegalArgumentException", Cond.methodLink RX2 143 yX2_findAlongChain, Cond.instanceMethod yX2_findAlongChain, Cond.selects RX2 yX2_findAlongChain yX2_findAlongChain, Cond.code yX2_findAlongChain cX2_findAlongChain 8 (some .int)]
def wsX2_toldBy_r2 : List Cond := [Cond.fieldLink RX2 9 "PhraseCatalogue" "fallbacks" "[I", Cond.methodLink RX2 209 yX2_findInLanguage, Cond.instanceMethod yX2_findInLanguage, Cond.selects RX2 yX2_findInLanguage yX2_findInLanguage, Cond.code yX2_findInLanguage cX2_findInLanguage 6 (some .int), Cond.methodLink RX2 124 yX2_classOf, Cond.instanceMethod yX2_classOf, Cond.selects RX2 yX2_classOf yX2_classOf, Cond.code yX2_classOf cX2_classOf 3 (some .int), Cond.fieldLink RX2 13 "PhraseCatalogue" "onesLimits" "[I", Cond.fieldLink RX2 16 "PhraseCatalogue" "fewLimits" "[I", Cond.methodLink RX2 212 yX2_findInClass, Cond.instanceMethod yX2_findInClass, Cond.selects RX2 yX2_findInClass yX2_findInClass, Cond.code yX2_findInClass cX2_findInClass 7 (some .int), Cond.fieldLink RX2 34 "PhraseCatalogue" "formTable" "[LPhraseCatalogue$Form;", Cond.methodLink RX2 112 yX2_slotOf, Cond.static yX2_slotOf, Cond.code yX2_slotOf cX2_slotOf 4 (some .int), Cond.methodLink RX2 133 yX2_textOf, Cond.static yX2_textOf, Cond.code yX2_textOf cX2_textOf 2 (some .int), Cond.methodLink RX2 136 yX2_isFitting, Cond.instanceMethod yX2_isFitting]
def wsX2_toldBy_r3 : List Cond := [Cond.selects RX2 yX2_isFitting yX2_isFitting, Cond.code yX2_isFitting cX2_isFitting 6 (some .boolean), Cond.fieldLink RX2 199 "PhraseCatalogue$Form" "placeholders" "I", Cond.fieldLink RX2 205 "PhraseCatalogue$Form" "mayLack" "Z", Cond.methodLink RX2 202 yX2_sourcePlaceholders, Cond.instanceMethod yX2_sourcePlaceholders, Cond.selects RX2 yX2_sourcePlaceholders yX2_sourcePlaceholders, Cond.code yX2_sourcePlaceholders cX2_sourcePlaceholders 6 (some .int), Cond.methodLink RX2 146 yX2_languageOfSlot, Cond.static yX2_languageOfSlot, Cond.code yX2_languageOfSlot cX2_languageOfSlot 1 (some .int)]
def wsX2_toldBy : List Cond := .code yX2_toldBy cX2_toldBy 5 (some .int) :: ((wsX2_toldBy_r1 ++ (wsX2_toldBy_r2 ++ wsX2_toldBy_r3)) ++ wsX20 ++ wsX00 ++ (vx_atS RX2 62 "java/lang/IndexOutOfBoundsException" ["java/lang/RuntimeException", "java/lang/Exception"]).filter goodWord ++ (vx_atS RX2 73 "java/lang/IllegalArgumentException" ["java/lang/RuntimeException", "java/lang/Exception"]).filter goodWord)
def wsX2_tryOf : List Cond := .code yX2_tryOf cX2_tryOf 4 (some .int) :: ([])
def wsX2_turnOf : List Cond := .code yX2_turnOf cX2_turnOf 9 (some .int) :: ([.methodLink RX2 146 yX2_languageOfSlot, .static yX2_languageOfSlot, .initialized RX2, .code yX2_languageOfSlot cX2_languageOfSlot 1 (some .int), .methodLink RX2 65 yX2_chainPlace, .instanceMethod yX2_chainPlace, .selects RX2 yX2_chainPlace yX2_chainPlace, .code yX2_chainPlace cX2_chainPlace 5 (some .int), .fieldLink RX2 9 "PhraseCatalogue" "fallbacks" "[I", .methodLink RX2 124 yX2_classOf, .instanceMethod yX2_classOf, .selects RX2 yX2_classOf yX2_classOf, .code yX2_classOf cX2_classOf 3 (some .int), .fieldLink RX2 13 "PhraseCatalogue" "onesLimits" "[I", .fieldLink RX2 16 "PhraseCatalogue" "fewLimits" "[I", .methodLink RX2 218 yX2_tryOf, .static yX2_tryOf, .code yX2_tryOf cX2_tryOf 4 (some .int)] ++ wsX20)
def wsX2_findByLooking_r1 : List Cond := [Cond.fieldLink RX2 34 "PhraseCatalogue" "formTable" "[LPhraseCatalogue$Form;", Cond.methodLink RX2 112 yX2_slotOf, Cond.static yX2_slotOf, Cond.initialized RX2, Cond.code yX2_slotOf cX2_slotOf 4 (some .int), Cond.methodLink RX2 133 yX2_textOf, Cond.static yX2_textOf, Cond.code yX2_textOf cX2_textOf 2 (some .int), Cond.methodLink RX2 215 yX2_turnOf, Cond.instanceMethod yX2_turnOf, Cond.selects RX2 yX2_turnOf yX2_turnOf, Cond.code yX2_turnOf cX2_turnOf 9 (some .int), Cond.methodLink RX2 146 yX2_languageOfSlot, Cond.static yX2_languageOfSlot, Cond.code yX2_languageOfSlot cX2_languageOfSlot 1 (some .int), Cond.methodLink RX2 65 yX2_chainPlace, Cond.instanceMethod yX2_chainPlace, Cond.selects RX2 yX2_chainPlace yX2_chainPlace, Cond.code yX2_chainPlace cX2_chainPlace 5 (some .int), Cond.fieldLink RX2 9 "PhraseCatalogue" "fallbacks" "[I", Cond.methodLink RX2 124 yX2_classOf, Cond.instanceMethod yX2_classOf, Cond.selects RX2 yX2_classOf yX2_classOf, Cond.code yX2_classOf cX2_classOf 3 (some .int)]
def wsX2_findByLooking_r2 : List Cond := [Cond.fieldLink RX2 13 "PhraseCatalogue" "onesLimits" "[I", Cond.fieldLink RX2 16 "PhraseCatalogue" "fewLimits" "[I", Cond.methodLink RX2 218 yX2_tryOf, Cond.static yX2_tryOf, Cond.code yX2_tryOf cX2_tryOf 4 (some .int), Cond.methodLink RX2 136 yX2_isFitting, Cond.instanceMethod yX2_isFitting, Cond.selects RX2 yX2_isFitting yX2_isFitting, Cond.code yX2_isFitting cX2_isFitting 6 (some .boolean), Cond.fieldLink RX2 199 "PhraseCatalogue$Form" "placeholders" "I", Cond.fieldLink RX2 205 "PhraseCatalogue$Form" "mayLack" "Z", Cond.methodLink RX2 202 yX2_sourcePlaceholders, Cond.instanceMethod yX2_sourcePlaceholders, Cond.selects RX2 yX2_sourcePlaceholders yX2_sourcePlaceholders, Cond.code yX2_sourcePlaceholders cX2_sourcePlaceholders 6 (some .int)]
def wsX2_findByLooking : List Cond := .code yX2_findByLooking cX2_findByLooking 10 (some .int) :: ((wsX2_findByLooking_r1 ++ wsX2_findByLooking_r2) ++ wsX20 ++ wsX00)
def wsX2_toldByLooking_r1 : List Cond := [Cond.methodLink RX2 140 yX2_requireQuestion, Cond.static yX2_requireQuestion, Cond.initialized RX2, Cond.code yX2_requireQuestion cX2_requireQuestion 4 none, Cond.methodLink RX2 127 yX2_requireKey, Cond.static yX2_requireKey, Cond.code yX2_requireKey cX2_requireKey 1 none, Cond.classLink RX2 58 "java/lang/IndexOutOfBoundsException", Cond.initialized "java/lang/IndexOutOfBoundsException", Cond.methodLink RX2 54 yX2_requireLanguage, Cond.static yX2_requireLanguage, Cond.code yX2_requireLanguage cX2_requireLanguage 1 none, Cond.methodLink RX2 188 yX2_requireGender, Cond.static yX2_requireGender, Cond.code yX2_requireGender cX2_requireGender 1 none, Cond.methodLink RX2 121 yX2_requireNumber, Cond.static yX2_requireNumber, Cond.code yX2_requireNumber cX2_requireNumber 1 none, Cond.classLink RX2 69 "java/lang/IllegalArgumentException", Cond.initialized "java/lang/IllegalArgumentException", Cond.methodLink RX2 150 yX2_findByLooking, Cond.instanceMethod yX2_findByLooking, Cond.selects RX2 yX2_findByLooking yX2_findByLooking, Cond.code yX2_findByLooking cX2_findByLooking 10 (some .int)]
def wsX2_toldByLooking_r2 : List Cond := [Cond.fieldLink RX2 34 "PhraseCatalogue" "formTable" "[LPhraseCatalogue$Form;", Cond.methodLink RX2 112 yX2_slotOf, Cond.static yX2_slotOf, Cond.code yX2_slotOf cX2_slotOf 4 (some .int), Cond.methodLink RX2 133 yX2_textOf, Cond.static yX2_textOf, Cond.code yX2_textOf cX2_textOf 2 (some .int), Cond.methodLink RX2 215 yX2_turnOf, Cond.instanceMethod yX2_turnOf, Cond.selects RX2 yX2_turnOf yX2_turnOf, Cond.code yX2_turnOf cX2_turnOf 9 (some .int), Cond.methodLink RX2 146 yX2_languageOfSlot, Cond.static yX2_languageOfSlot, Cond.code yX2_languageOfSlot cX2_languageOfSlot 1 (some .int), Cond.methodLink RX2 65 yX2_chainPlace, Cond.instanceMethod yX2_chainPlace, Cond.selects RX2 yX2_chainPlace yX2_chainPlace, Cond.code yX2_chainPlace cX2_chainPlace 5 (some .int), Cond.fieldLink RX2 9 "PhraseCatalogue" "fallbacks" "[I", Cond.methodLink RX2 124 yX2_classOf, Cond.instanceMethod yX2_classOf, Cond.selects RX2 yX2_classOf yX2_classOf, Cond.code yX2_classOf cX2_classOf 3 (some .int), Cond.fieldLink RX2 13 "PhraseCatalogue" "onesLimits" "[I"]
def wsX2_toldByLooking_r3 : List Cond := [Cond.fieldLink RX2 16 "PhraseCatalogue" "fewLimits" "[I", Cond.methodLink RX2 218 yX2_tryOf, Cond.static yX2_tryOf, Cond.code yX2_tryOf cX2_tryOf 4 (some .int), Cond.methodLink RX2 136 yX2_isFitting, Cond.instanceMethod yX2_isFitting, Cond.selects RX2 yX2_isFitting yX2_isFitting, Cond.code yX2_isFitting cX2_isFitting 6 (some .boolean), Cond.fieldLink RX2 199 "PhraseCatalogue$Form" "placeholders" "I", Cond.fieldLink RX2 205 "PhraseCatalogue$Form" "mayLack" "Z", Cond.methodLink RX2 202 yX2_sourcePlaceholders, Cond.instanceMethod yX2_sourcePlaceholders, Cond.selects RX2 yX2_sourcePlaceholders yX2_sourcePlaceholders, Cond.code yX2_sourcePlaceholders cX2_sourcePlaceholders 6 (some .int)]
def wsX2_toldByLooking : List Cond := .code yX2_toldByLooking cX2_toldByLooking 5 (some .int) :: ((wsX2_toldByLooking_r1 ++ (wsX2_toldByLooking_r2 ++ wsX2_toldByLooking_r3)) ++ wsX20 ++ wsX00 ++ (vx_atS RX2 62 "java/lang/IndexOutOfBoundsException" ["java/lang/RuntimeException", "java/lang/Exception"]).filter goodWord ++ (vx_atS RX2 73 "java/lang/IllegalArgumentException" ["java/lang/RuntimeException", "java/lang/Exception"]).filter goodWord)
def wsX2_toldForm_r1 : List Cond := [Cond.methodLink RX2 140 yX2_requireQuestion, Cond.static yX2_requireQuestion, Cond.initialized RX2, Cond.code yX2_requireQuestion cX2_requireQuestion 4 none, Cond.methodLink RX2 127 yX2_requireKey, Cond.static yX2_requireKey, Cond.code yX2_requireKey cX2_requireKey 1 none, Cond.classLink RX2 58 "java/lang/IndexOutOfBoundsException", Cond.initialized "java/lang/IndexOutOfBoundsException", Cond.methodLink RX2 54 yX2_requireLanguage, Cond.static yX2_requireLanguage, Cond.code yX2_requireLanguage cX2_requireLanguage 1 none, Cond.methodLink RX2 188 yX2_requireGender, Cond.static yX2_requireGender, Cond.code yX2_requireGender cX2_requireGender 1 none, Cond.methodLink RX2 121 yX2_requireNumber, Cond.static yX2_requireNumber, Cond.code yX2_requireNumber cX2_requireNumber 1 none, Cond.classLink RX2 69 "java/lang/IllegalArgumentException", Cond.initialized "java/lang/IllegalArgumentException", Cond.methodLink RX2 143 yX2_findAlongChain, Cond.instanceMethod yX2_findAlongChain, Cond.selects RX2 yX2_findAlongChain yX2_findAlongChain, Cond.code yX2_findAlongChain cX2_findAlongChain 8 (some .int)]
def wsX2_toldForm_r2 : List Cond := [Cond.fieldLink RX2 9 "PhraseCatalogue" "fallbacks" "[I", Cond.methodLink RX2 209 yX2_findInLanguage, Cond.instanceMethod yX2_findInLanguage, Cond.selects RX2 yX2_findInLanguage yX2_findInLanguage, Cond.code yX2_findInLanguage cX2_findInLanguage 6 (some .int), Cond.methodLink RX2 124 yX2_classOf, Cond.instanceMethod yX2_classOf, Cond.selects RX2 yX2_classOf yX2_classOf, Cond.code yX2_classOf cX2_classOf 3 (some .int), Cond.fieldLink RX2 13 "PhraseCatalogue" "onesLimits" "[I", Cond.fieldLink RX2 16 "PhraseCatalogue" "fewLimits" "[I", Cond.methodLink RX2 212 yX2_findInClass, Cond.instanceMethod yX2_findInClass, Cond.selects RX2 yX2_findInClass yX2_findInClass, Cond.code yX2_findInClass cX2_findInClass 7 (some .int), Cond.fieldLink RX2 34 "PhraseCatalogue" "formTable" "[LPhraseCatalogue$Form;", Cond.methodLink RX2 112 yX2_slotOf, Cond.static yX2_slotOf, Cond.code yX2_slotOf cX2_slotOf 4 (some .int), Cond.methodLink RX2 133 yX2_textOf, Cond.static yX2_textOf, Cond.code yX2_textOf cX2_textOf 2 (some .int), Cond.methodLink RX2 136 yX2_isFitting, Cond.instanceMethod yX2_isFitting]
def wsX2_toldForm_r3 : List Cond := [Cond.selects RX2 yX2_isFitting yX2_isFitting, Cond.code yX2_isFitting cX2_isFitting 6 (some .boolean), Cond.fieldLink RX2 199 "PhraseCatalogue$Form" "placeholders" "I", Cond.fieldLink RX2 205 "PhraseCatalogue$Form" "mayLack" "Z", Cond.methodLink RX2 202 yX2_sourcePlaceholders, Cond.instanceMethod yX2_sourcePlaceholders, Cond.selects RX2 yX2_sourcePlaceholders yX2_sourcePlaceholders, Cond.code yX2_sourcePlaceholders cX2_sourcePlaceholders 6 (some .int)]
def wsX2_toldForm : List Cond := .code yX2_toldForm cX2_toldForm 6 (some .int) :: ((wsX2_toldForm_r1 ++ (wsX2_toldForm_r2 ++ wsX2_toldForm_r3)) ++ wsX20 ++ wsX00 ++ (vx_atS RX2 62 "java/lang/IndexOutOfBoundsException" ["java/lang/RuntimeException", "java/lang/Exception"]).filter goodWord ++ (vx_atS RX2 73 "java/lang/IllegalArgumentException" ["java/lang/RuntimeException", "java/lang/Exception"]).filter goodWord)
def wsX2_toldSign_r1 : List Cond := [Cond.classLink RX2 58 "java/lang/IndexOutOfBoundsException", Cond.initialized "java/lang/IndexOutOfBoundsException", Cond.fieldLink RX2 34 "PhraseCatalogue" "formTable" "[LPhraseCatalogue$Form;", Cond.fieldLink RX2 118 "PhraseCatalogue$Form" "signs" "[I", Cond.methodLink RX2 140 yX2_requireQuestion, Cond.static yX2_requireQuestion, Cond.initialized RX2, Cond.code yX2_requireQuestion cX2_requireQuestion 4 none, Cond.methodLink RX2 127 yX2_requireKey, Cond.static yX2_requireKey, Cond.code yX2_requireKey cX2_requireKey 1 none, Cond.methodLink RX2 54 yX2_requireLanguage, Cond.static yX2_requireLanguage, Cond.code yX2_requireLanguage cX2_requireLanguage 1 none, Cond.methodLink RX2 188 yX2_requireGender, Cond.static yX2_requireGender, Cond.code yX2_requireGender cX2_requireGender 1 none, Cond.methodLink RX2 121 yX2_requireNumber, Cond.static yX2_requireNumber, Cond.code yX2_requireNumber cX2_requireNumber 1 none, Cond.classLink RX2 69 "java/lang/IllegalArgumentException", Cond.initialized "java/lang/IllegalArgumentException", Cond.methodLink RX2 143 yX2_findAlongChain, Cond.instanceMethod yX2_findAlongChain]
def wsX2_toldSign_r2 : List Cond := [Cond.selects RX2 yX2_findAlongChain yX2_findAlongChain, Cond.code yX2_findAlongChain cX2_findAlongChain 8 (some .int), Cond.fieldLink RX2 9 "PhraseCatalogue" "fallbacks" "[I", Cond.methodLink RX2 209 yX2_findInLanguage, Cond.instanceMethod yX2_findInLanguage, Cond.selects RX2 yX2_findInLanguage yX2_findInLanguage, Cond.code yX2_findInLanguage cX2_findInLanguage 6 (some .int), Cond.methodLink RX2 124 yX2_classOf, Cond.instanceMethod yX2_classOf, Cond.selects RX2 yX2_classOf yX2_classOf, Cond.code yX2_classOf cX2_classOf 3 (some .int), Cond.fieldLink RX2 13 "PhraseCatalogue" "onesLimits" "[I", Cond.fieldLink RX2 16 "PhraseCatalogue" "fewLimits" "[I", Cond.methodLink RX2 212 yX2_findInClass, Cond.instanceMethod yX2_findInClass, Cond.selects RX2 yX2_findInClass yX2_findInClass, Cond.code yX2_findInClass cX2_findInClass 7 (some .int), Cond.methodLink RX2 112 yX2_slotOf, Cond.static yX2_slotOf, Cond.code yX2_slotOf cX2_slotOf 4 (some .int), Cond.methodLink RX2 133 yX2_textOf, Cond.static yX2_textOf, Cond.code yX2_textOf cX2_textOf 2 (some .int), Cond.methodLink RX2 136 yX2_isFitting]
def wsX2_toldSign_r3 : List Cond := [Cond.instanceMethod yX2_isFitting, Cond.selects RX2 yX2_isFitting yX2_isFitting, Cond.code yX2_isFitting cX2_isFitting 6 (some .boolean), Cond.fieldLink RX2 199 "PhraseCatalogue$Form" "placeholders" "I", Cond.fieldLink RX2 205 "PhraseCatalogue$Form" "mayLack" "Z", Cond.methodLink RX2 202 yX2_sourcePlaceholders, Cond.instanceMethod yX2_sourcePlaceholders, Cond.selects RX2 yX2_sourcePlaceholders yX2_sourcePlaceholders, Cond.code yX2_sourcePlaceholders cX2_sourcePlaceholders 6 (some .int)]
def wsX2_toldSign : List Cond := .code yX2_toldSign cX2_toldSign 8 (some .int) :: ((wsX2_toldSign_r1 ++ (wsX2_toldSign_r2 ++ wsX2_toldSign_r3)) ++ wsX20 ++ wsX00 ++ (vx_atS RX2 62 "java/lang/IndexOutOfBoundsException" ["java/lang/RuntimeException", "java/lang/Exception"]).filter goodWord ++ (vx_atS RX2 73 "java/lang/IllegalArgumentException" ["java/lang/RuntimeException", "java/lang/Exception"]).filter goodWord)
def wsX2_pairs : List Cond := .code yX2_pairs cX2_pairs 1 (some .int) :: ([.fieldLink RX2 47 "PhraseCatalogue" "past" "Ljava/util/ArrayList;", .methodLink RX2 157 yJx4a65c_size_8abf5, .instanceMethod yJx4a65c_size_8abf5, .selects RJx4a65c yJx4a65c_size_8abf5 yJx4a65c_size_8abf5, .initialized RJx4a65c, .code yJx4a65c_size_8abf5 cJx4a65c_size_8abf5 1 (some .int), .fieldLink RJx4a65c 48 "java/util/ArrayList" "size" "I"] ++ wsX20 ++ wsJx4a65c0)
def wsJx4a65c_elementData_915e3 : List Cond := .code yJx4a65c_elementData_915e3 cJx4a65c_elementData_915e3 2 (some (.object "java/lang/Object")) :: ([.fieldLink RJx4a65c 9 "java/util/ArrayList" "elementData" "[Ljava/lang/Object;"] ++ wsJx4a65c0)
def wsJx4a65c_get_915e3 : List Cond := .code yJx4a65c_get_915e3 cJx4a65c_get_915e3 2 (some (.object "java/lang/Object")) :: ([.fieldLink RJx4a65c 48 "java/util/ArrayList" "size" "I", .methodLink RJx4a65c 118 yJ15_checkIndex_7cf53, .static yJ15_checkIndex_7cf53, .initialized RJ15, .code yJ15_checkIndex_7cf53 cJ15_checkIndex_7cf53 2 (some .int), .methodLink RJ15 105 yJ3_checkIndex_8e157, .static yJ3_checkIndex_8e157, .initialized RJ3, .code yJ3_checkIndex_8e157 cJ3_checkIndex_8e157 3 (some .int), .methodLink RJx4a65c 123 yJx4a65c_elementData_915e3, .instanceMethod yJx4a65c_elementData_915e3, .selects RJx4a65c yJx4a65c_elementData_915e3 yJx4a65c_elementData_915e3, .initialized RJx4a65c, .code yJx4a65c_elementData_915e3 cJx4a65c_elementData_915e3 2 (some (.object "java/lang/Object")), .fieldLink RJx4a65c 9 "java/util/ArrayList" "elementData" "[Ljava/lang/Object;"] ++ wsJx4a65c0)
def wsX2_distance : List Cond := .code yX2_distance cX2_distance 7 (some .int) :: ([.fieldLink RX2 118 "PhraseCatalogue$Form" "signs" "[I", .fieldLink RX2 51 "PhraseCatalogue" "distanceRow" "[I", .methodLink RX2 242 Lib.Math.min.name, .static Lib.Math.min.name, .initialized "java/lang/Math", .code Lib.Math.min.name Lib.Math.min.code 2 (some .int)] ++ wsX00 ++ wsX20)
def wsX2_findNear_r1 : List Cond := [Cond.fieldLink RX2 118 "PhraseCatalogue$Form" "signs" "[I", Cond.fieldLink RX2 47 "PhraseCatalogue" "past" "Ljava/util/ArrayList;", Cond.classLink RX2 166 "PhraseCatalogue$Pair", Cond.fieldLink RX2 239 "PhraseCatalogue$Pair" "language" "I", Cond.fieldLink RX2 165 "PhraseCatalogue$Pair" "old" "LPhraseCatalogue$Form;", Cond.methodLink RX2 157 yJx4a65c_size_8abf5, Cond.instanceMethod yJx4a65c_size_8abf5, Cond.selects RJx4a65c yJx4a65c_size_8abf5 yJx4a65c_size_8abf5, Cond.initialized RJx4a65c, Cond.code yJx4a65c_size_8abf5 cJx4a65c_size_8abf5 1 (some .int), Cond.fieldLink RJx4a65c 48 "java/util/ArrayList" "size" "I", Cond.methodLink RX2 236 yJx4a65c_get_915e3, Cond.instanceMethod yJx4a65c_get_915e3, Cond.selects RJx4a65c yJx4a65c_get_915e3 yJx4a65c_get_915e3, Cond.code yJx4a65c_get_915e3 cJx4a65c_get_915e3 2 (some (.object "java/lang/Object")), Cond.methodLink RJx4a65c 118 yJ15_checkIndex_7cf53, Cond.static yJ15_checkIndex_7cf53, Cond.initialized RJ15, Cond.code yJ15_checkIndex_7cf53 cJ15_checkIndex_7cf53 2 (some .int), Cond.methodLink RJ15 105 yJ3_checkIndex_8e157, Cond.static yJ3_checkIndex_8e157, Cond.initialized RJ3, Cond.code yJ3_checkIndex_8e157 cJ3_checkIndex_8e157 3 (some .int), Cond.methodLink RJx4a65c 123 yJx4a65c_elementData_915e3]
def wsX2_findNear_r2 : List Cond := [Cond.instanceMethod yJx4a65c_elementData_915e3, Cond.selects RJx4a65c yJx4a65c_elementData_915e3 yJx4a65c_elementData_915e3, Cond.code yJx4a65c_elementData_915e3 cJx4a65c_elementData_915e3 2 (some (.object "java/lang/Object")), Cond.fieldLink RJx4a65c 9 "java/util/ArrayList" "elementData" "[Ljava/lang/Object;", Cond.methodLink RX2 171 yX2_distance, Cond.instanceMethod yX2_distance, Cond.selects RX2 yX2_distance yX2_distance, Cond.initialized RX2, Cond.code yX2_distance cX2_distance 7 (some .int), Cond.fieldLink RX2 51 "PhraseCatalogue" "distanceRow" "[I", Cond.methodLink RX2 242 Lib.Math.min.name, Cond.static Lib.Math.min.name, Cond.initialized "java/lang/Math", Cond.code Lib.Math.min.name Lib.Math.min.code 2 (some .int)]
def wsX2_findNear : List Cond := .code yX2_findNear cX2_findNear 8 (some (.object "PhraseCatalogue$Pair")) :: ((wsX2_findNear_r1 ++ wsX2_findNear_r2) ++ wsX00 ++ wsX20 ++ wsX10 ++ wsJx4a65c0)
def wsX2_nearDistance_r1 : List Cond := [Cond.fieldLink RX2 34 "PhraseCatalogue" "formTable" "[LPhraseCatalogue$Form;", Cond.fieldLink RX2 165 "PhraseCatalogue$Pair" "old" "LPhraseCatalogue$Form;", Cond.methodLink RX2 91 yX2_requireForm, Cond.static yX2_requireForm, Cond.initialized RX2, Cond.code yX2_requireForm cX2_requireForm 4 none, Cond.classLink RX2 58 "java/lang/IndexOutOfBoundsException", Cond.initialized "java/lang/IndexOutOfBoundsException", Cond.methodLink RX2 127 yX2_requireKey, Cond.static yX2_requireKey, Cond.code yX2_requireKey cX2_requireKey 1 none, Cond.methodLink RX2 54 yX2_requireLanguage, Cond.static yX2_requireLanguage, Cond.code yX2_requireLanguage cX2_requireLanguage 1 none, Cond.methodLink RX2 188 yX2_requireGender, Cond.static yX2_requireGender, Cond.code yX2_requireGender cX2_requireGender 1 none, Cond.methodLink RX2 112 yX2_slotOf, Cond.static yX2_slotOf, Cond.code yX2_slotOf cX2_slotOf 4 (some .int), Cond.methodLink RX2 133 yX2_textOf, Cond.static yX2_textOf, Cond.code yX2_textOf cX2_textOf 2 (some .int), Cond.methodLink RX2 161 yX2_findNear]
def wsX2_nearDistance_r2 : List Cond := [Cond.instanceMethod yX2_findNear, Cond.selects RX2 yX2_findNear yX2_findNear, Cond.code yX2_findNear cX2_findNear 8 (some (.object "PhraseCatalogue$Pair")), Cond.fieldLink RX2 118 "PhraseCatalogue$Form" "signs" "[I", Cond.fieldLink RX2 47 "PhraseCatalogue" "past" "Ljava/util/ArrayList;", Cond.classLink RX2 166 "PhraseCatalogue$Pair", Cond.fieldLink RX2 239 "PhraseCatalogue$Pair" "language" "I", Cond.methodLink RX2 157 yJx4a65c_size_8abf5, Cond.instanceMethod yJx4a65c_size_8abf5, Cond.selects RJx4a65c yJx4a65c_size_8abf5 yJx4a65c_size_8abf5, Cond.initialized RJx4a65c, Cond.code yJx4a65c_size_8abf5 cJx4a65c_size_8abf5 1 (some .int), Cond.fieldLink RJx4a65c 48 "java/util/ArrayList" "size" "I", Cond.methodLink RX2 236 yJx4a65c_get_915e3, Cond.instanceMethod yJx4a65c_get_915e3, Cond.selects RJx4a65c yJx4a65c_get_915e3 yJx4a65c_get_915e3, Cond.code yJx4a65c_get_915e3 cJx4a65c_get_915e3 2 (some (.object "java/lang/Object")), Cond.methodLink RJx4a65c 118 yJ15_checkIndex_7cf53, Cond.static yJ15_checkIndex_7cf53, Cond.initialized RJ15, Cond.code yJ15_checkIndex_7cf53 cJ15_checkIndex_7cf53 2 (some .int), Cond.methodLink RJ15 105 yJ3_checkIndex_8e157, Cond.static yJ3_checkIndex_8e157, Cond.initialized RJ3]
def wsX2_nearDistance_r3 : List Cond := [Cond.code yJ3_checkIndex_8e157 cJ3_checkIndex_8e157 3 (some .int), Cond.methodLink RJx4a65c 123 yJx4a65c_elementData_915e3, Cond.instanceMethod yJx4a65c_elementData_915e3, Cond.selects RJx4a65c yJx4a65c_elementData_915e3 yJx4a65c_elementData_915e3, Cond.code yJx4a65c_elementData_915e3 cJx4a65c_elementData_915e3 2 (some (.object "java/lang/Object")), Cond.fieldLink RJx4a65c 9 "java/util/ArrayList" "elementData" "[Ljava/lang/Object;", Cond.methodLink RX2 171 yX2_distance, Cond.instanceMethod yX2_distance, Cond.selects RX2 yX2_distance yX2_distance, Cond.code yX2_distance cX2_distance 7 (some .int), Cond.fieldLink RX2 51 "PhraseCatalogue" "distanceRow" "[I", Cond.methodLink RX2 242 Lib.Math.min.name, Cond.static Lib.Math.min.name, Cond.initialized "java/lang/Math", Cond.code Lib.Math.min.name Lib.Math.min.code 2 (some .int)]
def wsX2_nearDistance : List Cond := .code yX2_nearDistance cX2_nearDistance 7 (some .int) :: ((wsX2_nearDistance_r1 ++ (wsX2_nearDistance_r2 ++ wsX2_nearDistance_r3)) ++ wsX20 ++ wsX10 ++ wsX00 ++ wsJx4a65c0 ++ (vx_atS RX2 62 "java/lang/IndexOutOfBoundsException" ["java/lang/RuntimeException", "java/lang/Exception"]).filter goodWord)
def wsX2_nearSign_r1 : List Cond := [Cond.classLink RX2 58 "java/lang/IndexOutOfBoundsException", Cond.initialized "java/lang/IndexOutOfBoundsException", Cond.fieldLink RX2 34 "PhraseCatalogue" "formTable" "[LPhraseCatalogue$Form;", Cond.fieldLink RX2 177 "PhraseCatalogue$Pair" "translation" "LPhraseCatalogue$Form;", Cond.fieldLink RX2 118 "PhraseCatalogue$Form" "signs" "[I", Cond.methodLink RX2 91 yX2_requireForm, Cond.static yX2_requireForm, Cond.initialized RX2, Cond.code yX2_requireForm cX2_requireForm 4 none, Cond.methodLink RX2 127 yX2_requireKey, Cond.static yX2_requireKey, Cond.code yX2_requireKey cX2_requireKey 1 none, Cond.methodLink RX2 54 yX2_requireLanguage, Cond.static yX2_requireLanguage, Cond.code yX2_requireLanguage cX2_requireLanguage 1 none, Cond.methodLink RX2 188 yX2_requireGender, Cond.static yX2_requireGender, Cond.code yX2_requireGender cX2_requireGender 1 none, Cond.methodLink RX2 112 yX2_slotOf, Cond.static yX2_slotOf, Cond.code yX2_slotOf cX2_slotOf 4 (some .int), Cond.methodLink RX2 133 yX2_textOf, Cond.static yX2_textOf, Cond.code yX2_textOf cX2_textOf 2 (some .int)]
def wsX2_nearSign_r2 : List Cond := [Cond.methodLink RX2 161 yX2_findNear, Cond.instanceMethod yX2_findNear, Cond.selects RX2 yX2_findNear yX2_findNear, Cond.code yX2_findNear cX2_findNear 8 (some (.object "PhraseCatalogue$Pair")), Cond.fieldLink RX2 47 "PhraseCatalogue" "past" "Ljava/util/ArrayList;", Cond.classLink RX2 166 "PhraseCatalogue$Pair", Cond.fieldLink RX2 239 "PhraseCatalogue$Pair" "language" "I", Cond.fieldLink RX2 165 "PhraseCatalogue$Pair" "old" "LPhraseCatalogue$Form;", Cond.methodLink RX2 157 yJx4a65c_size_8abf5, Cond.instanceMethod yJx4a65c_size_8abf5, Cond.selects RJx4a65c yJx4a65c_size_8abf5 yJx4a65c_size_8abf5, Cond.initialized RJx4a65c, Cond.code yJx4a65c_size_8abf5 cJx4a65c_size_8abf5 1 (some .int), Cond.fieldLink RJx4a65c 48 "java/util/ArrayList" "size" "I", Cond.methodLink RX2 236 yJx4a65c_get_915e3, Cond.instanceMethod yJx4a65c_get_915e3, Cond.selects RJx4a65c yJx4a65c_get_915e3 yJx4a65c_get_915e3, Cond.code yJx4a65c_get_915e3 cJx4a65c_get_915e3 2 (some (.object "java/lang/Object")), Cond.methodLink RJx4a65c 118 yJ15_checkIndex_7cf53, Cond.static yJ15_checkIndex_7cf53, Cond.initialized RJ15, Cond.code yJ15_checkIndex_7cf53 cJ15_checkIndex_7cf53 2 (some .int), Cond.methodLink RJ15 105 yJ3_checkIndex_8e157, Cond.static yJ3_checkIndex_8e157]
def wsX2_nearSign_r3 : List Cond := [Cond.initialized RJ3, Cond.code yJ3_checkIndex_8e157 cJ3_checkIndex_8e157 3 (some .int), Cond.methodLink RJx4a65c 123 yJx4a65c_elementData_915e3, Cond.instanceMethod yJx4a65c_elementData_915e3, Cond.selects RJx4a65c yJx4a65c_elementData_915e3 yJx4a65c_elementData_915e3, Cond.code yJx4a65c_elementData_915e3 cJx4a65c_elementData_915e3 2 (some (.object "java/lang/Object")), Cond.fieldLink RJx4a65c 9 "java/util/ArrayList" "elementData" "[Ljava/lang/Object;", Cond.methodLink RX2 171 yX2_distance, Cond.instanceMethod yX2_distance, Cond.selects RX2 yX2_distance yX2_distance, Cond.code yX2_distance cX2_distance 7 (some .int), Cond.fieldLink RX2 51 "PhraseCatalogue" "distanceRow" "[I", Cond.methodLink RX2 242 Lib.Math.min.name, Cond.static Lib.Math.min.name, Cond.initialized "java/lang/Math", Cond.code Lib.Math.min.name Lib.Math.min.code 2 (some .int)]
def wsX2_nearSign : List Cond := .code yX2_nearSign cX2_nearSign 7 (some .int) :: ((wsX2_nearSign_r1 ++ (wsX2_nearSign_r2 ++ wsX2_nearSign_r3)) ++ wsX20 ++ wsX10 ++ wsX00 ++ wsJx4a65c0 ++ (vx_atS RX2 62 "java/lang/IndexOutOfBoundsException" ["java/lang/RuntimeException", "java/lang/Exception"]).filter goodWord)
def wsX3_init : List Cond := .code yX3_init cX3_init 2 none :: ([.methodLink RX3 1 objectInit, .instanceMethod objectInit, .code objectInit ⟨#[0xb1]⟩ 1 none, .arrayClass .int, .fieldLink RX3 7 "PhraseCatalogueModel" "fallbacks" "[I", .fieldLink RX3 13 "PhraseCatalogueModel" "ones" "[I", .fieldLink RX3 16 "PhraseCatalogueModel" "fews" "[I", .fieldLink RX3 19 "PhraseCatalogueModel" "drafted" "[I", .fieldLink RX3 22 "PhraseCatalogueModel" "lengths" "[I", .arrayClass .boolean, .fieldLink RX3 25 "PhraseCatalogueModel" "lax" "[Z", .fieldLink RX3 29 "PhraseCatalogueModel" "signs" "[I", .fieldLink RX3 32 "PhraseCatalogueModel" "versions" "[I", .fieldLink RX3 35 "PhraseCatalogueModel" "changedAt" "[I", .fieldLink RX3 38 "PhraseCatalogueModel" "pairLanguages" "[I", .fieldLink RX3 41 "PhraseCatalogueModel" "oldLengths" "[I", .fieldLink RX3 44 "PhraseCatalogueModel" "newLengths" "[I", .fieldLink RX3 47 "PhraseCatalogueModel" "olds" "[I", .fieldLink RX3 50 "PhraseCatalogueModel" "news" "[I", .fieldLink RX3 53 "PhraseCatalogueModel" "above" "[I", .fieldLink RX3 56 "PhraseCatalogueModel" "row" "[I"] ++ wsX30)
def wsX3_thrown : List Cond := .code yX3_thrown cX3_thrown 1 (some .int) :: ([.fieldLink RX3 59 "PhraseCatalogueModel" "last" "I"] ++ wsX30)
def wsX3_in : List Cond := .code yX3_in cX3_in 3 (some .boolean) :: ([])
def wsX3_goes : List Cond := .code yX3_goes cX3_goes 4 (some .boolean) :: ([.fieldLink RX3 59 "PhraseCatalogueModel" "last" "I"] ++ wsX30)
def wsX3_isKey : List Cond := .code yX3_isKey cX3_isKey 1 (some .boolean) :: ([.methodLink RX3 63 yX3_in, .static yX3_in, .initialized RX3, .code yX3_in cX3_in 3 (some .boolean)])
def wsX3_isLanguage : List Cond := .code yX3_isLanguage cX3_isLanguage 1 (some .boolean) :: ([.methodLink RX3 63 yX3_in, .static yX3_in, .initialized RX3, .code yX3_in cX3_in 3 (some .boolean)])
def wsX3_isThird : List Cond := .code yX3_isThird cX3_isThird 1 (some .boolean) :: ([.methodLink RX3 63 yX3_in, .static yX3_in, .initialized RX3, .code yX3_in cX3_in 3 (some .boolean)])
def wsX3_isForm : List Cond := .code yX3_isForm cX3_isForm 4 (some .boolean) :: ([.methodLink RX3 67 yX3_isKey, .static yX3_isKey, .initialized RX3, .code yX3_isKey cX3_isKey 1 (some .boolean), .methodLink RX3 63 yX3_in, .static yX3_in, .code yX3_in cX3_in 3 (some .boolean), .methodLink RX3 71 yX3_isLanguage, .static yX3_isLanguage, .code yX3_isLanguage cX3_isLanguage 1 (some .boolean), .methodLink RX3 74 yX3_isThird, .static yX3_isThird, .code yX3_isThird cX3_isThird 1 (some .boolean)])
def wsX3_at : List Cond := .code yX3_at cX3_at 4 (some .int) :: ([])
def wsX3_isInChain : List Cond := .code yX3_isInChain cX3_isInChain 4 (some .boolean) :: ([.fieldLink RX3 7 "PhraseCatalogueModel" "fallbacks" "[I"] ++ wsX30)
def wsX3_setFallback : List Cond := .code yX3_setFallback cX3_setFallback 5 (some .int) :: ([.fieldLink RX3 7 "PhraseCatalogueModel" "fallbacks" "[I", .methodLink RX3 63 yX3_in, .static yX3_in, .initialized RX3, .code yX3_in cX3_in 3 (some .boolean), .methodLink RX3 71 yX3_isLanguage, .static yX3_isLanguage, .code yX3_isLanguage cX3_isLanguage 1 (some .boolean), .methodLink RX3 77 yX3_isInChain, .instanceMethod yX3_isInChain, .selects RX3 yX3_isInChain yX3_isInChain, .code yX3_isInChain cX3_isInChain 4 (some .boolean), .methodLink RX3 81 yX3_goes, .instanceMethod yX3_goes, .selects RX3 yX3_goes yX3_goes, .code yX3_goes cX3_goes 4 (some .boolean), .fieldLink RX3 59 "PhraseCatalogueModel" "last" "I"] ++ wsX30)
def wsX3_setNumbers : List Cond := .code yX3_setNumbers cX3_setNumbers 4 none :: ([.fieldLink RX3 13 "PhraseCatalogueModel" "ones" "[I", .fieldLink RX3 16 "PhraseCatalogueModel" "fews" "[I", .methodLink RX3 71 yX3_isLanguage, .static yX3_isLanguage, .initialized RX3, .code yX3_isLanguage cX3_isLanguage 1 (some .boolean), .methodLink RX3 63 yX3_in, .static yX3_in, .code yX3_in cX3_in 3 (some .boolean), .methodLink RX3 81 yX3_goes, .instanceMethod yX3_goes, .selects RX3 yX3_goes yX3_goes, .code yX3_goes cX3_goes 4 (some .boolean), .fieldLink RX3 59 "PhraseCatalogueModel" "last" "I"] ++ wsX30)
def wsX3_sign : List Cond := .code yX3_sign cX3_sign 2 (some .int) :: ([.fieldLink RX3 85 "PhraseCatalogueModel" "draft" "I", .fieldLink RX3 19 "PhraseCatalogueModel" "drafted" "[I", .methodLink RX3 63 yX3_in, .static yX3_in, .initialized RX3, .code yX3_in cX3_in 3 (some .boolean), .methodLink RX3 81 yX3_goes, .instanceMethod yX3_goes, .selects RX3 yX3_goes yX3_goes, .code yX3_goes cX3_goes 4 (some .boolean), .fieldLink RX3 59 "PhraseCatalogueModel" "last" "I"] ++ wsX30)
def wsX3_forgets : List Cond := .code yX3_forgets cX3_forgets 2 none :: ([.fieldLink RX3 88 "PhraseCatalogueModel" "pairs" "I", .fieldLink RX3 38 "PhraseCatalogueModel" "pairLanguages" "[I", .fieldLink RX3 41 "PhraseCatalogueModel" "oldLengths" "[I", .fieldLink RX3 44 "PhraseCatalogueModel" "newLengths" "[I", .fieldLink RX3 47 "PhraseCatalogueModel" "olds" "[I", .fieldLink RX3 50 "PhraseCatalogueModel" "news" "[I"] ++ wsX30)
def wsX3_keeps : List Cond := .code yX3_keeps cX3_keeps 7 none :: ([.fieldLink RX3 22 "PhraseCatalogueModel" "lengths" "[I", .fieldLink RX3 88 "PhraseCatalogueModel" "pairs" "I", .fieldLink RX3 38 "PhraseCatalogueModel" "pairLanguages" "[I", .fieldLink RX3 41 "PhraseCatalogueModel" "oldLengths" "[I", .fieldLink RX3 44 "PhraseCatalogueModel" "newLengths" "[I", .fieldLink RX3 47 "PhraseCatalogueModel" "olds" "[I", .fieldLink RX3 29 "PhraseCatalogueModel" "signs" "[I", .fieldLink RX3 50 "PhraseCatalogueModel" "news" "[I", .methodLink RX3 91 yX3_forgets, .instanceMethod yX3_forgets, .selects RX3 yX3_forgets yX3_forgets, .initialized RX3, .code yX3_forgets cX3_forgets 2 none] ++ wsX30)
def wsX3_changes : List Cond := .code yX3_changes cX3_changes 4 none :: ([.fieldLink RX3 32 "PhraseCatalogueModel" "versions" "[I", .fieldLink RX3 35 "PhraseCatalogueModel" "changedAt" "[I", .methodLink RX3 94 yX3_keeps, .instanceMethod yX3_keeps, .selects RX3 yX3_keeps yX3_keeps, .initialized RX3, .code yX3_keeps cX3_keeps 7 none, .fieldLink RX3 22 "PhraseCatalogueModel" "lengths" "[I", .fieldLink RX3 88 "PhraseCatalogueModel" "pairs" "I", .fieldLink RX3 38 "PhraseCatalogueModel" "pairLanguages" "[I", .fieldLink RX3 41 "PhraseCatalogueModel" "oldLengths" "[I", .fieldLink RX3 44 "PhraseCatalogueModel" "newLengths" "[I", .fieldLink RX3 47 "PhraseCatalogueModel" "olds" "[I", .fieldLink RX3 29 "PhraseCatalogueModel" "signs" "[I", .fieldLink RX3 50 "PhraseCatalogueModel" "news" "[I", .methodLink RX3 91 yX3_forgets, .instanceMethod yX3_forgets, .selects RX3 yX3_forgets yX3_forgets, .code yX3_forgets cX3_forgets 2 none] ++ wsX30)
def wsX3_set_r1 : List Cond := [Cond.fieldLink RX3 85 "PhraseCatalogueModel" "draft" "I", Cond.fieldLink RX3 29 "PhraseCatalogueModel" "signs" "[I", Cond.fieldLink RX3 19 "PhraseCatalogueModel" "drafted" "[I", Cond.fieldLink RX3 22 "PhraseCatalogueModel" "lengths" "[I", Cond.fieldLink RX3 25 "PhraseCatalogueModel" "lax" "[Z", Cond.fieldLink RX3 32 "PhraseCatalogueModel" "versions" "[I", Cond.methodLink RX3 98 yX3_isForm, Cond.static yX3_isForm, Cond.initialized RX3, Cond.code yX3_isForm cX3_isForm 4 (some .boolean), Cond.methodLink RX3 67 yX3_isKey, Cond.static yX3_isKey, Cond.code yX3_isKey cX3_isKey 1 (some .boolean), Cond.methodLink RX3 63 yX3_in, Cond.static yX3_in, Cond.code yX3_in cX3_in 3 (some .boolean), Cond.methodLink RX3 71 yX3_isLanguage, Cond.static yX3_isLanguage, Cond.code yX3_isLanguage cX3_isLanguage 1 (some .boolean), Cond.methodLink RX3 74 yX3_isThird, Cond.static yX3_isThird, Cond.code yX3_isThird cX3_isThird 1 (some .boolean), Cond.methodLink RX3 81 yX3_goes, Cond.instanceMethod yX3_goes]
def wsX3_set_r2 : List Cond := [Cond.selects RX3 yX3_goes yX3_goes, Cond.code yX3_goes cX3_goes 4 (some .boolean), Cond.fieldLink RX3 59 "PhraseCatalogueModel" "last" "I", Cond.methodLink RX3 102 yX3_at, Cond.static yX3_at, Cond.code yX3_at cX3_at 4 (some .int), Cond.methodLink RX3 106 yX3_changes, Cond.instanceMethod yX3_changes, Cond.selects RX3 yX3_changes yX3_changes, Cond.code yX3_changes cX3_changes 4 none, Cond.fieldLink RX3 35 "PhraseCatalogueModel" "changedAt" "[I", Cond.methodLink RX3 94 yX3_keeps, Cond.instanceMethod yX3_keeps, Cond.selects RX3 yX3_keeps yX3_keeps, Cond.code yX3_keeps cX3_keeps 7 none, Cond.fieldLink RX3 88 "PhraseCatalogueModel" "pairs" "I", Cond.fieldLink RX3 38 "PhraseCatalogueModel" "pairLanguages" "[I", Cond.fieldLink RX3 41 "PhraseCatalogueModel" "oldLengths" "[I", Cond.fieldLink RX3 44 "PhraseCatalogueModel" "newLengths" "[I", Cond.fieldLink RX3 47 "PhraseCatalogueModel" "olds" "[I", Cond.fieldLink RX3 50 "PhraseCatalogueModel" "news" "[I", Cond.methodLink RX3 91 yX3_forgets, Cond.instanceMethod yX3_forgets, Cond.selects RX3 yX3_forgets yX3_forgets]
def wsX3_set_r3 : List Cond := [Cond.code yX3_forgets cX3_forgets 2 none]
def wsX3_set : List Cond := .code yX3_set cX3_set 8 (some .int) :: ((wsX3_set_r1 ++ (wsX3_set_r2 ++ wsX3_set_r3)) ++ wsX30)
def wsX3_remove_r1 : List Cond := [Cond.fieldLink RX3 22 "PhraseCatalogueModel" "lengths" "[I", Cond.methodLink RX3 98 yX3_isForm, Cond.static yX3_isForm, Cond.initialized RX3, Cond.code yX3_isForm cX3_isForm 4 (some .boolean), Cond.methodLink RX3 67 yX3_isKey, Cond.static yX3_isKey, Cond.code yX3_isKey cX3_isKey 1 (some .boolean), Cond.methodLink RX3 63 yX3_in, Cond.static yX3_in, Cond.code yX3_in cX3_in 3 (some .boolean), Cond.methodLink RX3 71 yX3_isLanguage, Cond.static yX3_isLanguage, Cond.code yX3_isLanguage cX3_isLanguage 1 (some .boolean), Cond.methodLink RX3 74 yX3_isThird, Cond.static yX3_isThird, Cond.code yX3_isThird cX3_isThird 1 (some .boolean), Cond.methodLink RX3 102 yX3_at, Cond.static yX3_at, Cond.code yX3_at cX3_at 4 (some .int), Cond.methodLink RX3 81 yX3_goes, Cond.instanceMethod yX3_goes, Cond.selects RX3 yX3_goes yX3_goes, Cond.code yX3_goes cX3_goes 4 (some .boolean)]
def wsX3_remove_r2 : List Cond := [Cond.fieldLink RX3 59 "PhraseCatalogueModel" "last" "I", Cond.methodLink RX3 106 yX3_changes, Cond.instanceMethod yX3_changes, Cond.selects RX3 yX3_changes yX3_changes, Cond.code yX3_changes cX3_changes 4 none, Cond.fieldLink RX3 32 "PhraseCatalogueModel" "versions" "[I", Cond.fieldLink RX3 35 "PhraseCatalogueModel" "changedAt" "[I", Cond.methodLink RX3 94 yX3_keeps, Cond.instanceMethod yX3_keeps, Cond.selects RX3 yX3_keeps yX3_keeps, Cond.code yX3_keeps cX3_keeps 7 none, Cond.fieldLink RX3 88 "PhraseCatalogueModel" "pairs" "I", Cond.fieldLink RX3 38 "PhraseCatalogueModel" "pairLanguages" "[I", Cond.fieldLink RX3 41 "PhraseCatalogueModel" "oldLengths" "[I", Cond.fieldLink RX3 44 "PhraseCatalogueModel" "newLengths" "[I", Cond.fieldLink RX3 47 "PhraseCatalogueModel" "olds" "[I", Cond.fieldLink RX3 29 "PhraseCatalogueModel" "signs" "[I", Cond.fieldLink RX3 50 "PhraseCatalogueModel" "news" "[I", Cond.methodLink RX3 91 yX3_forgets, Cond.instanceMethod yX3_forgets, Cond.selects RX3 yX3_forgets yX3_forgets, Cond.code yX3_forgets cX3_forgets 2 none]
def wsX3_remove : List Cond := .code yX3_remove cX3_remove 8 (some .int) :: ((wsX3_remove_r1 ++ wsX3_remove_r2) ++ wsX30)
def wsX3_draft : List Cond := .code yX3_draft cX3_draft 1 (some .int) :: ([.fieldLink RX3 59 "PhraseCatalogueModel" "last" "I", .fieldLink RX3 85 "PhraseCatalogueModel" "draft" "I"] ++ wsX30)
def wsX3_kind : List Cond := .code yX3_kind cX3_kind 3 (some .int) :: ([.fieldLink RX3 13 "PhraseCatalogueModel" "ones" "[I", .fieldLink RX3 16 "PhraseCatalogueModel" "fews" "[I"] ++ wsX30)
def wsX3_kindOf : List Cond := .code yX3_kindOf cX3_kindOf 3 (some .int) :: ([.methodLink RX3 71 yX3_isLanguage, .static yX3_isLanguage, .initialized RX3, .code yX3_isLanguage cX3_isLanguage 1 (some .boolean), .methodLink RX3 63 yX3_in, .static yX3_in, .code yX3_in cX3_in 3 (some .boolean), .methodLink RX3 81 yX3_goes, .instanceMethod yX3_goes, .selects RX3 yX3_goes yX3_goes, .code yX3_goes cX3_goes 4 (some .boolean), .fieldLink RX3 59 "PhraseCatalogueModel" "last" "I", .methodLink RX3 110 yX3_kind, .instanceMethod yX3_kind, .selects RX3 yX3_kind yX3_kind, .code yX3_kind cX3_kind 3 (some .int), .fieldLink RX3 13 "PhraseCatalogueModel" "ones" "[I", .fieldLink RX3 16 "PhraseCatalogueModel" "fews" "[I"] ++ wsX30)
def wsX3_count : List Cond := .code yX3_count cX3_count 5 (some .int) :: ([.fieldLink RX3 22 "PhraseCatalogueModel" "lengths" "[I"] ++ wsX30)
def wsX3_forms : List Cond := .code yX3_forms cX3_forms 3 (some .int) :: ([.methodLink RX3 67 yX3_isKey, .static yX3_isKey, .initialized RX3, .code yX3_isKey cX3_isKey 1 (some .boolean), .methodLink RX3 63 yX3_in, .static yX3_in, .code yX3_in cX3_in 3 (some .boolean), .methodLink RX3 71 yX3_isLanguage, .static yX3_isLanguage, .code yX3_isLanguage cX3_isLanguage 1 (some .boolean), .methodLink RX3 81 yX3_goes, .instanceMethod yX3_goes, .selects RX3 yX3_goes yX3_goes, .code yX3_goes cX3_goes 4 (some .boolean), .fieldLink RX3 59 "PhraseCatalogueModel" "last" "I", .methodLink RX3 114 yX3_count, .instanceMethod yX3_count, .selects RX3 yX3_count yX3_count, .code yX3_count cX3_count 5 (some .int), .fieldLink RX3 22 "PhraseCatalogueModel" "lengths" "[I"] ++ wsX30)
def wsX3_version : List Cond := .code yX3_version cX3_version 2 (some .int) :: ([.fieldLink RX3 32 "PhraseCatalogueModel" "versions" "[I", .methodLink RX3 67 yX3_isKey, .static yX3_isKey, .initialized RX3, .code yX3_isKey cX3_isKey 1 (some .boolean), .methodLink RX3 63 yX3_in, .static yX3_in, .code yX3_in cX3_in 3 (some .boolean), .methodLink RX3 81 yX3_goes, .instanceMethod yX3_goes, .selects RX3 yX3_goes yX3_goes, .code yX3_goes cX3_goes 4 (some .boolean), .fieldLink RX3 59 "PhraseCatalogueModel" "last" "I"] ++ wsX30)
def wsX3_staleBy : List Cond := .code yX3_staleBy cX3_staleBy 3 (some .int) :: ([.fieldLink RX3 32 "PhraseCatalogueModel" "versions" "[I", .fieldLink RX3 35 "PhraseCatalogueModel" "changedAt" "[I", .methodLink RX3 67 yX3_isKey, .static yX3_isKey, .initialized RX3, .code yX3_isKey cX3_isKey 1 (some .boolean), .methodLink RX3 63 yX3_in, .static yX3_in, .code yX3_in cX3_in 3 (some .boolean), .methodLink RX3 71 yX3_isLanguage, .static yX3_isLanguage, .code yX3_isLanguage cX3_isLanguage 1 (some .boolean), .methodLink RX3 81 yX3_goes, .instanceMethod yX3_goes, .selects RX3 yX3_goes yX3_goes, .code yX3_goes cX3_goes 4 (some .boolean), .fieldLink RX3 59 "PhraseCatalogueModel" "last" "I", .methodLink RX3 114 yX3_count, .instanceMethod yX3_count, .selects RX3 yX3_count yX3_count, .code yX3_count cX3_count 5 (some .int), .fieldLink RX3 22 "PhraseCatalogueModel" "lengths" "[I"] ++ wsX30)
def wsX3_missing : List Cond := .code yX3_missing cX3_missing 5 (some .int) :: ([.methodLink RX3 71 yX3_isLanguage, .static yX3_isLanguage, .initialized RX3, .code yX3_isLanguage cX3_isLanguage 1 (some .boolean), .methodLink RX3 63 yX3_in, .static yX3_in, .code yX3_in cX3_in 3 (some .boolean), .methodLink RX3 81 yX3_goes, .instanceMethod yX3_goes, .selects RX3 yX3_goes yX3_goes, .code yX3_goes cX3_goes 4 (some .boolean), .fieldLink RX3 59 "PhraseCatalogueModel" "last" "I", .methodLink RX3 114 yX3_count, .instanceMethod yX3_count, .selects RX3 yX3_count yX3_count, .code yX3_count cX3_count 5 (some .int), .fieldLink RX3 22 "PhraseCatalogueModel" "lengths" "[I"] ++ wsX30)
def wsX3_has : List Cond := .code yX3_has cX3_has 5 (some .boolean) :: ([.fieldLink RX3 22 "PhraseCatalogueModel" "lengths" "[I", .fieldLink RX3 29 "PhraseCatalogueModel" "signs" "[I"] ++ wsX30)
def wsX3_isFit : List Cond := .code yX3_isFit cX3_isFit 7 (some .boolean) :: ([.fieldLink RX3 22 "PhraseCatalogueModel" "lengths" "[I", .fieldLink RX3 25 "PhraseCatalogueModel" "lax" "[Z", .methodLink RX3 117 yX3_has, .instanceMethod yX3_has, .selects RX3 yX3_has yX3_has, .initialized RX3, .code yX3_has cX3_has 5 (some .boolean), .fieldLink RX3 29 "PhraseCatalogueModel" "signs" "[I"] ++ wsX30)
def wsX3_fits_r1 : List Cond := [Cond.methodLink RX3 98 yX3_isForm, Cond.static yX3_isForm, Cond.initialized RX3, Cond.code yX3_isForm cX3_isForm 4 (some .boolean), Cond.methodLink RX3 67 yX3_isKey, Cond.static yX3_isKey, Cond.code yX3_isKey cX3_isKey 1 (some .boolean), Cond.methodLink RX3 63 yX3_in, Cond.static yX3_in, Cond.code yX3_in cX3_in 3 (some .boolean), Cond.methodLink RX3 71 yX3_isLanguage, Cond.static yX3_isLanguage, Cond.code yX3_isLanguage cX3_isLanguage 1 (some .boolean), Cond.methodLink RX3 74 yX3_isThird, Cond.static yX3_isThird, Cond.code yX3_isThird cX3_isThird 1 (some .boolean), Cond.methodLink RX3 81 yX3_goes, Cond.instanceMethod yX3_goes, Cond.selects RX3 yX3_goes yX3_goes, Cond.code yX3_goes cX3_goes 4 (some .boolean), Cond.fieldLink RX3 59 "PhraseCatalogueModel" "last" "I", Cond.methodLink RX3 102 yX3_at, Cond.static yX3_at, Cond.code yX3_at cX3_at 4 (some .int)]
def wsX3_fits_r2 : List Cond := [Cond.methodLink RX3 120 yX3_isFit, Cond.instanceMethod yX3_isFit, Cond.selects RX3 yX3_isFit yX3_isFit, Cond.code yX3_isFit cX3_isFit 7 (some .boolean), Cond.fieldLink RX3 22 "PhraseCatalogueModel" "lengths" "[I", Cond.fieldLink RX3 25 "PhraseCatalogueModel" "lax" "[Z", Cond.methodLink RX3 117 yX3_has, Cond.instanceMethod yX3_has, Cond.selects RX3 yX3_has yX3_has, Cond.code yX3_has cX3_has 5 (some .boolean), Cond.fieldLink RX3 29 "PhraseCatalogueModel" "signs" "[I"]
def wsX3_fits : List Cond := .code yX3_fits cX3_fits 6 (some .boolean) :: ((wsX3_fits_r1 ++ wsX3_fits_r2) ++ wsX30)
def wsX3_tells : List Cond := .code yX3_tells cX3_tells 9 none :: ([.fieldLink RX3 123 "PhraseCatalogueModel" "toldAt" "I", .fieldLink RX3 126 "PhraseCatalogueModel" "toldIn" "I", .fieldLink RX3 7 "PhraseCatalogueModel" "fallbacks" "[I", .methodLink RX3 110 yX3_kind, .instanceMethod yX3_kind, .selects RX3 yX3_kind yX3_kind, .initialized RX3, .code yX3_kind cX3_kind 3 (some .int), .fieldLink RX3 13 "PhraseCatalogueModel" "ones" "[I", .fieldLink RX3 16 "PhraseCatalogueModel" "fews" "[I", .methodLink RX3 102 yX3_at, .static yX3_at, .code yX3_at cX3_at 4 (some .int), .methodLink RX3 120 yX3_isFit, .instanceMethod yX3_isFit, .selects RX3 yX3_isFit yX3_isFit, .code yX3_isFit cX3_isFit 7 (some .boolean), .fieldLink RX3 22 "PhraseCatalogueModel" "lengths" "[I", .fieldLink RX3 25 "PhraseCatalogueModel" "lax" "[Z", .methodLink RX3 117 yX3_has, .instanceMethod yX3_has, .selects RX3 yX3_has yX3_has, .code yX3_has cX3_has 5 (some .boolean), .fieldLink RX3 29 "PhraseCatalogueModel" "signs" "[I"] ++ wsX30)
def wsX3_isAsked_r1 : List Cond := [Cond.methodLink RX3 67 yX3_isKey, Cond.static yX3_isKey, Cond.initialized RX3, Cond.code yX3_isKey cX3_isKey 1 (some .boolean), Cond.methodLink RX3 63 yX3_in, Cond.static yX3_in, Cond.code yX3_in cX3_in 3 (some .boolean), Cond.methodLink RX3 71 yX3_isLanguage, Cond.static yX3_isLanguage, Cond.code yX3_isLanguage cX3_isLanguage 1 (some .boolean), Cond.methodLink RX3 74 yX3_isThird, Cond.static yX3_isThird, Cond.code yX3_isThird cX3_isThird 1 (some .boolean), Cond.methodLink RX3 81 yX3_goes, Cond.instanceMethod yX3_goes, Cond.selects RX3 yX3_goes yX3_goes, Cond.code yX3_goes cX3_goes 4 (some .boolean), Cond.fieldLink RX3 59 "PhraseCatalogueModel" "last" "I", Cond.methodLink RX3 129 yX3_tells, Cond.instanceMethod yX3_tells, Cond.selects RX3 yX3_tells yX3_tells, Cond.code yX3_tells cX3_tells 9 none, Cond.fieldLink RX3 123 "PhraseCatalogueModel" "toldAt" "I", Cond.fieldLink RX3 126 "PhraseCatalogueModel" "toldIn" "I"]
def wsX3_isAsked_r2 : List Cond := [Cond.fieldLink RX3 7 "PhraseCatalogueModel" "fallbacks" "[I", Cond.methodLink RX3 110 yX3_kind, Cond.instanceMethod yX3_kind, Cond.selects RX3 yX3_kind yX3_kind, Cond.code yX3_kind cX3_kind 3 (some .int), Cond.fieldLink RX3 13 "PhraseCatalogueModel" "ones" "[I", Cond.fieldLink RX3 16 "PhraseCatalogueModel" "fews" "[I", Cond.methodLink RX3 102 yX3_at, Cond.static yX3_at, Cond.code yX3_at cX3_at 4 (some .int), Cond.methodLink RX3 120 yX3_isFit, Cond.instanceMethod yX3_isFit, Cond.selects RX3 yX3_isFit yX3_isFit, Cond.code yX3_isFit cX3_isFit 7 (some .boolean), Cond.fieldLink RX3 22 "PhraseCatalogueModel" "lengths" "[I", Cond.fieldLink RX3 25 "PhraseCatalogueModel" "lax" "[Z", Cond.methodLink RX3 117 yX3_has, Cond.instanceMethod yX3_has, Cond.selects RX3 yX3_has yX3_has, Cond.code yX3_has cX3_has 5 (some .boolean), Cond.fieldLink RX3 29 "PhraseCatalogueModel" "signs" "[I"]
def wsX3_isAsked : List Cond := .code yX3_isAsked cX3_isAsked 6 (some .boolean) :: ((wsX3_isAsked_r1 ++ wsX3_isAsked_r2) ++ wsX30)
def wsX3_toldBy_r1 : List Cond := [Cond.fieldLink RX3 123 "PhraseCatalogueModel" "toldAt" "I", Cond.fieldLink RX3 126 "PhraseCatalogueModel" "toldIn" "I", Cond.methodLink RX3 133 yX3_isAsked, Cond.instanceMethod yX3_isAsked, Cond.selects RX3 yX3_isAsked yX3_isAsked, Cond.initialized RX3, Cond.code yX3_isAsked cX3_isAsked 6 (some .boolean), Cond.methodLink RX3 67 yX3_isKey, Cond.static yX3_isKey, Cond.code yX3_isKey cX3_isKey 1 (some .boolean), Cond.methodLink RX3 63 yX3_in, Cond.static yX3_in, Cond.code yX3_in cX3_in 3 (some .boolean), Cond.methodLink RX3 71 yX3_isLanguage, Cond.static yX3_isLanguage, Cond.code yX3_isLanguage cX3_isLanguage 1 (some .boolean), Cond.methodLink RX3 74 yX3_isThird, Cond.static yX3_isThird, Cond.code yX3_isThird cX3_isThird 1 (some .boolean), Cond.methodLink RX3 81 yX3_goes, Cond.instanceMethod yX3_goes, Cond.selects RX3 yX3_goes yX3_goes, Cond.code yX3_goes cX3_goes 4 (some .boolean), Cond.fieldLink RX3 59 "PhraseCatalogueModel" "last" "I"]
def wsX3_toldBy_r2 : List Cond := [Cond.methodLink RX3 129 yX3_tells, Cond.instanceMethod yX3_tells, Cond.selects RX3 yX3_tells yX3_tells, Cond.code yX3_tells cX3_tells 9 none, Cond.fieldLink RX3 7 "PhraseCatalogueModel" "fallbacks" "[I", Cond.methodLink RX3 110 yX3_kind, Cond.instanceMethod yX3_kind, Cond.selects RX3 yX3_kind yX3_kind, Cond.code yX3_kind cX3_kind 3 (some .int), Cond.fieldLink RX3 13 "PhraseCatalogueModel" "ones" "[I", Cond.fieldLink RX3 16 "PhraseCatalogueModel" "fews" "[I", Cond.methodLink RX3 102 yX3_at, Cond.static yX3_at, Cond.code yX3_at cX3_at 4 (some .int), Cond.methodLink RX3 120 yX3_isFit, Cond.instanceMethod yX3_isFit, Cond.selects RX3 yX3_isFit yX3_isFit, Cond.code yX3_isFit cX3_isFit 7 (some .boolean), Cond.fieldLink RX3 22 "PhraseCatalogueModel" "lengths" "[I", Cond.fieldLink RX3 25 "PhraseCatalogueModel" "lax" "[Z", Cond.methodLink RX3 117 yX3_has, Cond.instanceMethod yX3_has, Cond.selects RX3 yX3_has yX3_has, Cond.code yX3_has cX3_has 5 (some .boolean)]
def wsX3_toldBy_r3 : List Cond := [Cond.fieldLink RX3 29 "PhraseCatalogueModel" "signs" "[I"]
def wsX3_toldBy : List Cond := .code yX3_toldBy cX3_toldBy 5 (some .int) :: ((wsX3_toldBy_r1 ++ (wsX3_toldBy_r2 ++ wsX3_toldBy_r3)) ++ wsX30)
def wsX3_toldByLooking_r1 : List Cond := [Cond.methodLink RX3 136 yX3_toldBy, Cond.instanceMethod yX3_toldBy, Cond.selects RX3 yX3_toldBy yX3_toldBy, Cond.initialized RX3, Cond.code yX3_toldBy cX3_toldBy 5 (some .int), Cond.fieldLink RX3 123 "PhraseCatalogueModel" "toldAt" "I", Cond.fieldLink RX3 126 "PhraseCatalogueModel" "toldIn" "I", Cond.methodLink RX3 133 yX3_isAsked, Cond.instanceMethod yX3_isAsked, Cond.selects RX3 yX3_isAsked yX3_isAsked, Cond.code yX3_isAsked cX3_isAsked 6 (some .boolean), Cond.methodLink RX3 67 yX3_isKey, Cond.static yX3_isKey, Cond.code yX3_isKey cX3_isKey 1 (some .boolean), Cond.methodLink RX3 63 yX3_in, Cond.static yX3_in, Cond.code yX3_in cX3_in 3 (some .boolean), Cond.methodLink RX3 71 yX3_isLanguage, Cond.static yX3_isLanguage, Cond.code yX3_isLanguage cX3_isLanguage 1 (some .boolean), Cond.methodLink RX3 74 yX3_isThird, Cond.static yX3_isThird, Cond.code yX3_isThird cX3_isThird 1 (some .boolean), Cond.methodLink RX3 81 yX3_goes]
def wsX3_toldByLooking_r2 : List Cond := [Cond.instanceMethod yX3_goes, Cond.selects RX3 yX3_goes yX3_goes, Cond.code yX3_goes cX3_goes 4 (some .boolean), Cond.fieldLink RX3 59 "PhraseCatalogueModel" "last" "I", Cond.methodLink RX3 129 yX3_tells, Cond.instanceMethod yX3_tells, Cond.selects RX3 yX3_tells yX3_tells, Cond.code yX3_tells cX3_tells 9 none, Cond.fieldLink RX3 7 "PhraseCatalogueModel" "fallbacks" "[I", Cond.methodLink RX3 110 yX3_kind, Cond.instanceMethod yX3_kind, Cond.selects RX3 yX3_kind yX3_kind, Cond.code yX3_kind cX3_kind 3 (some .int), Cond.fieldLink RX3 13 "PhraseCatalogueModel" "ones" "[I", Cond.fieldLink RX3 16 "PhraseCatalogueModel" "fews" "[I", Cond.methodLink RX3 102 yX3_at, Cond.static yX3_at, Cond.code yX3_at cX3_at 4 (some .int), Cond.methodLink RX3 120 yX3_isFit, Cond.instanceMethod yX3_isFit, Cond.selects RX3 yX3_isFit yX3_isFit, Cond.code yX3_isFit cX3_isFit 7 (some .boolean), Cond.fieldLink RX3 22 "PhraseCatalogueModel" "lengths" "[I", Cond.fieldLink RX3 25 "PhraseCatalogueModel" "lax" "[Z"]
def wsX3_toldByLooking_r3 : List Cond := [Cond.methodLink RX3 117 yX3_has, Cond.instanceMethod yX3_has, Cond.selects RX3 yX3_has yX3_has, Cond.code yX3_has cX3_has 5 (some .boolean), Cond.fieldLink RX3 29 "PhraseCatalogueModel" "signs" "[I"]
def wsX3_toldByLooking : List Cond := .code yX3_toldByLooking cX3_toldByLooking 5 (some .int) :: ((wsX3_toldByLooking_r1 ++ (wsX3_toldByLooking_r2 ++ wsX3_toldByLooking_r3)) ++ wsX30)
def wsX3_toldForm_r1 : List Cond := [Cond.fieldLink RX3 123 "PhraseCatalogueModel" "toldAt" "I", Cond.methodLink RX3 133 yX3_isAsked, Cond.instanceMethod yX3_isAsked, Cond.selects RX3 yX3_isAsked yX3_isAsked, Cond.initialized RX3, Cond.code yX3_isAsked cX3_isAsked 6 (some .boolean), Cond.methodLink RX3 67 yX3_isKey, Cond.static yX3_isKey, Cond.code yX3_isKey cX3_isKey 1 (some .boolean), Cond.methodLink RX3 63 yX3_in, Cond.static yX3_in, Cond.code yX3_in cX3_in 3 (some .boolean), Cond.methodLink RX3 71 yX3_isLanguage, Cond.static yX3_isLanguage, Cond.code yX3_isLanguage cX3_isLanguage 1 (some .boolean), Cond.methodLink RX3 74 yX3_isThird, Cond.static yX3_isThird, Cond.code yX3_isThird cX3_isThird 1 (some .boolean), Cond.methodLink RX3 81 yX3_goes, Cond.instanceMethod yX3_goes, Cond.selects RX3 yX3_goes yX3_goes, Cond.code yX3_goes cX3_goes 4 (some .boolean), Cond.fieldLink RX3 59 "PhraseCatalogueModel" "last" "I", Cond.methodLink RX3 129 yX3_tells]
def wsX3_toldForm_r2 : List Cond := [Cond.instanceMethod yX3_tells, Cond.selects RX3 yX3_tells yX3_tells, Cond.code yX3_tells cX3_tells 9 none, Cond.fieldLink RX3 126 "PhraseCatalogueModel" "toldIn" "I", Cond.fieldLink RX3 7 "PhraseCatalogueModel" "fallbacks" "[I", Cond.methodLink RX3 110 yX3_kind, Cond.instanceMethod yX3_kind, Cond.selects RX3 yX3_kind yX3_kind, Cond.code yX3_kind cX3_kind 3 (some .int), Cond.fieldLink RX3 13 "PhraseCatalogueModel" "ones" "[I", Cond.fieldLink RX3 16 "PhraseCatalogueModel" "fews" "[I", Cond.methodLink RX3 102 yX3_at, Cond.static yX3_at, Cond.code yX3_at cX3_at 4 (some .int), Cond.methodLink RX3 120 yX3_isFit, Cond.instanceMethod yX3_isFit, Cond.selects RX3 yX3_isFit yX3_isFit, Cond.code yX3_isFit cX3_isFit 7 (some .boolean), Cond.fieldLink RX3 22 "PhraseCatalogueModel" "lengths" "[I", Cond.fieldLink RX3 25 "PhraseCatalogueModel" "lax" "[Z", Cond.methodLink RX3 117 yX3_has, Cond.instanceMethod yX3_has, Cond.selects RX3 yX3_has yX3_has, Cond.code yX3_has cX3_has 5 (some .boolean)]
def wsX3_toldForm_r3 : List Cond := [Cond.fieldLink RX3 29 "PhraseCatalogueModel" "signs" "[I"]
def wsX3_toldForm : List Cond := .code yX3_toldForm cX3_toldForm 5 (some .int) :: ((wsX3_toldForm_r1 ++ (wsX3_toldForm_r2 ++ wsX3_toldForm_r3)) ++ wsX30)
def wsX3_toldSign_r1 : List Cond := [Cond.fieldLink RX3 123 "PhraseCatalogueModel" "toldAt" "I", Cond.fieldLink RX3 22 "PhraseCatalogueModel" "lengths" "[I", Cond.fieldLink RX3 29 "PhraseCatalogueModel" "signs" "[I", Cond.methodLink RX3 133 yX3_isAsked, Cond.instanceMethod yX3_isAsked, Cond.selects RX3 yX3_isAsked yX3_isAsked, Cond.initialized RX3, Cond.code yX3_isAsked cX3_isAsked 6 (some .boolean), Cond.methodLink RX3 67 yX3_isKey, Cond.static yX3_isKey, Cond.code yX3_isKey cX3_isKey 1 (some .boolean), Cond.methodLink RX3 63 yX3_in, Cond.static yX3_in, Cond.code yX3_in cX3_in 3 (some .boolean), Cond.methodLink RX3 71 yX3_isLanguage, Cond.static yX3_isLanguage, Cond.code yX3_isLanguage cX3_isLanguage 1 (some .boolean), Cond.methodLink RX3 74 yX3_isThird, Cond.static yX3_isThird, Cond.code yX3_isThird cX3_isThird 1 (some .boolean), Cond.methodLink RX3 81 yX3_goes, Cond.instanceMethod yX3_goes, Cond.selects RX3 yX3_goes yX3_goes, Cond.code yX3_goes cX3_goes 4 (some .boolean)]
def wsX3_toldSign_r2 : List Cond := [Cond.fieldLink RX3 59 "PhraseCatalogueModel" "last" "I", Cond.methodLink RX3 129 yX3_tells, Cond.instanceMethod yX3_tells, Cond.selects RX3 yX3_tells yX3_tells, Cond.code yX3_tells cX3_tells 9 none, Cond.fieldLink RX3 126 "PhraseCatalogueModel" "toldIn" "I", Cond.fieldLink RX3 7 "PhraseCatalogueModel" "fallbacks" "[I", Cond.methodLink RX3 110 yX3_kind, Cond.instanceMethod yX3_kind, Cond.selects RX3 yX3_kind yX3_kind, Cond.code yX3_kind cX3_kind 3 (some .int), Cond.fieldLink RX3 13 "PhraseCatalogueModel" "ones" "[I", Cond.fieldLink RX3 16 "PhraseCatalogueModel" "fews" "[I", Cond.methodLink RX3 102 yX3_at, Cond.static yX3_at, Cond.code yX3_at cX3_at 4 (some .int), Cond.methodLink RX3 120 yX3_isFit, Cond.instanceMethod yX3_isFit, Cond.selects RX3 yX3_isFit yX3_isFit, Cond.code yX3_isFit cX3_isFit 7 (some .boolean), Cond.fieldLink RX3 25 "PhraseCatalogueModel" "lax" "[Z", Cond.methodLink RX3 117 yX3_has, Cond.instanceMethod yX3_has, Cond.selects RX3 yX3_has yX3_has]
def wsX3_toldSign_r3 : List Cond := [Cond.code yX3_has cX3_has 5 (some .boolean)]
def wsX3_toldSign : List Cond := .code yX3_toldSign cX3_toldSign 7 (some .int) :: ((wsX3_toldSign_r1 ++ (wsX3_toldSign_r2 ++ wsX3_toldSign_r3)) ++ wsX30)
def wsX3_pairs : List Cond := .code yX3_pairs cX3_pairs 1 (some .int) :: ([.fieldLink RX3 59 "PhraseCatalogueModel" "last" "I", .fieldLink RX3 88 "PhraseCatalogueModel" "pairs" "I"] ++ wsX30)
def wsX3_distance : List Cond := .code yX3_distance cX3_distance 6 (some .int) :: ([.fieldLink RX3 22 "PhraseCatalogueModel" "lengths" "[I", .fieldLink RX3 56 "PhraseCatalogueModel" "row" "[I", .fieldLink RX3 41 "PhraseCatalogueModel" "oldLengths" "[I", .fieldLink RX3 53 "PhraseCatalogueModel" "above" "[I", .fieldLink RX3 29 "PhraseCatalogueModel" "signs" "[I", .fieldLink RX3 47 "PhraseCatalogueModel" "olds" "[I"] ++ wsX30)
def wsX3_near : List Cond := .code yX3_near cX3_near 9 (some .int) :: ([.fieldLink RX3 88 "PhraseCatalogueModel" "pairs" "I", .fieldLink RX3 22 "PhraseCatalogueModel" "lengths" "[I", .fieldLink RX3 38 "PhraseCatalogueModel" "pairLanguages" "[I", .methodLink RX3 102 yX3_at, .static yX3_at, .initialized RX3, .code yX3_at cX3_at 4 (some .int), .methodLink RX3 139 yX3_distance, .instanceMethod yX3_distance, .selects RX3 yX3_distance yX3_distance, .code yX3_distance cX3_distance 6 (some .int), .fieldLink RX3 56 "PhraseCatalogueModel" "row" "[I", .fieldLink RX3 41 "PhraseCatalogueModel" "oldLengths" "[I", .fieldLink RX3 53 "PhraseCatalogueModel" "above" "[I", .fieldLink RX3 29 "PhraseCatalogueModel" "signs" "[I", .fieldLink RX3 47 "PhraseCatalogueModel" "olds" "[I"] ++ wsX30)
def wsX3_nearDistance_r1 : List Cond := [Cond.methodLink RX3 98 yX3_isForm, Cond.static yX3_isForm, Cond.initialized RX3, Cond.code yX3_isForm cX3_isForm 4 (some .boolean), Cond.methodLink RX3 67 yX3_isKey, Cond.static yX3_isKey, Cond.code yX3_isKey cX3_isKey 1 (some .boolean), Cond.methodLink RX3 63 yX3_in, Cond.static yX3_in, Cond.code yX3_in cX3_in 3 (some .boolean), Cond.methodLink RX3 71 yX3_isLanguage, Cond.static yX3_isLanguage, Cond.code yX3_isLanguage cX3_isLanguage 1 (some .boolean), Cond.methodLink RX3 74 yX3_isThird, Cond.static yX3_isThird, Cond.code yX3_isThird cX3_isThird 1 (some .boolean), Cond.methodLink RX3 81 yX3_goes, Cond.instanceMethod yX3_goes, Cond.selects RX3 yX3_goes yX3_goes, Cond.code yX3_goes cX3_goes 4 (some .boolean), Cond.fieldLink RX3 59 "PhraseCatalogueModel" "last" "I", Cond.methodLink RX3 142 yX3_near, Cond.instanceMethod yX3_near, Cond.selects RX3 yX3_near yX3_near]
def wsX3_nearDistance_r2 : List Cond := [Cond.code yX3_near cX3_near 9 (some .int), Cond.fieldLink RX3 88 "PhraseCatalogueModel" "pairs" "I", Cond.fieldLink RX3 22 "PhraseCatalogueModel" "lengths" "[I", Cond.fieldLink RX3 38 "PhraseCatalogueModel" "pairLanguages" "[I", Cond.methodLink RX3 102 yX3_at, Cond.static yX3_at, Cond.code yX3_at cX3_at 4 (some .int), Cond.methodLink RX3 139 yX3_distance, Cond.instanceMethod yX3_distance, Cond.selects RX3 yX3_distance yX3_distance, Cond.code yX3_distance cX3_distance 6 (some .int), Cond.fieldLink RX3 56 "PhraseCatalogueModel" "row" "[I", Cond.fieldLink RX3 41 "PhraseCatalogueModel" "oldLengths" "[I", Cond.fieldLink RX3 53 "PhraseCatalogueModel" "above" "[I", Cond.fieldLink RX3 29 "PhraseCatalogueModel" "signs" "[I", Cond.fieldLink RX3 47 "PhraseCatalogueModel" "olds" "[I"]
def wsX3_nearDistance : List Cond := .code yX3_nearDistance cX3_nearDistance 6 (some .int) :: ((wsX3_nearDistance_r1 ++ wsX3_nearDistance_r2) ++ wsX30)
def wsX3_nearSign_r1 : List Cond := [Cond.fieldLink RX3 44 "PhraseCatalogueModel" "newLengths" "[I", Cond.fieldLink RX3 50 "PhraseCatalogueModel" "news" "[I", Cond.methodLink RX3 98 yX3_isForm, Cond.static yX3_isForm, Cond.initialized RX3, Cond.code yX3_isForm cX3_isForm 4 (some .boolean), Cond.methodLink RX3 67 yX3_isKey, Cond.static yX3_isKey, Cond.code yX3_isKey cX3_isKey 1 (some .boolean), Cond.methodLink RX3 63 yX3_in, Cond.static yX3_in, Cond.code yX3_in cX3_in 3 (some .boolean), Cond.methodLink RX3 71 yX3_isLanguage, Cond.static yX3_isLanguage, Cond.code yX3_isLanguage cX3_isLanguage 1 (some .boolean), Cond.methodLink RX3 74 yX3_isThird, Cond.static yX3_isThird, Cond.code yX3_isThird cX3_isThird 1 (some .boolean), Cond.methodLink RX3 81 yX3_goes, Cond.instanceMethod yX3_goes, Cond.selects RX3 yX3_goes yX3_goes, Cond.code yX3_goes cX3_goes 4 (some .boolean), Cond.fieldLink RX3 59 "PhraseCatalogueModel" "last" "I", Cond.methodLink RX3 142 yX3_near]
def wsX3_nearSign_r2 : List Cond := [Cond.instanceMethod yX3_near, Cond.selects RX3 yX3_near yX3_near, Cond.code yX3_near cX3_near 9 (some .int), Cond.fieldLink RX3 88 "PhraseCatalogueModel" "pairs" "I", Cond.fieldLink RX3 22 "PhraseCatalogueModel" "lengths" "[I", Cond.fieldLink RX3 38 "PhraseCatalogueModel" "pairLanguages" "[I", Cond.methodLink RX3 102 yX3_at, Cond.static yX3_at, Cond.code yX3_at cX3_at 4 (some .int), Cond.methodLink RX3 139 yX3_distance, Cond.instanceMethod yX3_distance, Cond.selects RX3 yX3_distance yX3_distance, Cond.code yX3_distance cX3_distance 6 (some .int), Cond.fieldLink RX3 56 "PhraseCatalogueModel" "row" "[I", Cond.fieldLink RX3 41 "PhraseCatalogueModel" "oldLengths" "[I", Cond.fieldLink RX3 53 "PhraseCatalogueModel" "above" "[I", Cond.fieldLink RX3 29 "PhraseCatalogueModel" "signs" "[I", Cond.fieldLink RX3 47 "PhraseCatalogueModel" "olds" "[I"]
def wsX3_nearSign : List Cond := .code yX3_nearSign cX3_nearSign 7 (some .int) :: ((wsX3_nearSign_r1 ++ wsX3_nearSign_r2) ++ wsX30)
def wsJ9_max_7cf53 : List Cond := .code yJ9_max_7cf53 cJ9_max_7cf53 2 (some .int) :: ([])
def wsJ9_min_7cf53 : List Cond := .code yJ9_min_7cf53 cJ9_min_7cf53 2 (some .int) :: ([])
def wsL_setFallback : List Cond := .codeWith yL_setFallback cL_setFallback 5 (some .int) [(0, 10, 13, 13), (0, 10, 17, 15)] :: ([.classLink RL 13 "java/lang/IndexOutOfBoundsException", .classLink RL 15 "java/lang/IllegalArgumentException", .methodLink RL 7 yX2_setFallback, .instanceMethod yX2_setFallback, .selects RX2 yX2_setFallback yX2_setFallback, .initialized RX2, .code yX2_setFallback cX2_setFallback 4 (some .int), .classLink RX2 58 "java/lang/IndexOutOfBoundsException", .initialized "java/lang/IndexOutOfBoundsException", .classLink RX2 69 "java/lang/IllegalArgumentException", .initialized "java/lang/IllegalArgumentException", .fieldLink RX2 9 "PhraseCatalogue" "fallbacks" "[I", .methodLink RX2 54 yX2_requireLanguage, .static yX2_requireLanguage, .code yX2_requireLanguage cX2_requireLanguage 1 none, .methodLink RX2 65 yX2_chainPlace, .instanceMethod yX2_chainPlace, .selects RX2 yX2_chainPlace yX2_chainPlace, .code yX2_chainPlace cX2_chainPlace 5 (some .int)] ++ wsX20 ++ (vx_atS RX2 62 "java/lang/IndexOutOfBoundsException" ["java/lang/RuntimeException", "java/lang/Exception"]).filter goodWord ++ (vx_atS RX2 73 "java/lang/IllegalArgumentException" ["java/lang/RuntimeException", "java/lang/Exception"]).filter goodWord)
def wsL_setNumbers : List Cond := .codeWith yL_setNumbers cL_setNumbers 5 (some .int) [(0, 7, 10, 13), (0, 7, 14, 15)] :: ([.classLink RL 13 "java/lang/IndexOutOfBoundsException", .classLink RL 15 "java/lang/IllegalArgumentException", .methodLink RL 17 yX2_setNumbers, .instanceMethod yX2_setNumbers, .selects RX2 yX2_setNumbers yX2_setNumbers, .initialized RX2, .code yX2_setNumbers cX2_setNumbers 4 none, .fieldLink RX2 13 "PhraseCatalogue" "onesLimits" "[I", .fieldLink RX2 16 "PhraseCatalogue" "fewLimits" "[I", .methodLink RX2 54 yX2_requireLanguage, .static yX2_requireLanguage, .code yX2_requireLanguage cX2_requireLanguage 1 none, .classLink RX2 58 "java/lang/IndexOutOfBoundsException", .initialized "java/lang/IndexOutOfBoundsException", .methodLink RX2 74 yX2_requireNumberLimit, .static yX2_requireNumberLimit, .code yX2_requireNumberLimit cX2_requireNumberLimit 1 none, .classLink RX2 69 "java/lang/IllegalArgumentException", .initialized "java/lang/IllegalArgumentException"] ++ wsX20 ++ (vx_atS RX2 62 "java/lang/IndexOutOfBoundsException" ["java/lang/RuntimeException", "java/lang/Exception"]).filter goodWord ++ (vx_atS RX2 73 "java/lang/IllegalArgumentException" ["java/lang/RuntimeException", "java/lang/Exception"]).filter goodWord)
def wsL_sign : List Cond := .codeWith yL_sign cL_sign 4 (some .int) [(0, 9, 12, 15), (0, 9, 15, 25)] :: ([.classLink RL 15 "java/lang/IllegalArgumentException", .classLink RL 25 "java/lang/IllegalStateException", .methodLink RL 21 yX2_sign, .instanceMethod yX2_sign, .selects RX2 yX2_sign yX2_sign, .initialized RX2, .code yX2_sign cX2_sign 2 (some .int), .classLink RX2 69 "java/lang/IllegalArgumentException", .initialized "java/lang/IllegalArgumentException", .classLink RX2 86 "java/lang/IllegalStateException", .initialized "java/lang/IllegalStateException", .fieldLink RX2 28 "PhraseCatalogue" "draftLength" "I", .fieldLink RX2 25 "PhraseCatalogue" "draftSigns" "[I", .methodLink RX2 77 yX2_isWord, .static yX2_isWord, .code yX2_isWord cX2_isWord 1 (some .boolean), .methodLink RX2 81 yX2_isPlaceholder, .static yX2_isPlaceholder, .code yX2_isPlaceholder cX2_isPlaceholder 1 (some .boolean)] ++ wsX20 ++ (vx_atS RX2 73 "java/lang/IllegalArgumentException" ["java/lang/RuntimeException", "java/lang/Exception"]).filter goodWord ++ (vx_atS RX2 90 "java/lang/IllegalStateException" ["java/lang/RuntimeException", "java/lang/Exception"]).filter goodWord)
def wsL_set_r1 : List Cond := [Cond.classLink RL 13 "java/lang/IndexOutOfBoundsException", Cond.classLink RL 25 "java/lang/IllegalStateException", Cond.methodLink RL 27 yX2_set, Cond.instanceMethod yX2_set, Cond.selects RX2 yX2_set yX2_set, Cond.initialized RX2, Cond.code yX2_set cX2_set 7 (some .int), Cond.classLink RX2 86 "java/lang/IllegalStateException", Cond.initialized "java/lang/IllegalStateException", Cond.fieldLink RX2 28 "PhraseCatalogue" "draftLength" "I", Cond.fieldLink RX2 25 "PhraseCatalogue" "draftSigns" "[I", Cond.classLink RX2 32 RX0, Cond.instantiable RX0 3, Cond.initialized RX0, Cond.fieldLink RX2 38 "PhraseCatalogue" "sourceVersions" "[I", Cond.methodLink RX2 91 yX2_requireForm, Cond.static yX2_requireForm, Cond.code yX2_requireForm cX2_requireForm 4 none, Cond.classLink RX2 58 "java/lang/IndexOutOfBoundsException", Cond.initialized "java/lang/IndexOutOfBoundsException", Cond.methodLink RX2 127 yX2_requireKey, Cond.static yX2_requireKey, Cond.code yX2_requireKey cX2_requireKey 1 none, Cond.methodLink RX2 54 yX2_requireLanguage]
def wsL_set_r2 : List Cond := [Cond.static yX2_requireLanguage, Cond.code yX2_requireLanguage cX2_requireLanguage 1 none, Cond.methodLink RX2 188 yX2_requireGender, Cond.static yX2_requireGender, Cond.code yX2_requireGender cX2_requireGender 1 none, Cond.methodLink RX2 97 yJ7_copyOf_59c91, Cond.static yJ7_copyOf_59c91, Cond.initialized RJ7, Cond.code yJ7_copyOf_59c91 cJ7_copyOf_59c91 3 (some (.array .int)), Cond.methodLink RJ7 316 ⟨"[I", "clone", "()Ljava/lang/Object;"⟩, Cond.sameMethod "[I" "java/lang/Object" "clone" "()Ljava/lang/Object;", Cond.native ⟨"java/lang/Object", "clone", "()Ljava/lang/Object;"⟩, Cond.instanceMethod ⟨"java/lang/Object", "clone", "()Ljava/lang/Object;"⟩, Cond.selects "[I" ⟨"[I", "clone", "()Ljava/lang/Object;"⟩ ⟨"java/lang/Object", "clone", "()Ljava/lang/Object;"⟩, Cond.classLink RJ7 317 "[I", Cond.arrayClass .int, Cond.methodLink RJ7 304 Lib.Math.min.name, Cond.static Lib.Math.min.name, Cond.initialized "java/lang/Math", Cond.code Lib.Math.min.name Lib.Math.min.code 2 (some .int), Cond.methodLink RJ7 150 arraycopyName, Cond.native arraycopyName, Cond.static arraycopyName, Cond.initialized "java/lang/System"]
def wsL_set_r3 : List Cond := [Cond.methodLink RX2 101 yX2_placeholdersOf, Cond.static yX2_placeholdersOf, Cond.code yX2_placeholdersOf cX2_placeholdersOf 3 (some .int), Cond.methodLink RX2 81 yX2_isPlaceholder, Cond.static yX2_isPlaceholder, Cond.code yX2_isPlaceholder cX2_isPlaceholder 1 (some .boolean), Cond.methodLink RX2 105 yX0_init, Cond.instanceMethod yX0_init, Cond.code yX0_init cX0_init 4 none, Cond.methodLink RX0 1 objectInit, Cond.instanceMethod objectInit, Cond.code objectInit ⟨#[0xb1]⟩ 1 none, Cond.fieldLink RX0 7 "PhraseCatalogue$Form" "signs" "[I", Cond.fieldLink RX0 13 "PhraseCatalogue$Form" "mayLack" "Z", Cond.fieldLink RX0 17 "PhraseCatalogue$Form" "placeholders" "I", Cond.methodLink RX2 108 yX2_change, Cond.instanceMethod yX2_change, Cond.selects RX2 yX2_change yX2_change, Cond.code yX2_change cX2_change 7 none, Cond.fieldLink RX2 34 "PhraseCatalogue" "formTable" "[LPhraseCatalogue$Form;", Cond.fieldLink RX2 41 "PhraseCatalogue" "seenVersions" "[I", Cond.methodLink RX2 112 yX2_slotOf, Cond.static yX2_slotOf, Cond.code yX2_slotOf cX2_slotOf 4 (some .int)]
def wsL_set_r4 : List Cond := [Cond.methodLink RX2 133 yX2_textOf, Cond.static yX2_textOf, Cond.code yX2_textOf cX2_textOf 2 (some .int), Cond.methodLink RX2 195 yX2_keepPairs, Cond.instanceMethod yX2_keepPairs, Cond.selects RX2 yX2_keepPairs yX2_keepPairs, Cond.code yX2_keepPairs cX2_keepPairs 7 none, Cond.classLink RX2 166 RX1, Cond.instantiable RX1 3, Cond.initialized RX1, Cond.methodLink RX2 221 yX1_init, Cond.instanceMethod yX1_init, Cond.code yX1_init cX1_init 4 none, Cond.methodLink RX1 1 objectInit, Cond.fieldLink RX1 7 "PhraseCatalogue$Pair" "language" "I", Cond.fieldLink RX1 13 "PhraseCatalogue$Pair" "old" "LPhraseCatalogue$Form;", Cond.fieldLink RX1 17 "PhraseCatalogue$Pair" "translation" "LPhraseCatalogue$Form;", Cond.methodLink RX2 224 yX2_keepPair, Cond.instanceMethod yX2_keepPair, Cond.selects RX2 yX2_keepPair yX2_keepPair, Cond.code yX2_keepPair cX2_keepPair 2 none, Cond.fieldLink RX2 47 "PhraseCatalogue" "past" "Ljava/util/ArrayList;", Cond.methodLink RX2 157 yJx4a65c_size_8abf5, Cond.instanceMethod yJx4a65c_size_8abf5]
def wsL_set_r5 : List Cond := [Cond.selects RJx4a65c yJx4a65c_size_8abf5 yJx4a65c_size_8abf5, Cond.initialized RJx4a65c, Cond.code yJx4a65c_size_8abf5 cJx4a65c_size_8abf5 1 (some .int), Cond.fieldLink RJx4a65c 48 "java/util/ArrayList" "size" "I", Cond.methodLink RX2 228 yJx4a65c_remove_915e3, Cond.instanceMethod yJx4a65c_remove_915e3, Cond.selects RJx4a65c yJx4a65c_remove_915e3 yJx4a65c_remove_915e3, Cond.code yJx4a65c_remove_915e3 cJx4a65c_remove_915e3 4 (some (.object "java/lang/Object")), Cond.fieldLink RJx4a65c 9 "java/util/ArrayList" "elementData" "[Ljava/lang/Object;", Cond.methodLink RJx4a65c 118 yJ15_checkIndex_7cf53, Cond.static yJ15_checkIndex_7cf53, Cond.initialized RJ15, Cond.code yJ15_checkIndex_7cf53 cJ15_checkIndex_7cf53 2 (some .int), Cond.methodLink RJ15 105 yJ3_checkIndex_8e157, Cond.static yJ3_checkIndex_8e157, Cond.initialized RJ3, Cond.code yJ3_checkIndex_8e157 cJ3_checkIndex_8e157 3 (some .int), Cond.methodLink RJx4a65c 144 yJx4a65c_fastRemove_b59b0, Cond.instanceMethod yJx4a65c_fastRemove_b59b0, Cond.selects RJx4a65c yJx4a65c_fastRemove_b59b0 yJx4a65c_fastRemove_b59b0, Cond.code yJx4a65c_fastRemove_b59b0 cJx4a65c_fastRemove_b59b0 4 none, Cond.fieldLink RJx4a65c 63 "java/util/ArrayList" "modCount" "I", Cond.sameField "java/util/ArrayList" "java/util/AbstractList" "modCount" "I", Cond.methodLink RJx4a65c 112 arraycopyName]
def wsL_set_r6 : List Cond := [Cond.methodLink RX2 232 yJx4a65c_add_9ea2d, Cond.instanceMethod yJx4a65c_add_9ea2d, Cond.selects RJx4a65c yJx4a65c_add_9ea2d yJx4a65c_add_9ea2d, Cond.code yJx4a65c_add_9ea2d cJx4a65c_add_9ea2d 2 (some .boolean), Cond.methodLink RJx4a65c 131 yJx4a65c_add_72be8, Cond.instanceMethod yJx4a65c_add_72be8, Cond.selects RJx4a65c yJx4a65c_add_72be8 yJx4a65c_add_72be8, Cond.code yJx4a65c_add_72be8 cJx4a65c_add_72be8 4 none, Cond.methodLink RJx4a65c 129 yJx4a65c_grow_d5877, Cond.instanceMethod yJx4a65c_grow_d5877, Cond.selects RJx4a65c yJx4a65c_grow_d5877 yJx4a65c_grow_d5877, Cond.code yJx4a65c_grow_d5877 cJx4a65c_grow_d5877 1 (some (.array (.object "java/lang/Object"))), Cond.methodLink RJx4a65c 69 yJx4a65c_grow_92f84, Cond.instanceMethod yJx4a65c_grow_92f84, Cond.selects RJx4a65c yJx4a65c_grow_92f84 yJx4a65c_grow_92f84, Cond.code yJx4a65c_grow_92f84 cJx4a65c_grow_92f84 4 (some (.array (.object "java/lang/Object"))), Cond.fieldLink RJx4a65c 39 "java/util/ArrayList" "DEFAULTCAPACITY_EMPTY_ELEMENTDATA" "[Ljava/lang/Object;", Cond.methodLink RJx4a65c 79 Lib.Math.max.name, Cond.static Lib.Math.max.name, Cond.code Lib.Math.max.name Lib.Math.max.code 2 (some .int), Cond.classLink RJx4a65c 7 "java/lang/Object", Cond.methodLink RJx4a65c 73 yJ8_newLength_cabcc, Cond.static yJ8_newLength_cabcc, Cond.initialized RJ8]
def wsL_set_r7 : List Cond := [Cond.code yJ8_newLength_cabcc cJ8_newLength_cabcc 4 (some .int), Cond.methodLink RJ8 194 Lib.Math.max.name, Cond.constant RJ8 200 (2147483639), Cond.methodLink RJ8 201 yJ8_hugeLength_7cf53, Cond.static yJ8_hugeLength_7cf53, Cond.code yJ8_hugeLength_7cf53 cJ8_hugeLength_7cf53 3 (some .int), Cond.methodLink RJx4a65c 66 yJ7_copyOf_1904c, Cond.static yJ7_copyOf_1904c, Cond.code yJ7_copyOf_1904c cJ7_copyOf_1904c 2 (some (.array (.object "java/lang/Object"))), Cond.methodLink RJ7 86 ⟨"java/lang/Object", "getClass", "()Ljava/lang/Class;"⟩, Cond.selects "[Ljava/lang/Object;" ⟨"java/lang/Object", "getClass", "()Ljava/lang/Class;"⟩ ⟨"java/lang/Object", "getClass", "()Ljava/lang/Class;"⟩, Cond.instanceMethod ⟨"java/lang/Object", "getClass", "()Ljava/lang/Class;"⟩, Cond.native ⟨"java/lang/Object", "getClass", "()Ljava/lang/Class;"⟩, Cond.methodLink RJ7 300 yJ7_copyOf_6403c, Cond.static yJ7_copyOf_6403c, Cond.code yJ7_copyOf_6403c cJ7_copyOf_6403c 4 (some (.array (.object "java/lang/Object"))), Cond.classLink RJ7 110 "[Ljava/lang/Object;", Cond.classLink RJ7 2 "java/lang/Object"]
def wsL_set : List Cond := .codeWith yL_set cL_set 8 (some .int) [(0, 16, 19, 13), (0, 16, 23, 25)] :: ((wsL_set_r1 ++ (wsL_set_r2 ++ (wsL_set_r3 ++ (wsL_set_r4 ++ (wsL_set_r5 ++ (wsL_set_r6 ++ wsL_set_r7)))))) ++ wsX20 ++ wsX00 ++ wsX10 ++ wsJx4a65c0 ++ (vx_atS RX2 90 "java/lang/IllegalStateException" ["java/lang/RuntimeException", "java/lang/Exception"]).filter goodWord ++ (vx_atS RX2 62 "java/lang/IndexOutOfBoundsException" ["java/lang/RuntimeException", "java/lang/Exception"]).filter goodWord)
def wsL_remove_r1 : List Cond := [Cond.classLink RL 13 "java/lang/IndexOutOfBoundsException", Cond.classLink RL 25 "java/lang/IllegalStateException", Cond.methodLink RL 31 yX2_remove, Cond.instanceMethod yX2_remove, Cond.selects RX2 yX2_remove yX2_remove, Cond.initialized RX2, Cond.code yX2_remove cX2_remove 6 (some .int), Cond.classLink RX2 86 "java/lang/IllegalStateException", Cond.initialized "java/lang/IllegalStateException", Cond.fieldLink RX2 34 "PhraseCatalogue" "formTable" "[LPhraseCatalogue$Form;", Cond.fieldLink RX2 118 "PhraseCatalogue$Form" "signs" "[I", Cond.methodLink RX2 91 yX2_requireForm, Cond.static yX2_requireForm, Cond.code yX2_requireForm cX2_requireForm 4 none, Cond.classLink RX2 58 "java/lang/IndexOutOfBoundsException", Cond.initialized "java/lang/IndexOutOfBoundsException", Cond.methodLink RX2 127 yX2_requireKey, Cond.static yX2_requireKey, Cond.code yX2_requireKey cX2_requireKey 1 none, Cond.methodLink RX2 54 yX2_requireLanguage, Cond.static yX2_requireLanguage, Cond.code yX2_requireLanguage cX2_requireLanguage 1 none, Cond.methodLink RX2 188 yX2_requireGender, Cond.static yX2_requireGender]
def wsL_remove_r2 : List Cond := [Cond.code yX2_requireGender cX2_requireGender 1 none, Cond.methodLink RX2 112 yX2_slotOf, Cond.static yX2_slotOf, Cond.code yX2_slotOf cX2_slotOf 4 (some .int), Cond.methodLink RX2 133 yX2_textOf, Cond.static yX2_textOf, Cond.code yX2_textOf cX2_textOf 2 (some .int), Cond.methodLink RX2 108 yX2_change, Cond.instanceMethod yX2_change, Cond.selects RX2 yX2_change yX2_change, Cond.code yX2_change cX2_change 7 none, Cond.fieldLink RX2 38 "PhraseCatalogue" "sourceVersions" "[I", Cond.fieldLink RX2 41 "PhraseCatalogue" "seenVersions" "[I", Cond.methodLink RX2 195 yX2_keepPairs, Cond.instanceMethod yX2_keepPairs, Cond.selects RX2 yX2_keepPairs yX2_keepPairs, Cond.code yX2_keepPairs cX2_keepPairs 7 none, Cond.classLink RX2 166 RX1, Cond.instantiable RX1 3, Cond.initialized RX1, Cond.methodLink RX2 221 yX1_init, Cond.instanceMethod yX1_init, Cond.code yX1_init cX1_init 4 none, Cond.methodLink RX1 1 objectInit]
def wsL_remove_r3 : List Cond := [Cond.instanceMethod objectInit, Cond.code objectInit ⟨#[0xb1]⟩ 1 none, Cond.fieldLink RX1 7 "PhraseCatalogue$Pair" "language" "I", Cond.fieldLink RX1 13 "PhraseCatalogue$Pair" "old" "LPhraseCatalogue$Form;", Cond.fieldLink RX1 17 "PhraseCatalogue$Pair" "translation" "LPhraseCatalogue$Form;", Cond.methodLink RX2 224 yX2_keepPair, Cond.instanceMethod yX2_keepPair, Cond.selects RX2 yX2_keepPair yX2_keepPair, Cond.code yX2_keepPair cX2_keepPair 2 none, Cond.fieldLink RX2 47 "PhraseCatalogue" "past" "Ljava/util/ArrayList;", Cond.methodLink RX2 157 yJx4a65c_size_8abf5, Cond.instanceMethod yJx4a65c_size_8abf5, Cond.selects RJx4a65c yJx4a65c_size_8abf5 yJx4a65c_size_8abf5, Cond.initialized RJx4a65c, Cond.code yJx4a65c_size_8abf5 cJx4a65c_size_8abf5 1 (some .int), Cond.fieldLink RJx4a65c 48 "java/util/ArrayList" "size" "I", Cond.methodLink RX2 228 yJx4a65c_remove_915e3, Cond.instanceMethod yJx4a65c_remove_915e3, Cond.selects RJx4a65c yJx4a65c_remove_915e3 yJx4a65c_remove_915e3, Cond.code yJx4a65c_remove_915e3 cJx4a65c_remove_915e3 4 (some (.object "java/lang/Object")), Cond.fieldLink RJx4a65c 9 "java/util/ArrayList" "elementData" "[Ljava/lang/Object;", Cond.methodLink RJx4a65c 118 yJ15_checkIndex_7cf53, Cond.static yJ15_checkIndex_7cf53, Cond.initialized RJ15]
def wsL_remove_r4 : List Cond := [Cond.code yJ15_checkIndex_7cf53 cJ15_checkIndex_7cf53 2 (some .int), Cond.methodLink RJ15 105 yJ3_checkIndex_8e157, Cond.static yJ3_checkIndex_8e157, Cond.initialized RJ3, Cond.code yJ3_checkIndex_8e157 cJ3_checkIndex_8e157 3 (some .int), Cond.methodLink RJx4a65c 144 yJx4a65c_fastRemove_b59b0, Cond.instanceMethod yJx4a65c_fastRemove_b59b0, Cond.selects RJx4a65c yJx4a65c_fastRemove_b59b0 yJx4a65c_fastRemove_b59b0, Cond.code yJx4a65c_fastRemove_b59b0 cJx4a65c_fastRemove_b59b0 4 none, Cond.fieldLink RJx4a65c 63 "java/util/ArrayList" "modCount" "I", Cond.sameField "java/util/ArrayList" "java/util/AbstractList" "modCount" "I", Cond.methodLink RJx4a65c 112 arraycopyName, Cond.native arraycopyName, Cond.static arraycopyName, Cond.initialized "java/lang/System", Cond.methodLink RX2 232 yJx4a65c_add_9ea2d, Cond.instanceMethod yJx4a65c_add_9ea2d, Cond.selects RJx4a65c yJx4a65c_add_9ea2d yJx4a65c_add_9ea2d, Cond.code yJx4a65c_add_9ea2d cJx4a65c_add_9ea2d 2 (some .boolean), Cond.methodLink RJx4a65c 131 yJx4a65c_add_72be8, Cond.instanceMethod yJx4a65c_add_72be8, Cond.selects RJx4a65c yJx4a65c_add_72be8 yJx4a65c_add_72be8, Cond.code yJx4a65c_add_72be8 cJx4a65c_add_72be8 4 none, Cond.methodLink RJx4a65c 129 yJx4a65c_grow_d5877]
def wsL_remove_r5 : List Cond := [Cond.instanceMethod yJx4a65c_grow_d5877, Cond.selects RJx4a65c yJx4a65c_grow_d5877 yJx4a65c_grow_d5877, Cond.code yJx4a65c_grow_d5877 cJx4a65c_grow_d5877 1 (some (.array (.object "java/lang/Object"))), Cond.methodLink RJx4a65c 69 yJx4a65c_grow_92f84, Cond.instanceMethod yJx4a65c_grow_92f84, Cond.selects RJx4a65c yJx4a65c_grow_92f84 yJx4a65c_grow_92f84, Cond.code yJx4a65c_grow_92f84 cJx4a65c_grow_92f84 4 (some (.array (.object "java/lang/Object"))), Cond.fieldLink RJx4a65c 39 "java/util/ArrayList" "DEFAULTCAPACITY_EMPTY_ELEMENTDATA" "[Ljava/lang/Object;", Cond.methodLink RJx4a65c 79 Lib.Math.max.name, Cond.static Lib.Math.max.name, Cond.initialized "java/lang/Math", Cond.code Lib.Math.max.name Lib.Math.max.code 2 (some .int), Cond.classLink RJx4a65c 7 "java/lang/Object", Cond.methodLink RJx4a65c 73 yJ8_newLength_cabcc, Cond.static yJ8_newLength_cabcc, Cond.initialized RJ8, Cond.code yJ8_newLength_cabcc cJ8_newLength_cabcc 4 (some .int), Cond.methodLink RJ8 194 Lib.Math.max.name, Cond.constant RJ8 200 (2147483639), Cond.methodLink RJ8 201 yJ8_hugeLength_7cf53, Cond.static yJ8_hugeLength_7cf53, Cond.code yJ8_hugeLength_7cf53 cJ8_hugeLength_7cf53 3 (some .int), Cond.methodLink RJx4a65c 66 yJ7_copyOf_1904c, Cond.static yJ7_copyOf_1904c]
def wsL_remove_r6 : List Cond := [Cond.initialized RJ7, Cond.code yJ7_copyOf_1904c cJ7_copyOf_1904c 2 (some (.array (.object "java/lang/Object"))), Cond.methodLink RJ7 86 ⟨"java/lang/Object", "getClass", "()Ljava/lang/Class;"⟩, Cond.selects "[Ljava/lang/Object;" ⟨"java/lang/Object", "getClass", "()Ljava/lang/Class;"⟩ ⟨"java/lang/Object", "getClass", "()Ljava/lang/Class;"⟩, Cond.instanceMethod ⟨"java/lang/Object", "getClass", "()Ljava/lang/Class;"⟩, Cond.native ⟨"java/lang/Object", "getClass", "()Ljava/lang/Class;"⟩, Cond.methodLink RJ7 300 yJ7_copyOf_6403c, Cond.static yJ7_copyOf_6403c, Cond.code yJ7_copyOf_6403c cJ7_copyOf_6403c 4 (some (.array (.object "java/lang/Object"))), Cond.classLink RJ7 110 "[Ljava/lang/Object;", Cond.classLink RJ7 2 "java/lang/Object", Cond.methodLink RJ7 304 Lib.Math.min.name, Cond.static Lib.Math.min.name, Cond.code Lib.Math.min.name Lib.Math.min.code 2 (some .int), Cond.methodLink RJ7 150 arraycopyName]
def wsL_remove : List Cond := .codeWith yL_remove cL_remove 7 (some .int) [(0, 14, 17, 13), (0, 14, 21, 25)] :: ((wsL_remove_r1 ++ (wsL_remove_r2 ++ (wsL_remove_r3 ++ (wsL_remove_r4 ++ (wsL_remove_r5 ++ wsL_remove_r6))))) ++ wsX20 ++ wsX00 ++ wsX10 ++ wsJx4a65c0 ++ (vx_atS RX2 90 "java/lang/IllegalStateException" ["java/lang/RuntimeException", "java/lang/Exception"]).filter goodWord ++ (vx_atS RX2 62 "java/lang/IndexOutOfBoundsException" ["java/lang/RuntimeException", "java/lang/Exception"]).filter goodWord)
def wsL_kindOf : List Cond := .codeWith yL_kindOf cL_kindOf 5 (some .int) [(0, 10, 13, 13), (0, 10, 17, 15)] :: ([.classLink RL 13 "java/lang/IndexOutOfBoundsException", .classLink RL 15 "java/lang/IllegalArgumentException", .methodLink RL 35 yX2_kindOf, .instanceMethod yX2_kindOf, .selects RX2 yX2_kindOf yX2_kindOf, .initialized RX2, .code yX2_kindOf cX2_kindOf 3 (some .int), .methodLink RX2 54 yX2_requireLanguage, .static yX2_requireLanguage, .code yX2_requireLanguage cX2_requireLanguage 1 none, .classLink RX2 58 "java/lang/IndexOutOfBoundsException", .initialized "java/lang/IndexOutOfBoundsException", .methodLink RX2 121 yX2_requireNumber, .static yX2_requireNumber, .code yX2_requireNumber cX2_requireNumber 1 none, .classLink RX2 69 "java/lang/IllegalArgumentException", .initialized "java/lang/IllegalArgumentException", .methodLink RX2 124 yX2_classOf, .instanceMethod yX2_classOf, .selects RX2 yX2_classOf yX2_classOf, .code yX2_classOf cX2_classOf 3 (some .int), .fieldLink RX2 13 "PhraseCatalogue" "onesLimits" "[I", .fieldLink RX2 16 "PhraseCatalogue" "fewLimits" "[I"] ++ wsX20 ++ (vx_atS RX2 62 "java/lang/IndexOutOfBoundsException" ["java/lang/RuntimeException", "java/lang/Exception"]).filter goodWord ++ (vx_atS RX2 73 "java/lang/IllegalArgumentException" ["java/lang/RuntimeException", "java/lang/Exception"]).filter goodWord)
def wsL_forms_r1 : List Cond := [Cond.classLink RL 13 "java/lang/IndexOutOfBoundsException", Cond.methodLink RL 38 yX2_forms, Cond.instanceMethod yX2_forms, Cond.selects RX2 yX2_forms yX2_forms, Cond.initialized RX2, Cond.code yX2_forms cX2_forms 3 (some .int), Cond.methodLink RX2 127 yX2_requireKey, Cond.static yX2_requireKey, Cond.code yX2_requireKey cX2_requireKey 1 none, Cond.classLink RX2 58 "java/lang/IndexOutOfBoundsException", Cond.initialized "java/lang/IndexOutOfBoundsException", Cond.methodLink RX2 54 yX2_requireLanguage, Cond.static yX2_requireLanguage, Cond.code yX2_requireLanguage cX2_requireLanguage 1 none, Cond.methodLink RX2 130 yX2_countForms, Cond.instanceMethod yX2_countForms, Cond.selects RX2 yX2_countForms yX2_countForms, Cond.code yX2_countForms cX2_countForms 6 (some .int), Cond.fieldLink RX2 34 "PhraseCatalogue" "formTable" "[LPhraseCatalogue$Form;", Cond.methodLink RX2 112 yX2_slotOf, Cond.static yX2_slotOf, Cond.code yX2_slotOf cX2_slotOf 4 (some .int), Cond.methodLink RX2 133 yX2_textOf, Cond.static yX2_textOf]
def wsL_forms_r2 : List Cond := [Cond.code yX2_textOf cX2_textOf 2 (some .int)]
def wsL_forms : List Cond := .codeWith yL_forms cL_forms 5 (some .int) [(0, 10, 13, 13)] :: ((wsL_forms_r1 ++ wsL_forms_r2) ++ wsX20 ++ (vx_atS RX2 62 "java/lang/IndexOutOfBoundsException" ["java/lang/RuntimeException", "java/lang/Exception"]).filter goodWord)
def wsL_version : List Cond := .codeWith yL_version cL_version 4 (some .int) [(0, 9, 12, 13)] :: ([.classLink RL 13 "java/lang/IndexOutOfBoundsException", .methodLink RL 41 yX2_version, .instanceMethod yX2_version, .selects RX2 yX2_version yX2_version, .initialized RX2, .code yX2_version cX2_version 2 (some .int), .fieldLink RX2 38 "PhraseCatalogue" "sourceVersions" "[I", .methodLink RX2 127 yX2_requireKey, .static yX2_requireKey, .code yX2_requireKey cX2_requireKey 1 none, .classLink RX2 58 "java/lang/IndexOutOfBoundsException", .initialized "java/lang/IndexOutOfBoundsException"] ++ wsX20 ++ (vx_atS RX2 62 "java/lang/IndexOutOfBoundsException" ["java/lang/RuntimeException", "java/lang/Exception"]).filter goodWord)
def wsL_staleBy_r1 : List Cond := [Cond.classLink RL 13 "java/lang/IndexOutOfBoundsException", Cond.methodLink RL 44 yX2_staleBy, Cond.instanceMethod yX2_staleBy, Cond.selects RX2 yX2_staleBy yX2_staleBy, Cond.initialized RX2, Cond.code yX2_staleBy cX2_staleBy 3 (some .int), Cond.fieldLink RX2 38 "PhraseCatalogue" "sourceVersions" "[I", Cond.fieldLink RX2 41 "PhraseCatalogue" "seenVersions" "[I", Cond.methodLink RX2 127 yX2_requireKey, Cond.static yX2_requireKey, Cond.code yX2_requireKey cX2_requireKey 1 none, Cond.classLink RX2 58 "java/lang/IndexOutOfBoundsException", Cond.initialized "java/lang/IndexOutOfBoundsException", Cond.methodLink RX2 54 yX2_requireLanguage, Cond.static yX2_requireLanguage, Cond.code yX2_requireLanguage cX2_requireLanguage 1 none, Cond.methodLink RX2 130 yX2_countForms, Cond.instanceMethod yX2_countForms, Cond.selects RX2 yX2_countForms yX2_countForms, Cond.code yX2_countForms cX2_countForms 6 (some .int), Cond.fieldLink RX2 34 "PhraseCatalogue" "formTable" "[LPhraseCatalogue$Form;", Cond.methodLink RX2 112 yX2_slotOf, Cond.static yX2_slotOf, Cond.code yX2_slotOf cX2_slotOf 4 (some .int)]
def wsL_staleBy_r2 : List Cond := [Cond.methodLink RX2 133 yX2_textOf, Cond.static yX2_textOf, Cond.code yX2_textOf cX2_textOf 2 (some .int)]
def wsL_staleBy : List Cond := .codeWith yL_staleBy cL_staleBy 5 (some .int) [(0, 10, 13, 13)] :: ((wsL_staleBy_r1 ++ wsL_staleBy_r2) ++ wsX20 ++ (vx_atS RX2 62 "java/lang/IndexOutOfBoundsException" ["java/lang/RuntimeException", "java/lang/Exception"]).filter goodWord)
def wsL_missing : List Cond := .codeWith yL_missing cL_missing 4 (some .int) [(0, 9, 12, 13)] :: ([.classLink RL 13 "java/lang/IndexOutOfBoundsException", .methodLink RL 47 yX2_missing, .instanceMethod yX2_missing, .selects RX2 yX2_missing yX2_missing, .initialized RX2, .code yX2_missing cX2_missing 4 (some .int), .methodLink RX2 54 yX2_requireLanguage, .static yX2_requireLanguage, .code yX2_requireLanguage cX2_requireLanguage 1 none, .classLink RX2 58 "java/lang/IndexOutOfBoundsException", .initialized "java/lang/IndexOutOfBoundsException", .methodLink RX2 130 yX2_countForms, .instanceMethod yX2_countForms, .selects RX2 yX2_countForms yX2_countForms, .code yX2_countForms cX2_countForms 6 (some .int), .fieldLink RX2 34 "PhraseCatalogue" "formTable" "[LPhraseCatalogue$Form;", .methodLink RX2 112 yX2_slotOf, .static yX2_slotOf, .code yX2_slotOf cX2_slotOf 4 (some .int), .methodLink RX2 133 yX2_textOf, .static yX2_textOf, .code yX2_textOf cX2_textOf 2 (some .int)] ++ wsX20 ++ (vx_atS RX2 62 "java/lang/IndexOutOfBoundsException" ["java/lang/RuntimeException", "java/lang/Exception"]).filter goodWord)
def wsL_fits_r1 : List Cond := [Cond.classLink RL 13 "java/lang/IndexOutOfBoundsException", Cond.methodLink RL 50 yX2_fits, Cond.instanceMethod yX2_fits, Cond.selects RX2 yX2_fits yX2_fits, Cond.initialized RX2, Cond.code yX2_fits cX2_fits 5 (some .boolean), Cond.fieldLink RX2 34 "PhraseCatalogue" "formTable" "[LPhraseCatalogue$Form;", Cond.methodLink RX2 91 yX2_requireForm, Cond.static yX2_requireForm, Cond.code yX2_requireForm cX2_requireForm 4 none, Cond.classLink RX2 58 "java/lang/IndexOutOfBoundsException", Cond.initialized "java/lang/IndexOutOfBoundsException", Cond.methodLink RX2 127 yX2_requireKey, Cond.static yX2_requireKey, Cond.code yX2_requireKey cX2_requireKey 1 none, Cond.methodLink RX2 54 yX2_requireLanguage, Cond.static yX2_requireLanguage, Cond.code yX2_requireLanguage cX2_requireLanguage 1 none, Cond.methodLink RX2 188 yX2_requireGender, Cond.static yX2_requireGender, Cond.code yX2_requireGender cX2_requireGender 1 none, Cond.methodLink RX2 112 yX2_slotOf, Cond.static yX2_slotOf, Cond.code yX2_slotOf cX2_slotOf 4 (some .int)]
def wsL_fits_r2 : List Cond := [Cond.methodLink RX2 133 yX2_textOf, Cond.static yX2_textOf, Cond.code yX2_textOf cX2_textOf 2 (some .int), Cond.methodLink RX2 136 yX2_isFitting, Cond.instanceMethod yX2_isFitting, Cond.selects RX2 yX2_isFitting yX2_isFitting, Cond.code yX2_isFitting cX2_isFitting 6 (some .boolean), Cond.fieldLink RX2 199 "PhraseCatalogue$Form" "placeholders" "I", Cond.fieldLink RX2 205 "PhraseCatalogue$Form" "mayLack" "Z", Cond.methodLink RX2 202 yX2_sourcePlaceholders, Cond.instanceMethod yX2_sourcePlaceholders, Cond.selects RX2 yX2_sourcePlaceholders yX2_sourcePlaceholders, Cond.code yX2_sourcePlaceholders cX2_sourcePlaceholders 6 (some .int)]
def wsL_fits : List Cond := .codeWith yL_fits cL_fits 7 (some .int) [(0, 21, 24, 13)] :: ((wsL_fits_r1 ++ wsL_fits_r2) ++ wsX20 ++ wsX00 ++ (vx_atS RX2 62 "java/lang/IndexOutOfBoundsException" ["java/lang/RuntimeException", "java/lang/Exception"]).filter goodWord)
def wsL_toldBy_r1 : List Cond := [Cond.classLink RL 13 "java/lang/IndexOutOfBoundsException", Cond.classLink RL 15 "java/lang/IllegalArgumentException", Cond.methodLink RL 54 yX2_toldBy, Cond.instanceMethod yX2_toldBy, Cond.selects RX2 yX2_toldBy yX2_toldBy, Cond.initialized RX2, Cond.code yX2_toldBy cX2_toldBy 5 (some .int), Cond.methodLink RX2 140 yX2_requireQuestion, Cond.static yX2_requireQuestion, Cond.code yX2_requireQuestion cX2_requireQuestion 4 none, Cond.methodLink RX2 127 yX2_requireKey, Cond.static yX2_requireKey, Cond.code yX2_requireKey cX2_requireKey 1 none, Cond.classLink RX2 58 "java/lang/IndexOutOfBoundsException", Cond.initialized "java/lang/IndexOutOfBoundsException", Cond.methodLink RX2 54 yX2_requireLanguage, Cond.static yX2_requireLanguage, Cond.code yX2_requireLanguage cX2_requireLanguage 1 none, Cond.methodLink RX2 188 yX2_requireGender, Cond.static yX2_requireGender, Cond.code yX2_requireGender cX2_requireGender 1 none, Cond.methodLink RX2 121 yX2_requireNumber, Cond.static yX2_requireNumber, Cond.code yX2_requireNumber cX2_requireNumber 1 none]
def wsL_toldBy_r2 : List Cond := [Cond.classLink RX2 69 "java/lang/IllegalArgumentException", Cond.initialized "java/lang/IllegalArgumentException", Cond.methodLink RX2 143 yX2_findAlongChain, Cond.instanceMethod yX2_findAlongChain, Cond.selects RX2 yX2_findAlongChain yX2_findAlongChain, Cond.code yX2_findAlongChain cX2_findAlongChain 8 (some .int), Cond.fieldLink RX2 9 "PhraseCatalogue" "fallbacks" "[I", Cond.methodLink RX2 209 yX2_findInLanguage, Cond.instanceMethod yX2_findInLanguage, Cond.selects RX2 yX2_findInLanguage yX2_findInLanguage, Cond.code yX2_findInLanguage cX2_findInLanguage 6 (some .int), Cond.methodLink RX2 124 yX2_classOf, Cond.instanceMethod yX2_classOf, Cond.selects RX2 yX2_classOf yX2_classOf, Cond.code yX2_classOf cX2_classOf 3 (some .int), Cond.fieldLink RX2 13 "PhraseCatalogue" "onesLimits" "[I", Cond.fieldLink RX2 16 "PhraseCatalogue" "fewLimits" "[I", Cond.methodLink RX2 212 yX2_findInClass, Cond.instanceMethod yX2_findInClass, Cond.selects RX2 yX2_findInClass yX2_findInClass, Cond.code yX2_findInClass cX2_findInClass 7 (some .int), Cond.fieldLink RX2 34 "PhraseCatalogue" "formTable" "[LPhraseCatalogue$Form;", Cond.methodLink RX2 112 yX2_slotOf, Cond.static yX2_slotOf]
def wsL_toldBy_r3 : List Cond := [Cond.code yX2_slotOf cX2_slotOf 4 (some .int), Cond.methodLink RX2 133 yX2_textOf, Cond.static yX2_textOf, Cond.code yX2_textOf cX2_textOf 2 (some .int), Cond.methodLink RX2 136 yX2_isFitting, Cond.instanceMethod yX2_isFitting, Cond.selects RX2 yX2_isFitting yX2_isFitting, Cond.code yX2_isFitting cX2_isFitting 6 (some .boolean), Cond.fieldLink RX2 199 "PhraseCatalogue$Form" "placeholders" "I", Cond.fieldLink RX2 205 "PhraseCatalogue$Form" "mayLack" "Z", Cond.methodLink RX2 202 yX2_sourcePlaceholders, Cond.instanceMethod yX2_sourcePlaceholders, Cond.selects RX2 yX2_sourcePlaceholders yX2_sourcePlaceholders, Cond.code yX2_sourcePlaceholders cX2_sourcePlaceholders 6 (some .int), Cond.methodLink RX2 146 yX2_languageOfSlot, Cond.static yX2_languageOfSlot, Cond.code yX2_languageOfSlot cX2_languageOfSlot 1 (some .int)]
def wsL_toldBy : List Cond := .codeWith yL_toldBy cL_toldBy 7 (some .int) [(0, 14, 17, 13), (0, 14, 21, 15)] :: ((wsL_toldBy_r1 ++ (wsL_toldBy_r2 ++ wsL_toldBy_r3)) ++ wsX20 ++ wsX00 ++ (vx_atS RX2 62 "java/lang/IndexOutOfBoundsException" ["java/lang/RuntimeException", "java/lang/Exception"]).filter goodWord ++ (vx_atS RX2 73 "java/lang/IllegalArgumentException" ["java/lang/RuntimeException", "java/lang/Exception"]).filter goodWord)
def wsL_toldByLooking_r1 : List Cond := [Cond.classLink RL 13 "java/lang/IndexOutOfBoundsException", Cond.classLink RL 15 "java/lang/IllegalArgumentException", Cond.methodLink RL 57 yX2_toldByLooking, Cond.instanceMethod yX2_toldByLooking, Cond.selects RX2 yX2_toldByLooking yX2_toldByLooking, Cond.initialized RX2, Cond.code yX2_toldByLooking cX2_toldByLooking 5 (some .int), Cond.methodLink RX2 140 yX2_requireQuestion, Cond.static yX2_requireQuestion, Cond.code yX2_requireQuestion cX2_requireQuestion 4 none, Cond.methodLink RX2 127 yX2_requireKey, Cond.static yX2_requireKey, Cond.code yX2_requireKey cX2_requireKey 1 none, Cond.classLink RX2 58 "java/lang/IndexOutOfBoundsException", Cond.initialized "java/lang/IndexOutOfBoundsException", Cond.methodLink RX2 54 yX2_requireLanguage, Cond.static yX2_requireLanguage, Cond.code yX2_requireLanguage cX2_requireLanguage 1 none, Cond.methodLink RX2 188 yX2_requireGender, Cond.static yX2_requireGender, Cond.code yX2_requireGender cX2_requireGender 1 none, Cond.methodLink RX2 121 yX2_requireNumber, Cond.static yX2_requireNumber, Cond.code yX2_requireNumber cX2_requireNumber 1 none]
def wsL_toldByLooking_r2 : List Cond := [Cond.classLink RX2 69 "java/lang/IllegalArgumentException", Cond.initialized "java/lang/IllegalArgumentException", Cond.methodLink RX2 150 yX2_findByLooking, Cond.instanceMethod yX2_findByLooking, Cond.selects RX2 yX2_findByLooking yX2_findByLooking, Cond.code yX2_findByLooking cX2_findByLooking 10 (some .int), Cond.fieldLink RX2 34 "PhraseCatalogue" "formTable" "[LPhraseCatalogue$Form;", Cond.methodLink RX2 112 yX2_slotOf, Cond.static yX2_slotOf, Cond.code yX2_slotOf cX2_slotOf 4 (some .int), Cond.methodLink RX2 133 yX2_textOf, Cond.static yX2_textOf, Cond.code yX2_textOf cX2_textOf 2 (some .int), Cond.methodLink RX2 215 yX2_turnOf, Cond.instanceMethod yX2_turnOf, Cond.selects RX2 yX2_turnOf yX2_turnOf, Cond.code yX2_turnOf cX2_turnOf 9 (some .int), Cond.methodLink RX2 146 yX2_languageOfSlot, Cond.static yX2_languageOfSlot, Cond.code yX2_languageOfSlot cX2_languageOfSlot 1 (some .int), Cond.methodLink RX2 65 yX2_chainPlace, Cond.instanceMethod yX2_chainPlace, Cond.selects RX2 yX2_chainPlace yX2_chainPlace, Cond.code yX2_chainPlace cX2_chainPlace 5 (some .int)]
def wsL_toldByLooking_r3 : List Cond := [Cond.fieldLink RX2 9 "PhraseCatalogue" "fallbacks" "[I", Cond.methodLink RX2 124 yX2_classOf, Cond.instanceMethod yX2_classOf, Cond.selects RX2 yX2_classOf yX2_classOf, Cond.code yX2_classOf cX2_classOf 3 (some .int), Cond.fieldLink RX2 13 "PhraseCatalogue" "onesLimits" "[I", Cond.fieldLink RX2 16 "PhraseCatalogue" "fewLimits" "[I", Cond.methodLink RX2 218 yX2_tryOf, Cond.static yX2_tryOf, Cond.code yX2_tryOf cX2_tryOf 4 (some .int), Cond.methodLink RX2 136 yX2_isFitting, Cond.instanceMethod yX2_isFitting, Cond.selects RX2 yX2_isFitting yX2_isFitting, Cond.code yX2_isFitting cX2_isFitting 6 (some .boolean), Cond.fieldLink RX2 199 "PhraseCatalogue$Form" "placeholders" "I", Cond.fieldLink RX2 205 "PhraseCatalogue$Form" "mayLack" "Z", Cond.methodLink RX2 202 yX2_sourcePlaceholders, Cond.instanceMethod yX2_sourcePlaceholders, Cond.selects RX2 yX2_sourcePlaceholders yX2_sourcePlaceholders, Cond.code yX2_sourcePlaceholders cX2_sourcePlaceholders 6 (some .int)]
def wsL_toldByLooking : List Cond := .codeWith yL_toldByLooking cL_toldByLooking 7 (some .int) [(0, 14, 17, 13), (0, 14, 21, 15)] :: ((wsL_toldByLooking_r1 ++ (wsL_toldByLooking_r2 ++ wsL_toldByLooking_r3)) ++ wsX20 ++ wsX00 ++ (vx_atS RX2 62 "java/lang/IndexOutOfBoundsException" ["java/lang/RuntimeException", "java/lang/Exception"]).filter goodWord ++ (vx_atS RX2 73 "java/lang/IllegalArgumentException" ["java/lang/RuntimeException", "java/lang/Exception"]).filter goodWord)
def wsL_toldForm_r1 : List Cond := [Cond.classLink RL 13 "java/lang/IndexOutOfBoundsException", Cond.classLink RL 15 "java/lang/IllegalArgumentException", Cond.methodLink RL 60 yX2_toldForm, Cond.instanceMethod yX2_toldForm, Cond.selects RX2 yX2_toldForm yX2_toldForm, Cond.initialized RX2, Cond.code yX2_toldForm cX2_toldForm 6 (some .int), Cond.methodLink RX2 140 yX2_requireQuestion, Cond.static yX2_requireQuestion, Cond.code yX2_requireQuestion cX2_requireQuestion 4 none, Cond.methodLink RX2 127 yX2_requireKey, Cond.static yX2_requireKey, Cond.code yX2_requireKey cX2_requireKey 1 none, Cond.classLink RX2 58 "java/lang/IndexOutOfBoundsException", Cond.initialized "java/lang/IndexOutOfBoundsException", Cond.methodLink RX2 54 yX2_requireLanguage, Cond.static yX2_requireLanguage, Cond.code yX2_requireLanguage cX2_requireLanguage 1 none, Cond.methodLink RX2 188 yX2_requireGender, Cond.static yX2_requireGender, Cond.code yX2_requireGender cX2_requireGender 1 none, Cond.methodLink RX2 121 yX2_requireNumber, Cond.static yX2_requireNumber, Cond.code yX2_requireNumber cX2_requireNumber 1 none]
def wsL_toldForm_r2 : List Cond := [Cond.classLink RX2 69 "java/lang/IllegalArgumentException", Cond.initialized "java/lang/IllegalArgumentException", Cond.methodLink RX2 143 yX2_findAlongChain, Cond.instanceMethod yX2_findAlongChain, Cond.selects RX2 yX2_findAlongChain yX2_findAlongChain, Cond.code yX2_findAlongChain cX2_findAlongChain 8 (some .int), Cond.fieldLink RX2 9 "PhraseCatalogue" "fallbacks" "[I", Cond.methodLink RX2 209 yX2_findInLanguage, Cond.instanceMethod yX2_findInLanguage, Cond.selects RX2 yX2_findInLanguage yX2_findInLanguage, Cond.code yX2_findInLanguage cX2_findInLanguage 6 (some .int), Cond.methodLink RX2 124 yX2_classOf, Cond.instanceMethod yX2_classOf, Cond.selects RX2 yX2_classOf yX2_classOf, Cond.code yX2_classOf cX2_classOf 3 (some .int), Cond.fieldLink RX2 13 "PhraseCatalogue" "onesLimits" "[I", Cond.fieldLink RX2 16 "PhraseCatalogue" "fewLimits" "[I", Cond.methodLink RX2 212 yX2_findInClass, Cond.instanceMethod yX2_findInClass, Cond.selects RX2 yX2_findInClass yX2_findInClass, Cond.code yX2_findInClass cX2_findInClass 7 (some .int), Cond.fieldLink RX2 34 "PhraseCatalogue" "formTable" "[LPhraseCatalogue$Form;", Cond.methodLink RX2 112 yX2_slotOf, Cond.static yX2_slotOf]
def wsL_toldForm_r3 : List Cond := [Cond.code yX2_slotOf cX2_slotOf 4 (some .int), Cond.methodLink RX2 133 yX2_textOf, Cond.static yX2_textOf, Cond.code yX2_textOf cX2_textOf 2 (some .int), Cond.methodLink RX2 136 yX2_isFitting, Cond.instanceMethod yX2_isFitting, Cond.selects RX2 yX2_isFitting yX2_isFitting, Cond.code yX2_isFitting cX2_isFitting 6 (some .boolean), Cond.fieldLink RX2 199 "PhraseCatalogue$Form" "placeholders" "I", Cond.fieldLink RX2 205 "PhraseCatalogue$Form" "mayLack" "Z", Cond.methodLink RX2 202 yX2_sourcePlaceholders, Cond.instanceMethod yX2_sourcePlaceholders, Cond.selects RX2 yX2_sourcePlaceholders yX2_sourcePlaceholders, Cond.code yX2_sourcePlaceholders cX2_sourcePlaceholders 6 (some .int)]
def wsL_toldForm : List Cond := .codeWith yL_toldForm cL_toldForm 7 (some .int) [(0, 14, 17, 13), (0, 14, 21, 15)] :: ((wsL_toldForm_r1 ++ (wsL_toldForm_r2 ++ wsL_toldForm_r3)) ++ wsX20 ++ wsX00 ++ (vx_atS RX2 62 "java/lang/IndexOutOfBoundsException" ["java/lang/RuntimeException", "java/lang/Exception"]).filter goodWord ++ (vx_atS RX2 73 "java/lang/IllegalArgumentException" ["java/lang/RuntimeException", "java/lang/Exception"]).filter goodWord)
def wsL_toldSign_r1 : List Cond := [Cond.classLink RL 13 "java/lang/IndexOutOfBoundsException", Cond.classLink RL 15 "java/lang/IllegalArgumentException", Cond.methodLink RL 63 yX2_toldSign, Cond.instanceMethod yX2_toldSign, Cond.selects RX2 yX2_toldSign yX2_toldSign, Cond.initialized RX2, Cond.code yX2_toldSign cX2_toldSign 8 (some .int), Cond.classLink RX2 58 "java/lang/IndexOutOfBoundsException", Cond.initialized "java/lang/IndexOutOfBoundsException", Cond.fieldLink RX2 34 "PhraseCatalogue" "formTable" "[LPhraseCatalogue$Form;", Cond.fieldLink RX2 118 "PhraseCatalogue$Form" "signs" "[I", Cond.methodLink RX2 140 yX2_requireQuestion, Cond.static yX2_requireQuestion, Cond.code yX2_requireQuestion cX2_requireQuestion 4 none, Cond.methodLink RX2 127 yX2_requireKey, Cond.static yX2_requireKey, Cond.code yX2_requireKey cX2_requireKey 1 none, Cond.methodLink RX2 54 yX2_requireLanguage, Cond.static yX2_requireLanguage, Cond.code yX2_requireLanguage cX2_requireLanguage 1 none, Cond.methodLink RX2 188 yX2_requireGender, Cond.static yX2_requireGender, Cond.code yX2_requireGender cX2_requireGender 1 none, Cond.methodLink RX2 121 yX2_requireNumber]
def wsL_toldSign_r2 : List Cond := [Cond.static yX2_requireNumber, Cond.code yX2_requireNumber cX2_requireNumber 1 none, Cond.classLink RX2 69 "java/lang/IllegalArgumentException", Cond.initialized "java/lang/IllegalArgumentException", Cond.methodLink RX2 143 yX2_findAlongChain, Cond.instanceMethod yX2_findAlongChain, Cond.selects RX2 yX2_findAlongChain yX2_findAlongChain, Cond.code yX2_findAlongChain cX2_findAlongChain 8 (some .int), Cond.fieldLink RX2 9 "PhraseCatalogue" "fallbacks" "[I", Cond.methodLink RX2 209 yX2_findInLanguage, Cond.instanceMethod yX2_findInLanguage, Cond.selects RX2 yX2_findInLanguage yX2_findInLanguage, Cond.code yX2_findInLanguage cX2_findInLanguage 6 (some .int), Cond.methodLink RX2 124 yX2_classOf, Cond.instanceMethod yX2_classOf, Cond.selects RX2 yX2_classOf yX2_classOf, Cond.code yX2_classOf cX2_classOf 3 (some .int), Cond.fieldLink RX2 13 "PhraseCatalogue" "onesLimits" "[I", Cond.fieldLink RX2 16 "PhraseCatalogue" "fewLimits" "[I", Cond.methodLink RX2 212 yX2_findInClass, Cond.instanceMethod yX2_findInClass, Cond.selects RX2 yX2_findInClass yX2_findInClass, Cond.code yX2_findInClass cX2_findInClass 7 (some .int), Cond.methodLink RX2 112 yX2_slotOf]
def wsL_toldSign_r3 : List Cond := [Cond.static yX2_slotOf, Cond.code yX2_slotOf cX2_slotOf 4 (some .int), Cond.methodLink RX2 133 yX2_textOf, Cond.static yX2_textOf, Cond.code yX2_textOf cX2_textOf 2 (some .int), Cond.methodLink RX2 136 yX2_isFitting, Cond.instanceMethod yX2_isFitting, Cond.selects RX2 yX2_isFitting yX2_isFitting, Cond.code yX2_isFitting cX2_isFitting 6 (some .boolean), Cond.fieldLink RX2 199 "PhraseCatalogue$Form" "placeholders" "I", Cond.fieldLink RX2 205 "PhraseCatalogue$Form" "mayLack" "Z", Cond.methodLink RX2 202 yX2_sourcePlaceholders, Cond.instanceMethod yX2_sourcePlaceholders, Cond.selects RX2 yX2_sourcePlaceholders yX2_sourcePlaceholders, Cond.code yX2_sourcePlaceholders cX2_sourcePlaceholders 6 (some .int)]
def wsL_toldSign : List Cond := .codeWith yL_toldSign cL_toldSign 8 (some .int) [(0, 16, 19, 13), (0, 16, 23, 15)] :: ((wsL_toldSign_r1 ++ (wsL_toldSign_r2 ++ wsL_toldSign_r3)) ++ wsX20 ++ wsX00 ++ (vx_atS RX2 62 "java/lang/IndexOutOfBoundsException" ["java/lang/RuntimeException", "java/lang/Exception"]).filter goodWord ++ (vx_atS RX2 73 "java/lang/IllegalArgumentException" ["java/lang/RuntimeException", "java/lang/Exception"]).filter goodWord)
def wsL_nearDistance_r1 : List Cond := [Cond.classLink RL 13 "java/lang/IndexOutOfBoundsException", Cond.methodLink RL 67 yX2_nearDistance, Cond.instanceMethod yX2_nearDistance, Cond.selects RX2 yX2_nearDistance yX2_nearDistance, Cond.initialized RX2, Cond.code yX2_nearDistance cX2_nearDistance 7 (some .int), Cond.fieldLink RX2 34 "PhraseCatalogue" "formTable" "[LPhraseCatalogue$Form;", Cond.fieldLink RX2 165 "PhraseCatalogue$Pair" "old" "LPhraseCatalogue$Form;", Cond.methodLink RX2 91 yX2_requireForm, Cond.static yX2_requireForm, Cond.code yX2_requireForm cX2_requireForm 4 none, Cond.classLink RX2 58 "java/lang/IndexOutOfBoundsException", Cond.initialized "java/lang/IndexOutOfBoundsException", Cond.methodLink RX2 127 yX2_requireKey, Cond.static yX2_requireKey, Cond.code yX2_requireKey cX2_requireKey 1 none, Cond.methodLink RX2 54 yX2_requireLanguage, Cond.static yX2_requireLanguage, Cond.code yX2_requireLanguage cX2_requireLanguage 1 none, Cond.methodLink RX2 188 yX2_requireGender, Cond.static yX2_requireGender, Cond.code yX2_requireGender cX2_requireGender 1 none, Cond.methodLink RX2 112 yX2_slotOf, Cond.static yX2_slotOf]
def wsL_nearDistance_r2 : List Cond := [Cond.code yX2_slotOf cX2_slotOf 4 (some .int), Cond.methodLink RX2 133 yX2_textOf, Cond.static yX2_textOf, Cond.code yX2_textOf cX2_textOf 2 (some .int), Cond.methodLink RX2 161 yX2_findNear, Cond.instanceMethod yX2_findNear, Cond.selects RX2 yX2_findNear yX2_findNear, Cond.code yX2_findNear cX2_findNear 8 (some (.object "PhraseCatalogue$Pair")), Cond.fieldLink RX2 118 "PhraseCatalogue$Form" "signs" "[I", Cond.fieldLink RX2 47 "PhraseCatalogue" "past" "Ljava/util/ArrayList;", Cond.classLink RX2 166 "PhraseCatalogue$Pair", Cond.fieldLink RX2 239 "PhraseCatalogue$Pair" "language" "I", Cond.methodLink RX2 157 yJx4a65c_size_8abf5, Cond.instanceMethod yJx4a65c_size_8abf5, Cond.selects RJx4a65c yJx4a65c_size_8abf5 yJx4a65c_size_8abf5, Cond.initialized RJx4a65c, Cond.code yJx4a65c_size_8abf5 cJx4a65c_size_8abf5 1 (some .int), Cond.fieldLink RJx4a65c 48 "java/util/ArrayList" "size" "I", Cond.methodLink RX2 236 yJx4a65c_get_915e3, Cond.instanceMethod yJx4a65c_get_915e3, Cond.selects RJx4a65c yJx4a65c_get_915e3 yJx4a65c_get_915e3, Cond.code yJx4a65c_get_915e3 cJx4a65c_get_915e3 2 (some (.object "java/lang/Object")), Cond.methodLink RJx4a65c 118 yJ15_checkIndex_7cf53, Cond.static yJ15_checkIndex_7cf53]
def wsL_nearDistance_r3 : List Cond := [Cond.initialized RJ15, Cond.code yJ15_checkIndex_7cf53 cJ15_checkIndex_7cf53 2 (some .int), Cond.methodLink RJ15 105 yJ3_checkIndex_8e157, Cond.static yJ3_checkIndex_8e157, Cond.initialized RJ3, Cond.code yJ3_checkIndex_8e157 cJ3_checkIndex_8e157 3 (some .int), Cond.methodLink RJx4a65c 123 yJx4a65c_elementData_915e3, Cond.instanceMethod yJx4a65c_elementData_915e3, Cond.selects RJx4a65c yJx4a65c_elementData_915e3 yJx4a65c_elementData_915e3, Cond.code yJx4a65c_elementData_915e3 cJx4a65c_elementData_915e3 2 (some (.object "java/lang/Object")), Cond.fieldLink RJx4a65c 9 "java/util/ArrayList" "elementData" "[Ljava/lang/Object;", Cond.methodLink RX2 171 yX2_distance, Cond.instanceMethod yX2_distance, Cond.selects RX2 yX2_distance yX2_distance, Cond.code yX2_distance cX2_distance 7 (some .int), Cond.fieldLink RX2 51 "PhraseCatalogue" "distanceRow" "[I", Cond.methodLink RX2 242 Lib.Math.min.name, Cond.static Lib.Math.min.name, Cond.initialized "java/lang/Math", Cond.code Lib.Math.min.name Lib.Math.min.code 2 (some .int)]
def wsL_nearDistance : List Cond := .codeWith yL_nearDistance cL_nearDistance 7 (some .int) [(0, 14, 17, 13)] :: ((wsL_nearDistance_r1 ++ (wsL_nearDistance_r2 ++ wsL_nearDistance_r3)) ++ wsX20 ++ wsX10 ++ wsX00 ++ wsJx4a65c0 ++ (vx_atS RX2 62 "java/lang/IndexOutOfBoundsException" ["java/lang/RuntimeException", "java/lang/Exception"]).filter goodWord)
def wsL_nearSign_r1 : List Cond := [Cond.classLink RL 13 "java/lang/IndexOutOfBoundsException", Cond.methodLink RL 70 yX2_nearSign, Cond.instanceMethod yX2_nearSign, Cond.selects RX2 yX2_nearSign yX2_nearSign, Cond.initialized RX2, Cond.code yX2_nearSign cX2_nearSign 7 (some .int), Cond.classLink RX2 58 "java/lang/IndexOutOfBoundsException", Cond.initialized "java/lang/IndexOutOfBoundsException", Cond.fieldLink RX2 34 "PhraseCatalogue" "formTable" "[LPhraseCatalogue$Form;", Cond.fieldLink RX2 177 "PhraseCatalogue$Pair" "translation" "LPhraseCatalogue$Form;", Cond.fieldLink RX2 118 "PhraseCatalogue$Form" "signs" "[I", Cond.methodLink RX2 91 yX2_requireForm, Cond.static yX2_requireForm, Cond.code yX2_requireForm cX2_requireForm 4 none, Cond.methodLink RX2 127 yX2_requireKey, Cond.static yX2_requireKey, Cond.code yX2_requireKey cX2_requireKey 1 none, Cond.methodLink RX2 54 yX2_requireLanguage, Cond.static yX2_requireLanguage, Cond.code yX2_requireLanguage cX2_requireLanguage 1 none, Cond.methodLink RX2 188 yX2_requireGender, Cond.static yX2_requireGender, Cond.code yX2_requireGender cX2_requireGender 1 none, Cond.methodLink RX2 112 yX2_slotOf]
def wsL_nearSign_r2 : List Cond := [Cond.static yX2_slotOf, Cond.code yX2_slotOf cX2_slotOf 4 (some .int), Cond.methodLink RX2 133 yX2_textOf, Cond.static yX2_textOf, Cond.code yX2_textOf cX2_textOf 2 (some .int), Cond.methodLink RX2 161 yX2_findNear, Cond.instanceMethod yX2_findNear, Cond.selects RX2 yX2_findNear yX2_findNear, Cond.code yX2_findNear cX2_findNear 8 (some (.object "PhraseCatalogue$Pair")), Cond.fieldLink RX2 47 "PhraseCatalogue" "past" "Ljava/util/ArrayList;", Cond.classLink RX2 166 "PhraseCatalogue$Pair", Cond.fieldLink RX2 239 "PhraseCatalogue$Pair" "language" "I", Cond.fieldLink RX2 165 "PhraseCatalogue$Pair" "old" "LPhraseCatalogue$Form;", Cond.methodLink RX2 157 yJx4a65c_size_8abf5, Cond.instanceMethod yJx4a65c_size_8abf5, Cond.selects RJx4a65c yJx4a65c_size_8abf5 yJx4a65c_size_8abf5, Cond.initialized RJx4a65c, Cond.code yJx4a65c_size_8abf5 cJx4a65c_size_8abf5 1 (some .int), Cond.fieldLink RJx4a65c 48 "java/util/ArrayList" "size" "I", Cond.methodLink RX2 236 yJx4a65c_get_915e3, Cond.instanceMethod yJx4a65c_get_915e3, Cond.selects RJx4a65c yJx4a65c_get_915e3 yJx4a65c_get_915e3, Cond.code yJx4a65c_get_915e3 cJx4a65c_get_915e3 2 (some (.object "java/lang/Object")), Cond.methodLink RJx4a65c 118 yJ15_checkIndex_7cf53]
def wsL_nearSign_r3 : List Cond := [Cond.static yJ15_checkIndex_7cf53, Cond.initialized RJ15, Cond.code yJ15_checkIndex_7cf53 cJ15_checkIndex_7cf53 2 (some .int), Cond.methodLink RJ15 105 yJ3_checkIndex_8e157, Cond.static yJ3_checkIndex_8e157, Cond.initialized RJ3, Cond.code yJ3_checkIndex_8e157 cJ3_checkIndex_8e157 3 (some .int), Cond.methodLink RJx4a65c 123 yJx4a65c_elementData_915e3, Cond.instanceMethod yJx4a65c_elementData_915e3, Cond.selects RJx4a65c yJx4a65c_elementData_915e3 yJx4a65c_elementData_915e3, Cond.code yJx4a65c_elementData_915e3 cJx4a65c_elementData_915e3 2 (some (.object "java/lang/Object")), Cond.fieldLink RJx4a65c 9 "java/util/ArrayList" "elementData" "[Ljava/lang/Object;", Cond.methodLink RX2 171 yX2_distance, Cond.instanceMethod yX2_distance, Cond.selects RX2 yX2_distance yX2_distance, Cond.code yX2_distance cX2_distance 7 (some .int), Cond.fieldLink RX2 51 "PhraseCatalogue" "distanceRow" "[I", Cond.methodLink RX2 242 Lib.Math.min.name, Cond.static Lib.Math.min.name, Cond.initialized "java/lang/Math", Cond.code Lib.Math.min.name Lib.Math.min.code 2 (some .int)]
def wsL_nearSign : List Cond := .codeWith yL_nearSign cL_nearSign 8 (some .int) [(0, 16, 19, 13)] :: ((wsL_nearSign_r1 ++ (wsL_nearSign_r2 ++ wsL_nearSign_r3)) ++ wsX20 ++ wsX10 ++ wsX00 ++ wsJx4a65c0 ++ (vx_atS RX2 62 "java/lang/IndexOutOfBoundsException" ["java/lang/RuntimeException", "java/lang/Exception"]).filter goodWord)
def wsL_law0_r1 : List Cond := [Cond.classLink RL 8 RX2, Cond.instantiable RX2 10, Cond.initialized RX2, Cond.classLink RL 74 RX3, Cond.instantiable RX3 21, Cond.initialized RX3, Cond.arrayClass .long, Cond.methodLink RL 73 yX2_init, Cond.instanceMethod yX2_init, Cond.code yX2_init cX2_init 1 none, Cond.methodLink RX2 1 objectInit, Cond.instanceMethod objectInit, Cond.code objectInit ⟨#[0xb1]⟩ 1 none, Cond.arrayClass .int, Cond.fieldLink RX2 9 "PhraseCatalogue" "fallbacks" "[I", Cond.fieldLink RX2 13 "PhraseCatalogue" "onesLimits" "[I", Cond.fieldLink RX2 16 "PhraseCatalogue" "fewLimits" "[I", Cond.fieldLink RX2 25 "PhraseCatalogue" "draftSigns" "[I", Cond.fieldLink RX2 28 "PhraseCatalogue" "draftLength" "I", Cond.classLink RX2 32 RX0, Cond.fieldLink RX2 34 "PhraseCatalogue" "formTable" "[LPhraseCatalogue$Form;", Cond.fieldLink RX2 38 "PhraseCatalogue" "sourceVersions" "[I", Cond.fieldLink RX2 41 "PhraseCatalogue" "seenVersions" "[I", Cond.classLink RX2 44 RJx4a65c]
def wsL_law0_r2 : List Cond := [Cond.instantiable RJx4a65c 3, Cond.initialized RJx4a65c, Cond.fieldLink RX2 47 "PhraseCatalogue" "past" "Ljava/util/ArrayList;", Cond.fieldLink RX2 51 "PhraseCatalogue" "distanceRow" "[I", Cond.methodLink RX2 19 yJ7_fill_53178, Cond.static yJ7_fill_53178, Cond.initialized RJ7, Cond.code yJ7_fill_53178 cJ7_fill_53178 4 none, Cond.methodLink RX2 46 yJx4a65c_init_da8c8, Cond.instanceMethod yJx4a65c_init_da8c8, Cond.code yJx4a65c_init_da8c8 cJx4a65c_init_da8c8 1 none, Cond.fieldLink RJx4a65c 39 "java/util/ArrayList" "DEFAULTCAPACITY_EMPTY_ELEMENTDATA" "[Ljava/lang/Object;", Cond.fieldLink RJx4a65c 9 "java/util/ArrayList" "elementData" "[Ljava/lang/Object;", Cond.methodLink RJx4a65c 1 yJxc12de_init_da8c8, Cond.instanceMethod yJxc12de_init_da8c8, Cond.initialized RJxc12de, Cond.code yJxc12de_init_da8c8 cJxc12de_init_da8c8 1 none, Cond.fieldLink RJxc12de 7 "java/util/AbstractList" "modCount" "I", Cond.methodLink RJxc12de 1 yJxa1e45_init_da8c8, Cond.instanceMethod yJxa1e45_init_da8c8, Cond.initialized RJxa1e45, Cond.code yJxa1e45_init_da8c8 cJxa1e45_init_da8c8 1 none, Cond.methodLink RJxa1e45 1 objectInit, Cond.methodLink RL 76 yX3_init]
def wsL_law0_r3 : List Cond := [Cond.instanceMethod yX3_init, Cond.code yX3_init cX3_init 2 none, Cond.methodLink RX3 1 objectInit, Cond.fieldLink RX3 7 "PhraseCatalogueModel" "fallbacks" "[I", Cond.fieldLink RX3 13 "PhraseCatalogueModel" "ones" "[I", Cond.fieldLink RX3 16 "PhraseCatalogueModel" "fews" "[I", Cond.fieldLink RX3 19 "PhraseCatalogueModel" "drafted" "[I", Cond.fieldLink RX3 22 "PhraseCatalogueModel" "lengths" "[I", Cond.arrayClass .boolean, Cond.fieldLink RX3 25 "PhraseCatalogueModel" "lax" "[Z", Cond.fieldLink RX3 29 "PhraseCatalogueModel" "signs" "[I", Cond.fieldLink RX3 32 "PhraseCatalogueModel" "versions" "[I", Cond.fieldLink RX3 35 "PhraseCatalogueModel" "changedAt" "[I", Cond.fieldLink RX3 38 "PhraseCatalogueModel" "pairLanguages" "[I", Cond.fieldLink RX3 41 "PhraseCatalogueModel" "oldLengths" "[I", Cond.fieldLink RX3 44 "PhraseCatalogueModel" "newLengths" "[I", Cond.fieldLink RX3 47 "PhraseCatalogueModel" "olds" "[I", Cond.fieldLink RX3 50 "PhraseCatalogueModel" "news" "[I", Cond.fieldLink RX3 53 "PhraseCatalogueModel" "above" "[I", Cond.fieldLink RX3 56 "PhraseCatalogueModel" "row" "[I", Cond.methodLink RL 77 yL_setFallback, Cond.static yL_setFallback, Cond.initialized RL, Cond.codeWith yL_setFallback cL_setFallback 5 (some .int) [(0, 10, 13, 13), (0, 10, 17, 15)]]
def wsL_law0_r4 : List Cond := [Cond.classLink RL 13 "java/lang/IndexOutOfBoundsException", Cond.classLink RL 15 "java/lang/IllegalArgumentException", Cond.methodLink RL 7 yX2_setFallback, Cond.instanceMethod yX2_setFallback, Cond.selects RX2 yX2_setFallback yX2_setFallback, Cond.code yX2_setFallback cX2_setFallback 4 (some .int), Cond.classLink RX2 58 "java/lang/IndexOutOfBoundsException", Cond.initialized "java/lang/IndexOutOfBoundsException", Cond.classLink RX2 69 "java/lang/IllegalArgumentException", Cond.initialized "java/lang/IllegalArgumentException", Cond.methodLink RX2 54 yX2_requireLanguage, Cond.static yX2_requireLanguage, Cond.code yX2_requireLanguage cX2_requireLanguage 1 none, Cond.methodLink RX2 65 yX2_chainPlace, Cond.instanceMethod yX2_chainPlace, Cond.selects RX2 yX2_chainPlace yX2_chainPlace, Cond.code yX2_chainPlace cX2_chainPlace 5 (some .int), Cond.methodLink RL 82 yX3_setFallback, Cond.instanceMethod yX3_setFallback, Cond.selects RX3 yX3_setFallback yX3_setFallback, Cond.code yX3_setFallback cX3_setFallback 5 (some .int), Cond.methodLink RX3 63 yX3_in, Cond.static yX3_in, Cond.code yX3_in cX3_in 3 (some .boolean)]
def wsL_law0_r5 : List Cond := [Cond.methodLink RX3 71 yX3_isLanguage, Cond.static yX3_isLanguage, Cond.code yX3_isLanguage cX3_isLanguage 1 (some .boolean), Cond.methodLink RX3 77 yX3_isInChain, Cond.instanceMethod yX3_isInChain, Cond.selects RX3 yX3_isInChain yX3_isInChain, Cond.code yX3_isInChain cX3_isInChain 4 (some .boolean), Cond.methodLink RX3 81 yX3_goes, Cond.instanceMethod yX3_goes, Cond.selects RX3 yX3_goes yX3_goes, Cond.code yX3_goes cX3_goes 4 (some .boolean), Cond.fieldLink RX3 59 "PhraseCatalogueModel" "last" "I", Cond.methodLink RL 83 yX3_thrown, Cond.instanceMethod yX3_thrown, Cond.selects RX3 yX3_thrown yX3_thrown, Cond.code yX3_thrown cX3_thrown 1 (some .int), Cond.methodLink RL 87 yL_setNumbers, Cond.static yL_setNumbers, Cond.codeWith yL_setNumbers cL_setNumbers 5 (some .int) [(0, 7, 10, 13), (0, 7, 14, 15)], Cond.methodLink RL 17 yX2_setNumbers, Cond.instanceMethod yX2_setNumbers, Cond.selects RX2 yX2_setNumbers yX2_setNumbers, Cond.code yX2_setNumbers cX2_setNumbers 4 none, Cond.methodLink RX2 74 yX2_requireNumberLimit]
def wsL_law0_r6 : List Cond := [Cond.static yX2_requireNumberLimit, Cond.code yX2_requireNumberLimit cX2_requireNumberLimit 1 none, Cond.methodLink RL 90 yX3_setNumbers, Cond.instanceMethod yX3_setNumbers, Cond.selects RX3 yX3_setNumbers yX3_setNumbers, Cond.code yX3_setNumbers cX3_setNumbers 4 none, Cond.methodLink RL 91 yL_sign, Cond.static yL_sign, Cond.codeWith yL_sign cL_sign 4 (some .int) [(0, 9, 12, 15), (0, 9, 15, 25)], Cond.classLink RL 25 "java/lang/IllegalStateException", Cond.methodLink RL 21 yX2_sign, Cond.instanceMethod yX2_sign, Cond.selects RX2 yX2_sign yX2_sign, Cond.code yX2_sign cX2_sign 2 (some .int), Cond.classLink RX2 86 "java/lang/IllegalStateException", Cond.initialized "java/lang/IllegalStateException", Cond.methodLink RX2 77 yX2_isWord, Cond.static yX2_isWord, Cond.code yX2_isWord cX2_isWord 1 (some .boolean), Cond.methodLink RX2 81 yX2_isPlaceholder, Cond.static yX2_isPlaceholder, Cond.code yX2_isPlaceholder cX2_isPlaceholder 1 (some .boolean), Cond.methodLink RL 94 yX3_sign, Cond.instanceMethod yX3_sign]
def wsL_law0_r7 : List Cond := [Cond.selects RX3 yX3_sign yX3_sign, Cond.code yX3_sign cX3_sign 2 (some .int), Cond.fieldLink RX3 85 "PhraseCatalogueModel" "draft" "I", Cond.methodLink RL 95 yL_set, Cond.static yL_set, Cond.codeWith yL_set cL_set 8 (some .int) [(0, 16, 19, 13), (0, 16, 23, 25)], Cond.methodLink RL 27 yX2_set, Cond.instanceMethod yX2_set, Cond.selects RX2 yX2_set yX2_set, Cond.code yX2_set cX2_set 7 (some .int), Cond.instantiable RX0 3, Cond.initialized RX0, Cond.methodLink RX2 91 yX2_requireForm, Cond.static yX2_requireForm, Cond.code yX2_requireForm cX2_requireForm 4 none, Cond.methodLink RX2 127 yX2_requireKey, Cond.static yX2_requireKey, Cond.code yX2_requireKey cX2_requireKey 1 none, Cond.methodLink RX2 188 yX2_requireGender, Cond.static yX2_requireGender, Cond.code yX2_requireGender cX2_requireGender 1 none, Cond.methodLink RX2 97 yJ7_copyOf_59c91, Cond.static yJ7_copyOf_59c91, Cond.code yJ7_copyOf_59c91 cJ7_copyOf_59c91 3 (some (.array .int))]
def wsL_law0_r8 : List Cond := [Cond.methodLink RJ7 316 ⟨"[I", "clone", "()Ljava/lang/Object;"⟩, Cond.sameMethod "[I" "java/lang/Object" "clone" "()Ljava/lang/Object;", Cond.native ⟨"java/lang/Object", "clone", "()Ljava/lang/Object;"⟩, Cond.instanceMethod ⟨"java/lang/Object", "clone", "()Ljava/lang/Object;"⟩, Cond.selects "[I" ⟨"[I", "clone", "()Ljava/lang/Object;"⟩ ⟨"java/lang/Object", "clone", "()Ljava/lang/Object;"⟩, Cond.classLink RJ7 317 "[I", Cond.methodLink RJ7 304 Lib.Math.min.name, Cond.static Lib.Math.min.name, Cond.initialized "java/lang/Math", Cond.code Lib.Math.min.name Lib.Math.min.code 2 (some .int), Cond.methodLink RJ7 150 arraycopyName, Cond.native arraycopyName, Cond.static arraycopyName, Cond.initialized "java/lang/System", Cond.methodLink RX2 101 yX2_placeholdersOf, Cond.static yX2_placeholdersOf, Cond.code yX2_placeholdersOf cX2_placeholdersOf 3 (some .int), Cond.methodLink RX2 105 yX0_init, Cond.instanceMethod yX0_init, Cond.code yX0_init cX0_init 4 none, Cond.methodLink RX0 1 objectInit, Cond.fieldLink RX0 7 "PhraseCatalogue$Form" "signs" "[I", Cond.fieldLink RX0 13 "PhraseCatalogue$Form" "mayLack" "Z", Cond.fieldLink RX0 17 "PhraseCatalogue$Form" "placeholders" "I"]
def wsL_law0_r9 : List Cond := [Cond.methodLink RX2 108 yX2_change, Cond.instanceMethod yX2_change, Cond.selects RX2 yX2_change yX2_change, Cond.code yX2_change cX2_change 7 none, Cond.methodLink RX2 112 yX2_slotOf, Cond.static yX2_slotOf, Cond.code yX2_slotOf cX2_slotOf 4 (some .int), Cond.methodLink RX2 133 yX2_textOf, Cond.static yX2_textOf, Cond.code yX2_textOf cX2_textOf 2 (some .int), Cond.methodLink RX2 195 yX2_keepPairs, Cond.instanceMethod yX2_keepPairs, Cond.selects RX2 yX2_keepPairs yX2_keepPairs, Cond.code yX2_keepPairs cX2_keepPairs 7 none, Cond.classLink RX2 166 RX1, Cond.instantiable RX1 3, Cond.initialized RX1, Cond.methodLink RX2 221 yX1_init, Cond.instanceMethod yX1_init, Cond.code yX1_init cX1_init 4 none, Cond.methodLink RX1 1 objectInit, Cond.fieldLink RX1 7 "PhraseCatalogue$Pair" "language" "I", Cond.fieldLink RX1 13 "PhraseCatalogue$Pair" "old" "LPhraseCatalogue$Form;", Cond.fieldLink RX1 17 "PhraseCatalogue$Pair" "translation" "LPhraseCatalogue$Form;"]
def wsL_law0_r10 : List Cond := [Cond.methodLink RX2 224 yX2_keepPair, Cond.instanceMethod yX2_keepPair, Cond.selects RX2 yX2_keepPair yX2_keepPair, Cond.code yX2_keepPair cX2_keepPair 2 none, Cond.methodLink RX2 157 yJx4a65c_size_8abf5, Cond.instanceMethod yJx4a65c_size_8abf5, Cond.selects RJx4a65c yJx4a65c_size_8abf5 yJx4a65c_size_8abf5, Cond.code yJx4a65c_size_8abf5 cJx4a65c_size_8abf5 1 (some .int), Cond.fieldLink RJx4a65c 48 "java/util/ArrayList" "size" "I", Cond.methodLink RX2 228 yJx4a65c_remove_915e3, Cond.instanceMethod yJx4a65c_remove_915e3, Cond.selects RJx4a65c yJx4a65c_remove_915e3 yJx4a65c_remove_915e3, Cond.code yJx4a65c_remove_915e3 cJx4a65c_remove_915e3 4 (some (.object "java/lang/Object")), Cond.methodLink RJx4a65c 118 yJ15_checkIndex_7cf53, Cond.static yJ15_checkIndex_7cf53, Cond.initialized RJ15, Cond.code yJ15_checkIndex_7cf53 cJ15_checkIndex_7cf53 2 (some .int), Cond.methodLink RJ15 105 yJ3_checkIndex_8e157, Cond.static yJ3_checkIndex_8e157, Cond.initialized RJ3, Cond.code yJ3_checkIndex_8e157 cJ3_checkIndex_8e157 3 (some .int), Cond.methodLink RJx4a65c 144 yJx4a65c_fastRemove_b59b0, Cond.instanceMethod yJx4a65c_fastRemove_b59b0, Cond.selects RJx4a65c yJx4a65c_fastRemove_b59b0 yJx4a65c_fastRemove_b59b0]
def wsL_law0_r11 : List Cond := [Cond.code yJx4a65c_fastRemove_b59b0 cJx4a65c_fastRemove_b59b0 4 none, Cond.fieldLink RJx4a65c 63 "java/util/ArrayList" "modCount" "I", Cond.sameField "java/util/ArrayList" "java/util/AbstractList" "modCount" "I", Cond.methodLink RJx4a65c 112 arraycopyName, Cond.methodLink RX2 232 yJx4a65c_add_9ea2d, Cond.instanceMethod yJx4a65c_add_9ea2d, Cond.selects RJx4a65c yJx4a65c_add_9ea2d yJx4a65c_add_9ea2d, Cond.code yJx4a65c_add_9ea2d cJx4a65c_add_9ea2d 2 (some .boolean), Cond.methodLink RJx4a65c 131 yJx4a65c_add_72be8, Cond.instanceMethod yJx4a65c_add_72be8, Cond.selects RJx4a65c yJx4a65c_add_72be8 yJx4a65c_add_72be8, Cond.code yJx4a65c_add_72be8 cJx4a65c_add_72be8 4 none, Cond.methodLink RJx4a65c 129 yJx4a65c_grow_d5877, Cond.instanceMethod yJx4a65c_grow_d5877, Cond.selects RJx4a65c yJx4a65c_grow_d5877 yJx4a65c_grow_d5877, Cond.code yJx4a65c_grow_d5877 cJx4a65c_grow_d5877 1 (some (.array (.object "java/lang/Object"))), Cond.methodLink RJx4a65c 69 yJx4a65c_grow_92f84, Cond.instanceMethod yJx4a65c_grow_92f84, Cond.selects RJx4a65c yJx4a65c_grow_92f84 yJx4a65c_grow_92f84, Cond.code yJx4a65c_grow_92f84 cJx4a65c_grow_92f84 4 (some (.array (.object "java/lang/Object"))), Cond.methodLink RJx4a65c 79 Lib.Math.max.name, Cond.static Lib.Math.max.name, Cond.code Lib.Math.max.name Lib.Math.max.code 2 (some .int), Cond.classLink RJx4a65c 7 "java/lang/Object"]
def wsL_law0_r12 : List Cond := [Cond.methodLink RJx4a65c 73 yJ8_newLength_cabcc, Cond.static yJ8_newLength_cabcc, Cond.initialized RJ8, Cond.code yJ8_newLength_cabcc cJ8_newLength_cabcc 4 (some .int), Cond.methodLink RJ8 194 Lib.Math.max.name, Cond.constant RJ8 200 (2147483639), Cond.methodLink RJ8 201 yJ8_hugeLength_7cf53, Cond.static yJ8_hugeLength_7cf53, Cond.code yJ8_hugeLength_7cf53 cJ8_hugeLength_7cf53 3 (some .int), Cond.methodLink RJx4a65c 66 yJ7_copyOf_1904c, Cond.static yJ7_copyOf_1904c, Cond.code yJ7_copyOf_1904c cJ7_copyOf_1904c 2 (some (.array (.object "java/lang/Object"))), Cond.methodLink RJ7 86 ⟨"java/lang/Object", "getClass", "()Ljava/lang/Class;"⟩, Cond.selects "[Ljava/lang/Object;" ⟨"java/lang/Object", "getClass", "()Ljava/lang/Class;"⟩ ⟨"java/lang/Object", "getClass", "()Ljava/lang/Class;"⟩, Cond.instanceMethod ⟨"java/lang/Object", "getClass", "()Ljava/lang/Class;"⟩, Cond.native ⟨"java/lang/Object", "getClass", "()Ljava/lang/Class;"⟩, Cond.methodLink RJ7 300 yJ7_copyOf_6403c, Cond.static yJ7_copyOf_6403c, Cond.code yJ7_copyOf_6403c cJ7_copyOf_6403c 4 (some (.array (.object "java/lang/Object"))), Cond.classLink RJ7 110 "[Ljava/lang/Object;", Cond.classLink RJ7 2 "java/lang/Object", Cond.methodLink RL 98 yX3_set, Cond.instanceMethod yX3_set, Cond.selects RX3 yX3_set yX3_set]
def wsL_law0_r13 : List Cond := [Cond.code yX3_set cX3_set 8 (some .int), Cond.methodLink RX3 98 yX3_isForm, Cond.static yX3_isForm, Cond.code yX3_isForm cX3_isForm 4 (some .boolean), Cond.methodLink RX3 67 yX3_isKey, Cond.static yX3_isKey, Cond.code yX3_isKey cX3_isKey 1 (some .boolean), Cond.methodLink RX3 74 yX3_isThird, Cond.static yX3_isThird, Cond.code yX3_isThird cX3_isThird 1 (some .boolean), Cond.methodLink RX3 102 yX3_at, Cond.static yX3_at, Cond.code yX3_at cX3_at 4 (some .int), Cond.methodLink RX3 106 yX3_changes, Cond.instanceMethod yX3_changes, Cond.selects RX3 yX3_changes yX3_changes, Cond.code yX3_changes cX3_changes 4 none, Cond.methodLink RX3 94 yX3_keeps, Cond.instanceMethod yX3_keeps, Cond.selects RX3 yX3_keeps yX3_keeps, Cond.code yX3_keeps cX3_keeps 7 none, Cond.fieldLink RX3 88 "PhraseCatalogueModel" "pairs" "I", Cond.methodLink RX3 91 yX3_forgets, Cond.instanceMethod yX3_forgets]
def wsL_law0_r14 : List Cond := [Cond.selects RX3 yX3_forgets yX3_forgets, Cond.code yX3_forgets cX3_forgets 2 none, Cond.methodLink RL 99 yL_remove, Cond.static yL_remove, Cond.codeWith yL_remove cL_remove 7 (some .int) [(0, 14, 17, 13), (0, 14, 21, 25)], Cond.methodLink RL 31 yX2_remove, Cond.instanceMethod yX2_remove, Cond.selects RX2 yX2_remove yX2_remove, Cond.code yX2_remove cX2_remove 6 (some .int), Cond.fieldLink RX2 118 "PhraseCatalogue$Form" "signs" "[I", Cond.methodLink RL 102 yX3_remove, Cond.instanceMethod yX3_remove, Cond.selects RX3 yX3_remove yX3_remove, Cond.code yX3_remove cX3_remove 8 (some .int), Cond.methodLink RL 103 yX2_draft, Cond.instanceMethod yX2_draft, Cond.selects RX2 yX2_draft yX2_draft, Cond.code yX2_draft cX2_draft 1 (some .int), Cond.methodLink RL 106 yX3_draft, Cond.instanceMethod yX3_draft, Cond.selects RX3 yX3_draft yX3_draft, Cond.code yX3_draft cX3_draft 1 (some .int), Cond.methodLink RL 107 yL_kindOf, Cond.static yL_kindOf]
def wsL_law0_r15 : List Cond := [Cond.codeWith yL_kindOf cL_kindOf 5 (some .int) [(0, 10, 13, 13), (0, 10, 17, 15)], Cond.methodLink RL 35 yX2_kindOf, Cond.instanceMethod yX2_kindOf, Cond.selects RX2 yX2_kindOf yX2_kindOf, Cond.code yX2_kindOf cX2_kindOf 3 (some .int), Cond.methodLink RX2 121 yX2_requireNumber, Cond.static yX2_requireNumber, Cond.code yX2_requireNumber cX2_requireNumber 1 none, Cond.methodLink RX2 124 yX2_classOf, Cond.instanceMethod yX2_classOf, Cond.selects RX2 yX2_classOf yX2_classOf, Cond.code yX2_classOf cX2_classOf 3 (some .int), Cond.methodLink RL 109 yX3_kindOf, Cond.instanceMethod yX3_kindOf, Cond.selects RX3 yX3_kindOf yX3_kindOf, Cond.code yX3_kindOf cX3_kindOf 3 (some .int), Cond.methodLink RX3 110 yX3_kind, Cond.instanceMethod yX3_kind, Cond.selects RX3 yX3_kind yX3_kind, Cond.code yX3_kind cX3_kind 3 (some .int), Cond.methodLink RL 110 yL_forms, Cond.static yL_forms, Cond.codeWith yL_forms cL_forms 5 (some .int) [(0, 10, 13, 13)], Cond.methodLink RL 38 yX2_forms]
def wsL_law0_r16 : List Cond := [Cond.instanceMethod yX2_forms, Cond.selects RX2 yX2_forms yX2_forms, Cond.code yX2_forms cX2_forms 3 (some .int), Cond.methodLink RX2 130 yX2_countForms, Cond.instanceMethod yX2_countForms, Cond.selects RX2 yX2_countForms yX2_countForms, Cond.code yX2_countForms cX2_countForms 6 (some .int), Cond.methodLink RL 112 yX3_forms, Cond.instanceMethod yX3_forms, Cond.selects RX3 yX3_forms yX3_forms, Cond.code yX3_forms cX3_forms 3 (some .int), Cond.methodLink RX3 114 yX3_count, Cond.instanceMethod yX3_count, Cond.selects RX3 yX3_count yX3_count, Cond.code yX3_count cX3_count 5 (some .int), Cond.methodLink RL 113 yL_version, Cond.static yL_version, Cond.codeWith yL_version cL_version 4 (some .int) [(0, 9, 12, 13)], Cond.methodLink RL 41 yX2_version, Cond.instanceMethod yX2_version, Cond.selects RX2 yX2_version yX2_version, Cond.code yX2_version cX2_version 2 (some .int), Cond.methodLink RL 115 yX3_version, Cond.instanceMethod yX3_version]
def wsL_law0_r17 : List Cond := [Cond.selects RX3 yX3_version yX3_version, Cond.code yX3_version cX3_version 2 (some .int), Cond.methodLink RL 116 yL_staleBy, Cond.static yL_staleBy, Cond.codeWith yL_staleBy cL_staleBy 5 (some .int) [(0, 10, 13, 13)], Cond.methodLink RL 44 yX2_staleBy, Cond.instanceMethod yX2_staleBy, Cond.selects RX2 yX2_staleBy yX2_staleBy, Cond.code yX2_staleBy cX2_staleBy 3 (some .int), Cond.methodLink RL 118 yX3_staleBy, Cond.instanceMethod yX3_staleBy, Cond.selects RX3 yX3_staleBy yX3_staleBy, Cond.code yX3_staleBy cX3_staleBy 3 (some .int), Cond.methodLink RL 119 yL_missing, Cond.static yL_missing, Cond.codeWith yL_missing cL_missing 4 (some .int) [(0, 9, 12, 13)], Cond.methodLink RL 47 yX2_missing, Cond.instanceMethod yX2_missing, Cond.selects RX2 yX2_missing yX2_missing, Cond.code yX2_missing cX2_missing 4 (some .int), Cond.methodLink RL 121 yX3_missing, Cond.instanceMethod yX3_missing, Cond.selects RX3 yX3_missing yX3_missing, Cond.code yX3_missing cX3_missing 5 (some .int)]
def wsL_law0_r18 : List Cond := [Cond.methodLink RL 122 yL_fits, Cond.static yL_fits, Cond.codeWith yL_fits cL_fits 7 (some .int) [(0, 21, 24, 13)], Cond.methodLink RL 50 yX2_fits, Cond.instanceMethod yX2_fits, Cond.selects RX2 yX2_fits yX2_fits, Cond.code yX2_fits cX2_fits 5 (some .boolean), Cond.methodLink RX2 136 yX2_isFitting, Cond.instanceMethod yX2_isFitting, Cond.selects RX2 yX2_isFitting yX2_isFitting, Cond.code yX2_isFitting cX2_isFitting 6 (some .boolean), Cond.fieldLink RX2 199 "PhraseCatalogue$Form" "placeholders" "I", Cond.fieldLink RX2 205 "PhraseCatalogue$Form" "mayLack" "Z", Cond.methodLink RX2 202 yX2_sourcePlaceholders, Cond.instanceMethod yX2_sourcePlaceholders, Cond.selects RX2 yX2_sourcePlaceholders yX2_sourcePlaceholders, Cond.code yX2_sourcePlaceholders cX2_sourcePlaceholders 6 (some .int), Cond.methodLink RL 124 yX3_fits, Cond.instanceMethod yX3_fits, Cond.selects RX3 yX3_fits yX3_fits, Cond.code yX3_fits cX3_fits 6 (some .boolean), Cond.methodLink RX3 120 yX3_isFit, Cond.instanceMethod yX3_isFit, Cond.selects RX3 yX3_isFit yX3_isFit]
def wsL_law0_r19 : List Cond := [Cond.code yX3_isFit cX3_isFit 7 (some .boolean), Cond.methodLink RX3 117 yX3_has, Cond.instanceMethod yX3_has, Cond.selects RX3 yX3_has yX3_has, Cond.code yX3_has cX3_has 5 (some .boolean), Cond.methodLink RL 125 yL_toldBy, Cond.static yL_toldBy, Cond.codeWith yL_toldBy cL_toldBy 7 (some .int) [(0, 14, 17, 13), (0, 14, 21, 15)], Cond.methodLink RL 54 yX2_toldBy, Cond.instanceMethod yX2_toldBy, Cond.selects RX2 yX2_toldBy yX2_toldBy, Cond.code yX2_toldBy cX2_toldBy 5 (some .int), Cond.methodLink RX2 140 yX2_requireQuestion, Cond.static yX2_requireQuestion, Cond.code yX2_requireQuestion cX2_requireQuestion 4 none, Cond.methodLink RX2 143 yX2_findAlongChain, Cond.instanceMethod yX2_findAlongChain, Cond.selects RX2 yX2_findAlongChain yX2_findAlongChain, Cond.code yX2_findAlongChain cX2_findAlongChain 8 (some .int), Cond.methodLink RX2 209 yX2_findInLanguage, Cond.instanceMethod yX2_findInLanguage, Cond.selects RX2 yX2_findInLanguage yX2_findInLanguage, Cond.code yX2_findInLanguage cX2_findInLanguage 6 (some .int), Cond.methodLink RX2 212 yX2_findInClass]
def wsL_law0_r20 : List Cond := [Cond.instanceMethod yX2_findInClass, Cond.selects RX2 yX2_findInClass yX2_findInClass, Cond.code yX2_findInClass cX2_findInClass 7 (some .int), Cond.methodLink RX2 146 yX2_languageOfSlot, Cond.static yX2_languageOfSlot, Cond.code yX2_languageOfSlot cX2_languageOfSlot 1 (some .int), Cond.methodLink RL 127 yX3_toldBy, Cond.instanceMethod yX3_toldBy, Cond.selects RX3 yX3_toldBy yX3_toldBy, Cond.code yX3_toldBy cX3_toldBy 5 (some .int), Cond.fieldLink RX3 123 "PhraseCatalogueModel" "toldAt" "I", Cond.fieldLink RX3 126 "PhraseCatalogueModel" "toldIn" "I", Cond.methodLink RX3 133 yX3_isAsked, Cond.instanceMethod yX3_isAsked, Cond.selects RX3 yX3_isAsked yX3_isAsked, Cond.code yX3_isAsked cX3_isAsked 6 (some .boolean), Cond.methodLink RX3 129 yX3_tells, Cond.instanceMethod yX3_tells, Cond.selects RX3 yX3_tells yX3_tells, Cond.code yX3_tells cX3_tells 9 none, Cond.methodLink RL 128 yL_toldByLooking, Cond.static yL_toldByLooking, Cond.codeWith yL_toldByLooking cL_toldByLooking 7 (some .int) [(0, 14, 17, 13), (0, 14, 21, 15)], Cond.methodLink RL 57 yX2_toldByLooking]
def wsL_law0_r21 : List Cond := [Cond.instanceMethod yX2_toldByLooking, Cond.selects RX2 yX2_toldByLooking yX2_toldByLooking, Cond.code yX2_toldByLooking cX2_toldByLooking 5 (some .int), Cond.methodLink RX2 150 yX2_findByLooking, Cond.instanceMethod yX2_findByLooking, Cond.selects RX2 yX2_findByLooking yX2_findByLooking, Cond.code yX2_findByLooking cX2_findByLooking 10 (some .int), Cond.methodLink RX2 215 yX2_turnOf, Cond.instanceMethod yX2_turnOf, Cond.selects RX2 yX2_turnOf yX2_turnOf, Cond.code yX2_turnOf cX2_turnOf 9 (some .int), Cond.methodLink RX2 218 yX2_tryOf, Cond.static yX2_tryOf, Cond.code yX2_tryOf cX2_tryOf 4 (some .int), Cond.methodLink RL 130 yX3_toldByLooking, Cond.instanceMethod yX3_toldByLooking, Cond.selects RX3 yX3_toldByLooking yX3_toldByLooking, Cond.code yX3_toldByLooking cX3_toldByLooking 5 (some .int), Cond.methodLink RX3 136 yX3_toldBy, Cond.methodLink RL 131 yL_toldForm, Cond.static yL_toldForm, Cond.codeWith yL_toldForm cL_toldForm 7 (some .int) [(0, 14, 17, 13), (0, 14, 21, 15)], Cond.methodLink RL 60 yX2_toldForm, Cond.instanceMethod yX2_toldForm]
def wsL_law0_r22 : List Cond := [Cond.selects RX2 yX2_toldForm yX2_toldForm, Cond.code yX2_toldForm cX2_toldForm 6 (some .int), Cond.methodLink RL 133 yX3_toldForm, Cond.instanceMethod yX3_toldForm, Cond.selects RX3 yX3_toldForm yX3_toldForm, Cond.code yX3_toldForm cX3_toldForm 5 (some .int), Cond.methodLink RL 134 yL_toldSign, Cond.static yL_toldSign, Cond.codeWith yL_toldSign cL_toldSign 8 (some .int) [(0, 16, 19, 13), (0, 16, 23, 15)], Cond.methodLink RL 63 yX2_toldSign, Cond.instanceMethod yX2_toldSign, Cond.selects RX2 yX2_toldSign yX2_toldSign, Cond.code yX2_toldSign cX2_toldSign 8 (some .int), Cond.methodLink RL 137 yX3_toldSign, Cond.instanceMethod yX3_toldSign, Cond.selects RX3 yX3_toldSign yX3_toldSign, Cond.code yX3_toldSign cX3_toldSign 7 (some .int), Cond.methodLink RL 138 yX2_pairs, Cond.instanceMethod yX2_pairs, Cond.selects RX2 yX2_pairs yX2_pairs, Cond.code yX2_pairs cX2_pairs 1 (some .int), Cond.methodLink RL 141 yX3_pairs, Cond.instanceMethod yX3_pairs, Cond.selects RX3 yX3_pairs yX3_pairs]
def wsL_law0_r23 : List Cond := [Cond.code yX3_pairs cX3_pairs 1 (some .int), Cond.methodLink RL 142 yL_nearDistance, Cond.static yL_nearDistance, Cond.codeWith yL_nearDistance cL_nearDistance 7 (some .int) [(0, 14, 17, 13)], Cond.methodLink RL 67 yX2_nearDistance, Cond.instanceMethod yX2_nearDistance, Cond.selects RX2 yX2_nearDistance yX2_nearDistance, Cond.code yX2_nearDistance cX2_nearDistance 7 (some .int), Cond.fieldLink RX2 165 "PhraseCatalogue$Pair" "old" "LPhraseCatalogue$Form;", Cond.methodLink RX2 161 yX2_findNear, Cond.instanceMethod yX2_findNear, Cond.selects RX2 yX2_findNear yX2_findNear, Cond.code yX2_findNear cX2_findNear 8 (some (.object "PhraseCatalogue$Pair")), Cond.classLink RX2 166 "PhraseCatalogue$Pair", Cond.fieldLink RX2 239 "PhraseCatalogue$Pair" "language" "I", Cond.methodLink RX2 236 yJx4a65c_get_915e3, Cond.instanceMethod yJx4a65c_get_915e3, Cond.selects RJx4a65c yJx4a65c_get_915e3 yJx4a65c_get_915e3, Cond.code yJx4a65c_get_915e3 cJx4a65c_get_915e3 2 (some (.object "java/lang/Object")), Cond.methodLink RJx4a65c 123 yJx4a65c_elementData_915e3, Cond.instanceMethod yJx4a65c_elementData_915e3, Cond.selects RJx4a65c yJx4a65c_elementData_915e3 yJx4a65c_elementData_915e3, Cond.code yJx4a65c_elementData_915e3 cJx4a65c_elementData_915e3 2 (some (.object "java/lang/Object")), Cond.methodLink RX2 171 yX2_distance]
def wsL_law0_r24 : List Cond := [Cond.instanceMethod yX2_distance, Cond.selects RX2 yX2_distance yX2_distance, Cond.code yX2_distance cX2_distance 7 (some .int), Cond.methodLink RX2 242 Lib.Math.min.name, Cond.methodLink RL 144 yX3_nearDistance, Cond.instanceMethod yX3_nearDistance, Cond.selects RX3 yX3_nearDistance yX3_nearDistance, Cond.code yX3_nearDistance cX3_nearDistance 6 (some .int), Cond.methodLink RX3 142 yX3_near, Cond.instanceMethod yX3_near, Cond.selects RX3 yX3_near yX3_near, Cond.code yX3_near cX3_near 9 (some .int), Cond.methodLink RX3 139 yX3_distance, Cond.instanceMethod yX3_distance, Cond.selects RX3 yX3_distance yX3_distance, Cond.code yX3_distance cX3_distance 6 (some .int), Cond.methodLink RL 145 yL_nearSign, Cond.static yL_nearSign, Cond.codeWith yL_nearSign cL_nearSign 8 (some .int) [(0, 16, 19, 13)], Cond.methodLink RL 70 yX2_nearSign, Cond.instanceMethod yX2_nearSign, Cond.selects RX2 yX2_nearSign yX2_nearSign, Cond.code yX2_nearSign cX2_nearSign 7 (some .int), Cond.fieldLink RX2 177 "PhraseCatalogue$Pair" "translation" "LPhraseCatalogue$Form;"]
def wsL_law0_r25 : List Cond := [Cond.methodLink RL 147 yX3_nearSign, Cond.instanceMethod yX3_nearSign, Cond.selects RX3 yX3_nearSign yX3_nearSign, Cond.code yX3_nearSign cX3_nearSign 7 (some .int)]
def wsL_law0 : List Cond := (wsL_law0_r1 ++ (wsL_law0_r2 ++ (wsL_law0_r3 ++ (wsL_law0_r4 ++ (wsL_law0_r5 ++ (wsL_law0_r6 ++ (wsL_law0_r7 ++ (wsL_law0_r8 ++ (wsL_law0_r9 ++ (wsL_law0_r10 ++ (wsL_law0_r11 ++ (wsL_law0_r12 ++ (wsL_law0_r13 ++ (wsL_law0_r14 ++ (wsL_law0_r15 ++ (wsL_law0_r16 ++ (wsL_law0_r17 ++ (wsL_law0_r18 ++ (wsL_law0_r19 ++ (wsL_law0_r20 ++ (wsL_law0_r21 ++ (wsL_law0_r22 ++ (wsL_law0_r23 ++ (wsL_law0_r24 ++ wsL_law0_r25)))))))))))))))))))))))) ++ wsX20 ++ wsX30 ++ wsJx4a65c0 ++ wsX00 ++ wsX10 ++ ([] : List Cond)
def wsL_law : List Cond := wsL_law0 ++ (vx_atS RX2 62 "java/lang/IndexOutOfBoundsException" ["java/lang/RuntimeException", "java/lang/Exception"]).filter goodWord ++ (vx_atS RX2 73 "java/lang/IllegalArgumentException" ["java/lang/RuntimeException", "java/lang/Exception"]).filter goodWord ++ (vx_atS RX2 90 "java/lang/IllegalStateException" ["java/lang/RuntimeException", "java/lang/Exception"]).filter goodWord
end
section
set_option maxRecDepth 20000 in
theorem in_wsL_law0_r1 : ∀ w ∈ wsL_law0_r1, w ∈ lw_tbl := fun w h => (goodIn_p wsL_law0_r1 [57, 60] (by decide +kernel) (by decide +kernel) w h).1
set_option maxRecDepth 20000 in
theorem in_wsL_law0_r2 : ∀ w ∈ wsL_law0_r2, w ∈ lw_tbl := fun w h => (goodIn_p wsL_law0_r2 [63, 70, 73, 76] (by decide +kernel) (by decide +kernel) w h).1
set_option maxRecDepth 20000 in
theorem in_wsL_law0_r3 : ∀ w ∈ wsL_law0_r3, w ∈ lw_tbl := fun w h => (goodIn_p wsL_law0_r3 [602] (by decide +kernel) (by decide +kernel) w h).1
set_option maxRecDepth 20000 in
theorem in_wsL_law0_r4 : ∀ w ∈ wsL_law0_r4, w ∈ lw_tbl := fun w h => (goodIn_p wsL_law0_r4 [144, 147, 220, 676, 679] (by decide +kernel) (by decide +kernel) w h).1
set_option maxRecDepth 20000 in
theorem in_wsL_law0_r5 : ∀ w ∈ wsL_law0_r5, w ∈ lw_tbl := fun w h => (goodIn_p wsL_law0_r5 [682, 686, 690, 672, 243] (by decide +kernel) (by decide +kernel) w h).1
set_option maxRecDepth 20000 in
theorem in_wsL_law0_r6 : ∀ w ∈ wsL_law0_r6, w ∈ lw_tbl := fun w h => (goodIn_p wsL_law0_r6 [246, 694, 255, 258, 261] (by decide +kernel) (by decide +kernel) w h).1
set_option maxRecDepth 20000 in
theorem in_wsL_law0_r7 : ∀ w ∈ wsL_law0_r7, w ∈ lw_tbl := fun w h => (goodIn_p wsL_law0_r7 [698, 285, 288, 291, 296, 301] (by decide +kernel) (by decide +kernel) w h).1
set_option maxRecDepth 20000 in
theorem in_wsL_law0_r8 : ∀ w ∈ wsL_law0_r8, w ∈ lw_tbl := fun w h => (goodIn_p wsL_law0_r8 [311, 318, 321] (by decide +kernel) (by decide +kernel) w h).1
set_option maxRecDepth 20000 in
theorem in_wsL_law0_r9 : ∀ w ∈ wsL_law0_r9, w ∈ lw_tbl := fun w h => (goodIn_p wsL_law0_r9 [339, 342, 345, 349, 354] (by decide +kernel) (by decide +kernel) w h).1
end
section
set_option maxRecDepth 20000 in
theorem in_wsL_law0_r10 : ∀ w ∈ wsL_law0_r10, w ∈ lw_tbl := fun w h => (goodIn_p wsL_law0_r10 [372, 135, 376, 379, 382] (by decide +kernel) (by decide +kernel) w h).1
set_option maxRecDepth 20000 in
theorem in_wsL_law0_r11 : ∀ w ∈ wsL_law0_r11, w ∈ lw_tbl := fun w h => (goodIn_p wsL_law0_r11 [386, 391, 395, 399, 403, 409] (by decide +kernel) (by decide +kernel) w h).1
set_option maxRecDepth 20000 in
theorem in_wsL_law0_r12 : ∀ w ∈ wsL_law0_r12, w ∈ lw_tbl := fun w h => (goodIn_p wsL_law0_r12 [406, 413, 416, 431] (by decide +kernel) (by decide +kernel) w h).1
set_option maxRecDepth 20000 in
theorem in_wsL_law0_r13 : ∀ w ∈ wsL_law0_r13, w ∈ lw_tbl := fun w h => (goodIn_p wsL_law0_r13 [702, 705, 708, 711, 714, 718, 722] (by decide +kernel) (by decide +kernel) w h).1
set_option maxRecDepth 20000 in
theorem in_wsL_law0_r14 : ∀ w ∈ wsL_law0_r14, w ∈ lw_tbl := fun w h => (goodIn_p wsL_law0_r14 [726, 443, 730, 127, 734] (by decide +kernel) (by decide +kernel) w h).1
set_option maxRecDepth 20000 in
theorem in_wsL_law0_r15 : ∀ w ∈ wsL_law0_r15, w ∈ lw_tbl := fun w h => (goodIn_p wsL_law0_r15 [451, 454, 459, 738, 742] (by decide +kernel) (by decide +kernel) w h).1
set_option maxRecDepth 20000 in
theorem in_wsL_law0_r16 : ∀ w ∈ wsL_law0_r16, w ∈ lw_tbl := fun w h => (goodIn_p wsL_law0_r16 [466, 470, 746, 750, 477] (by decide +kernel) (by decide +kernel) w h).1
set_option maxRecDepth 20000 in
theorem in_wsL_law0_r17 : ∀ w ∈ wsL_law0_r17, w ∈ lw_tbl := fun w h => (goodIn_p wsL_law0_r17 [754, 484, 758, 491, 762] (by decide +kernel) (by decide +kernel) w h).1
set_option maxRecDepth 20000 in
theorem in_wsL_law0_r18 : ∀ w ∈ wsL_law0_r18, w ∈ lw_tbl := fun w h => (goodIn_p wsL_law0_r18 [498, 502, 506, 766] (by decide +kernel) (by decide +kernel) w h).1
end
section
set_option maxRecDepth 20000 in
theorem in_wsL_law0_r19 : ∀ w ∈ wsL_law0_r19, w ∈ lw_tbl := fun w h => (goodIn_p wsL_law0_r19 [770, 774, 513, 516, 520, 524] (by decide +kernel) (by decide +kernel) w h).1
set_option maxRecDepth 20000 in
theorem in_wsL_law0_r20 : ∀ w ∈ wsL_law0_r20, w ∈ lw_tbl := fun w h => (goodIn_p wsL_law0_r20 [528, 531, 778, 782, 786] (by decide +kernel) (by decide +kernel) w h).1
set_option maxRecDepth 20000 in
theorem in_wsL_law0_r21 : ∀ w ∈ wsL_law0_r21, w ∈ lw_tbl := fun w h => (goodIn_p wsL_law0_r21 [538, 542, 546, 549, 790] (by decide +kernel) (by decide +kernel) w h).1
set_option maxRecDepth 20000 in
theorem in_wsL_law0_r22 : ∀ w ∈ wsL_law0_r22, w ∈ lw_tbl := fun w h => (goodIn_p wsL_law0_r22 [556, 795, 563, 799, 131] (by decide +kernel) (by decide +kernel) w h).1
set_option maxRecDepth 20000 in
theorem in_wsL_law0_r23 : ∀ w ∈ wsL_law0_r23, w ∈ lw_tbl := fun w h => (goodIn_p wsL_law0_r23 [803, 572, 576, 580, 584] (by decide +kernel) (by decide +kernel) w h).1
set_option maxRecDepth 20000 in
theorem in_wsL_law0_r24 : ∀ w ∈ wsL_law0_r24, w ∈ lw_tbl := fun w h => (goodIn_p wsL_law0_r24 [588, 807, 811, 815, 596] (by decide +kernel) (by decide +kernel) w h).1
set_option maxRecDepth 20000 in
theorem in_wsL_law0_r25 : ∀ w ∈ wsL_law0_r25, w ∈ lw_tbl := fun w h => (goodIn_p wsL_law0_r25 [819] (by decide +kernel) (by decide +kernel) w h).1
set_option maxRecDepth 20000 in
theorem in_wsX20 : ∀ w ∈ wsX20, w ∈ lw_tbl := by decide +kernel
set_option maxRecDepth 20000 in
theorem in_wsX30 : ∀ w ∈ wsX30, w ∈ lw_tbl := by decide +kernel
end
section
set_option maxRecDepth 20000 in
theorem in_wsJx4a65c0 : ∀ w ∈ wsJx4a65c0, w ∈ lw_tbl := by decide +kernel
set_option maxRecDepth 20000 in
theorem in_wsX00 : ∀ w ∈ wsX00, w ∈ lw_tbl := by decide +kernel
set_option maxRecDepth 20000 in
theorem in_wsX10 : ∀ w ∈ wsX10, w ∈ lw_tbl := by decide +kernel
end
section
theorem wsL_law_x0 : ∀ w ∈ (vx_atS RX2 62 "java/lang/IndexOutOfBoundsException" ["java/lang/RuntimeException", "java/lang/Exception"]).filter goodWord, w ∈ lw_tbl := by decide +kernel
theorem wsL_law_x1 : ∀ w ∈ (vx_atS RX2 73 "java/lang/IllegalArgumentException" ["java/lang/RuntimeException", "java/lang/Exception"]).filter goodWord, w ∈ lw_tbl := by decide +kernel
theorem wsL_law_x2 : ∀ w ∈ (vx_atS RX2 90 "java/lang/IllegalStateException" ["java/lang/RuntimeException", "java/lang/Exception"]).filter goodWord, w ∈ lw_tbl := by decide +kernel
end
section
theorem wsL_law_in0 : ∀ w ∈ wsL_law0, w ∈ lw_tbl := fun w h => (List.mem_append.mp h).elim (fun h => (List.mem_append.mp h).elim (fun h => (List.mem_append.mp h).elim (fun h => (List.mem_append.mp h).elim (fun h => (List.mem_append.mp h).elim (fun h => (List.mem_append.mp h).elim (fun h => (List.mem_append.mp h).elim (fun h => in_wsL_law0_r1 w h) (fun h => (List.mem_append.mp h).elim (fun h => in_wsL_law0_r2 w h) (fun h => (List.mem_append.mp h).elim (fun h => in_wsL_law0_r3 w h) (fun h => (List.mem_append.mp h).elim (fun h => in_wsL_law0_r4 w h) (fun h => (List.mem_append.mp h).elim (fun h => in_wsL_law0_r5 w h) (fun h => (List.mem_append.mp h).elim (fun h => in_wsL_law0_r6 w h) (fun h => (List.mem_append.mp h).elim (fun h => in_wsL_law0_r7 w h) (fun h => (List.mem_append.mp h).elim (fun h => in_wsL_law0_r8 w h) (fun h => (List.mem_append.mp h).elim (fun h => in_wsL_law0_r9 w h) (fun h => (List.mem_append.mp h).elim (fun h => in_wsL_law0_r10 w h) (fun h => (List.mem_append.mp h).elim (fun h => in_wsL_law0_r11 w h) (fun h => (List.mem_append.mp h).elim (fun h => in_wsL_law0_r12 w h) (fun h => (List.mem_append.mp h).elim (fun h => in_wsL_law0_r13 w h) (fun h => (List.mem_append.mp h).elim (fun h => in_wsL_law0_r14 w h) (fun h => (List.mem_append.mp h).elim (fun h => in_wsL_law0_r15 w h) (fun h => (List.mem_append.mp h).elim (fun h => in_wsL_law0_r16 w h) (fun h => (List.mem_append.mp h).elim (fun h => in_wsL_law0_r17 w h) (fun h => (List.mem_append.mp h).elim (fun h => in_wsL_law0_r18 w h) (fun h => (List.mem_append.mp h).elim (fun h => in_wsL_law0_r19 w h) (fun h => (List.mem_append.mp h).elim (fun h => in_wsL_law0_r20 w h) (fun h => (List.mem_append.mp h).elim (fun h => in_wsL_law0_r21 w h) (fun h => (List.mem_append.mp h).elim (fun h => in_wsL_law0_r22 w h) (fun h => (List.mem_append.mp h).elim (fun h => in_wsL_law0_r23 w h) (fun h => (List.mem_append.mp h).elim (fun h => in_wsL_law0_r24 w h) (fun h => in_wsL_law0_r25 w h))))))))))))))))))))))))) (fun h => in_wsX20 w h)) (fun h => in_wsX30 w h)) (fun h => in_wsJx4a65c0 w h)) (fun h => in_wsX00 w h)) (fun h => in_wsX10 w h)) (fun h => absurd h List.not_mem_nil)
theorem wsL_law_in : ∀ w ∈ wsL_law, w ∈ lw_tbl := fun w h => (List.mem_append.mp h).elim (fun h => (List.mem_append.mp h).elim (fun h => (List.mem_append.mp h).elim (fun h => wsL_law_in0 w h) (fun h => wsL_law_x0 w h)) (fun h => wsL_law_x1 w h)) (fun h => wsL_law_x2 w h)
theorem inlX0 : ∀ w ∈ wsX00, w ∈ wsL_law := fun _ h => List.mem_append_left _ (List.mem_append_left _ (List.mem_append_left _ (List.mem_append_left _ (List.mem_append_left _ (List.mem_append_right _ h)))))
theorem inX0 : ∀ w ∈ wsX00, w ∈ lw_tbl := fun w h => wsL_law_in w (inlX0 w h)
theorem inlX1 : ∀ w ∈ wsX10, w ∈ wsL_law := fun _ h => List.mem_append_left _ (List.mem_append_left _ (List.mem_append_left _ (List.mem_append_left _ (List.mem_append_right _ h))))
theorem inX1 : ∀ w ∈ wsX10, w ∈ lw_tbl := fun w h => wsL_law_in w (inlX1 w h)
theorem inlX2 : ∀ w ∈ wsX20, w ∈ wsL_law := fun _ h => List.mem_append_left _ (List.mem_append_left _ (List.mem_append_left _ (List.mem_append_left _ (List.mem_append_left _ (List.mem_append_left _ (List.mem_append_left _ (List.mem_append_left _ (List.mem_append_right _ h))))))))
theorem inX2 : ∀ w ∈ wsX20, w ∈ lw_tbl := fun w h => wsL_law_in w (inlX2 w h)
theorem inlX3 : ∀ w ∈ wsX30, w ∈ wsL_law := fun _ h => List.mem_append_left _ (List.mem_append_left _ (List.mem_append_left _ (List.mem_append_left _ (List.mem_append_left _ (List.mem_append_left _ (List.mem_append_left _ (List.mem_append_right _ h)))))))
theorem inX3 : ∀ w ∈ wsX30, w ∈ lw_tbl := fun w h => wsL_law_in w (inlX3 w h)
theorem inJx145de : ∀ w ∈ wsJx145de0, w ∈ lw_tbl := by decide +kernel
theorem inJx8e188 : ∀ w ∈ wsJx8e1880, w ∈ lw_tbl := by decide +kernel
theorem inJxab1ab : ∀ w ∈ wsJxab1ab0, w ∈ lw_tbl := by decide +kernel
theorem inJ9 : ∀ w ∈ wsJ90, w ∈ lw_tbl := by decide +kernel
theorem inJ0 : ∀ w ∈ wsJ00, w ∈ lw_tbl := by decide +kernel
theorem inJ10 : ∀ w ∈ wsJ100, w ∈ lw_tbl := by decide +kernel
theorem inJxa1e45 : ∀ w ∈ wsJxa1e450, w ∈ lw_tbl := by decide +kernel
theorem inJxc12de : ∀ w ∈ wsJxc12de0, w ∈ lw_tbl := by decide +kernel
theorem inlJx4a65c : ∀ w ∈ wsJx4a65c0, w ∈ wsL_law := fun _ h => List.mem_append_left _ (List.mem_append_left _ (List.mem_append_left _ (List.mem_append_left _ (List.mem_append_left _ (List.mem_append_left _ (List.mem_append_right _ h))))))
theorem inJx4a65c : ∀ w ∈ wsJx4a65c0, w ∈ lw_tbl := fun w h => wsL_law_in w (inlJx4a65c w h)
theorem inJ7 : ∀ w ∈ wsJ70, w ∈ lw_tbl := by decide +kernel
theorem inJx5ef63 : ∀ w ∈ wsJx5ef630, w ∈ lw_tbl := by decide +kernel
theorem inJxbd725 : ∀ w ∈ wsJxbd7250, w ∈ lw_tbl := by decide +kernel
theorem inJ15 : ∀ w ∈ wsJ150, w ∈ lw_tbl := by decide +kernel
theorem inJxf0a74 : ∀ w ∈ wsJxf0a740, w ∈ lw_tbl := by decide +kernel
theorem inJxa66e6 : ∀ w ∈ wsJxa66e60, w ∈ lw_tbl := by decide +kernel
theorem inJ8 : ∀ w ∈ wsJ80, w ∈ lw_tbl := by decide +kernel
theorem inJ3 : ∀ w ∈ wsJ30, w ∈ lw_tbl := by decide +kernel
theorem dX0_init_0 : decode cX0_init 0 = .ok (.aload_n 0, 1) := by decide +kernel
theorem dX0_init_1 : decode cX0_init 1 = .ok (.invokespecial 1, 3) := by decide +kernel
theorem dX0_init_4 : decode cX0_init 4 = .ok (.aload_n 0, 1) := by decide +kernel
theorem dX0_init_5 : decode cX0_init 5 = .ok (.aload_n 1, 1) := by decide +kernel
theorem dX0_init_6 : decode cX0_init 6 = .ok (.putfield 7, 3) := by decide +kernel
theorem dX0_init_9 : decode cX0_init 9 = .ok (.aload_n 0, 1) := by decide +kernel
theorem dX0_init_10 : decode cX0_init 10 = .ok (.iload_n 2, 1) := by decide +kernel
theorem dX0_init_11 : decode cX0_init 11 = .ok (.putfield 13, 3) := by decide +kernel
theorem dX0_init_14 : decode cX0_init 14 = .ok (.aload_n 0, 1) := by decide +kernel
theorem dX0_init_15 : decode cX0_init 15 = .ok (.iload_n 3, 1) := by decide +kernel
theorem dX0_init_16 : decode cX0_init 16 = .ok (.putfield 17, 3) := by decide +kernel
theorem dX0_init_19 : decode cX0_init 19 = .ok (.return_, 1) := by decide +kernel
theorem dX1_init_0 : decode cX1_init 0 = .ok (.aload_n 0, 1) := by decide +kernel
theorem dX1_init_1 : decode cX1_init 1 = .ok (.invokespecial 1, 3) := by decide +kernel
theorem dX1_init_4 : decode cX1_init 4 = .ok (.aload_n 0, 1) := by decide +kernel
theorem dX1_init_5 : decode cX1_init 5 = .ok (.iload_n 1, 1) := by decide +kernel
theorem dX1_init_6 : decode cX1_init 6 = .ok (.putfield 7, 3) := by decide +kernel
theorem dX1_init_9 : decode cX1_init 9 = .ok (.aload_n 0, 1) := by decide +kernel
theorem dX1_init_10 : decode cX1_init 10 = .ok (.aload_n 2, 1) := by decide +kernel
theorem dX1_init_11 : decode cX1_init 11 = .ok (.putfield 13, 3) := by decide +kernel
theorem dX1_init_14 : decode cX1_init 14 = .ok (.aload_n 0, 1) := by decide +kernel
theorem dX1_init_15 : decode cX1_init 15 = .ok (.aload_n 3, 1) := by decide +kernel
theorem dX1_init_16 : decode cX1_init 16 = .ok (.putfield 17, 3) := by decide +kernel
theorem dX1_init_19 : decode cX1_init 19 = .ok (.return_, 1) := by decide +kernel
set_option maxRecDepth 20000 in
theorem ggX2_init_J7_fill_53178 : GoodIn wsX2_init wsJ7_fill_53178 := goodIn_r _ [22] (by decide +kernel) (by decide +kernel)
set_option maxRecDepth 20000 in
theorem gX2_init_J7_fill_53178 : GoodIn wsX2_init (va_wsS RX2 19 yJ7_fill_53178 wsJ7_fill_53178) := goodIn_app (goodIn_of _ (by decide +kernel)) ggX2_init_J7_fill_53178
set_option maxRecDepth 20000 in
theorem ggX2_init_Jx4a65c_init_da8c8 : GoodIn wsX2_init wsJx4a65c_init_da8c8 := goodIn_r _ [25, 26, 27, 28, 29, 30, 31, 32, 33, 34, 35, 36, 37, 2, 3, 48, 49, 50] (by decide +kernel) (by decide +kernel)
set_option maxRecDepth 20000 in
theorem gX2_init_Jx4a65c_init_da8c8 : GoodIn wsX2_init (wsJx4a65c_init_da8c8) := ggX2_init_Jx4a65c_init_da8c8
theorem dX2_init_0 : decode cX2_init 0 = .ok (.aload_n 0, 1) := by decide +kernel
theorem dX2_init_1 : decode cX2_init 1 = .ok (.invokespecial 1, 3) := by decide +kernel
theorem dX2_init_4 : decode cX2_init 4 = .ok (.aload_n 0, 1) := by decide +kernel
theorem dX2_init_5 : decode cX2_init 5 = .ok (.bipush 6, 2) := by decide +kernel
theorem dX2_init_7 : decode cX2_init 7 = .ok (.newarray .int, 2) := by decide +kernel
theorem dX2_init_9 : decode cX2_init 9 = .ok (.putfield 9, 3) := by decide +kernel
theorem dX2_init_12 : decode cX2_init 12 = .ok (.aload_n 0, 1) := by decide +kernel
theorem dX2_init_13 : decode cX2_init 13 = .ok (.bipush 6, 2) := by decide +kernel
theorem dX2_init_15 : decode cX2_init 15 = .ok (.newarray .int, 2) := by decide +kernel
theorem dX2_init_17 : decode cX2_init 17 = .ok (.putfield 13, 3) := by decide +kernel
theorem dX2_init_20 : decode cX2_init 20 = .ok (.aload_n 0, 1) := by decide +kernel
theorem dX2_init_21 : decode cX2_init 21 = .ok (.bipush 6, 2) := by decide +kernel
theorem dX2_init_23 : decode cX2_init 23 = .ok (.newarray .int, 2) := by decide +kernel
theorem dX2_init_25 : decode cX2_init 25 = .ok (.putfield 16, 3) := by decide +kernel
theorem dX2_init_28 : decode cX2_init 28 = .ok (.aload_n 0, 1) := by decide +kernel
theorem dX2_init_29 : decode cX2_init 29 = .ok (.getfield 13, 3) := by decide +kernel
theorem dX2_init_32 : decode cX2_init 32 = .ok (.iconst 1, 1) := by decide +kernel
theorem dX2_init_33 : decode cX2_init 33 = .ok (.invokestatic 19, 3) := by decide +kernel
theorem dX2_init_36 : decode cX2_init 36 = .ok (.aload_n 0, 1) := by decide +kernel
theorem dX2_init_37 : decode cX2_init 37 = .ok (.getfield 16, 3) := by decide +kernel
theorem dX2_init_40 : decode cX2_init 40 = .ok (.iconst 1, 1) := by decide +kernel
theorem dX2_init_41 : decode cX2_init 41 = .ok (.invokestatic 19, 3) := by decide +kernel
theorem dX2_init_44 : decode cX2_init 44 = .ok (.aload_n 0, 1) := by decide +kernel
theorem dX2_init_45 : decode cX2_init 45 = .ok (.bipush 8, 2) := by decide +kernel
theorem dX2_init_47 : decode cX2_init 47 = .ok (.newarray .int, 2) := by decide +kernel
theorem dX2_init_49 : decode cX2_init 49 = .ok (.putfield 25, 3) := by decide +kernel
theorem dX2_init_52 : decode cX2_init 52 = .ok (.aload_n 0, 1) := by decide +kernel
theorem dX2_init_53 : decode cX2_init 53 = .ok (.iconst 0, 1) := by decide +kernel
theorem dX2_init_54 : decode cX2_init 54 = .ok (.putfield 28, 3) := by decide +kernel
theorem dX2_init_57 : decode cX2_init 57 = .ok (.aload_n 0, 1) := by decide +kernel
theorem dX2_init_58 : decode cX2_init 58 = .ok (.sipush 540, 3) := by decide +kernel
theorem dX2_init_61 : decode cX2_init 61 = .ok (.anewarray 32, 3) := by decide +kernel
theorem dX2_init_64 : decode cX2_init 64 = .ok (.putfield 34, 3) := by decide +kernel
theorem dX2_init_67 : decode cX2_init 67 = .ok (.aload_n 0, 1) := by decide +kernel
theorem dX2_init_68 : decode cX2_init 68 = .ok (.bipush 10, 2) := by decide +kernel
theorem dX2_init_70 : decode cX2_init 70 = .ok (.newarray .int, 2) := by decide +kernel
theorem dX2_init_72 : decode cX2_init 72 = .ok (.putfield 38, 3) := by decide +kernel
theorem dX2_init_75 : decode cX2_init 75 = .ok (.aload_n 0, 1) := by decide +kernel
theorem dX2_init_76 : decode cX2_init 76 = .ok (.bipush 60, 2) := by decide +kernel
theorem dX2_init_78 : decode cX2_init 78 = .ok (.newarray .int, 2) := by decide +kernel
theorem dX2_init_80 : decode cX2_init 80 = .ok (.putfield 41, 3) := by decide +kernel
theorem dX2_init_83 : decode cX2_init 83 = .ok (.aload_n 0, 1) := by decide +kernel
theorem dX2_init_84 : decode cX2_init 84 = .ok (.new 44, 3) := by decide +kernel
theorem dX2_init_87 : decode cX2_init 87 = .ok (.dup, 1) := by decide +kernel
theorem dX2_init_88 : decode cX2_init 88 = .ok (.invokespecial 46, 3) := by decide +kernel
theorem dX2_init_91 : decode cX2_init 91 = .ok (.putfield 47, 3) := by decide +kernel
theorem dX2_init_94 : decode cX2_init 94 = .ok (.aload_n 0, 1) := by decide +kernel
theorem dX2_init_95 : decode cX2_init 95 = .ok (.bipush 9, 2) := by decide +kernel
theorem dX2_init_97 : decode cX2_init 97 = .ok (.newarray .int, 2) := by decide +kernel
theorem dX2_init_99 : decode cX2_init 99 = .ok (.putfield 51, 3) := by decide +kernel
theorem dX2_init_102 : decode cX2_init 102 = .ok (.return_, 1) := by decide +kernel
set_option maxRecDepth 20000 in
theorem ggX2_setFallback_X2_requireLanguage : GoodIn wsX2_setFallback wsX2_requireLanguage := goodIn_ca (goodIn_r _ [9, 1, 2] (by decide +kernel) (by decide +kernel)) (goodIn_sub (fun _ h => List.mem_cons_of_mem _ (List.mem_append_left _ (List.mem_append_right _ h))) (by decide +kernel))
set_option maxRecDepth 20000 in
theorem gX2_setFallback_X2_requireLanguage : GoodIn wsX2_setFallback (va_wsS RX2 54 yX2_requireLanguage wsX2_requireLanguage) := goodIn_app (goodIn_of _ (by decide +kernel)) ggX2_setFallback_X2_requireLanguage
set_option maxRecDepth 20000 in
theorem ggX2_setFallback_X2_chainPlace : GoodIn wsX2_setFallback wsX2_chainPlace := goodIn_r _ [13, 5, 14, 15, 16, 17, 18, 19, 20, 21, 22, 23] (by decide +kernel) (by decide +kernel)
set_option maxRecDepth 20000 in
theorem gX2_setFallback_X2_chainPlace : GoodIn wsX2_setFallback (wsV RX2 65 RX2 yX2_chainPlace wsX2_chainPlace) := goodIn_app (goodIn_of _ (by decide +kernel)) ggX2_setFallback_X2_chainPlace
theorem dX2_setFallback_0 : decode cX2_setFallback 0 = .ok (.iload_n 1, 1) := by decide +kernel
theorem dX2_setFallback_1 : decode cX2_setFallback 1 = .ok (.invokestatic 54, 3) := by decide +kernel
theorem dX2_setFallback_4 : decode cX2_setFallback 4 = .ok (.iload_n 2, 1) := by decide +kernel
theorem dX2_setFallback_5 : decode cX2_setFallback 5 = .ok (.invokestatic 54, 3) := by decide +kernel
theorem dX2_setFallback_8 : decode cX2_setFallback 8 = .ok (.iload_n 1, 1) := by decide +kernel
theorem dX2_setFallback_9 : decode cX2_setFallback 9 = .ok (.ifCond .ne 13, 3) := by decide +kernel
theorem dX2_setFallback_12 : decode cX2_setFallback 12 = .ok (.new 58, 3) := by decide +kernel
theorem dX2_setFallback_15 : decode cX2_setFallback 15 = .ok (.dup, 1) := by decide +kernel
theorem dX2_setFallback_16 : decode cX2_setFallback 16 = .ok (.ldc 60, 2) := by decide +kernel
theorem dX2_setFallback_18 : decode cX2_setFallback 18 = .ok (.invokespecial 62, 3) := by decide +kernel
theorem dX2_setFallback_21 : decode cX2_setFallback 21 = .ok (.athrow, 1) := by decide +kernel
theorem dX2_setFallback_22 : decode cX2_setFallback 22 = .ok (.aload_n 0, 1) := by decide +kernel
theorem dX2_setFallback_23 : decode cX2_setFallback 23 = .ok (.iload_n 2, 1) := by decide +kernel
theorem dX2_setFallback_24 : decode cX2_setFallback 24 = .ok (.iload_n 1, 1) := by decide +kernel
theorem dX2_setFallback_25 : decode cX2_setFallback 25 = .ok (.invokevirtual 65, 3) := by decide +kernel
theorem dX2_setFallback_28 : decode cX2_setFallback 28 = .ok (.iconst (-1), 1) := by decide +kernel
theorem dX2_setFallback_29 : decode cX2_setFallback 29 = .ok (.if_icmp .eq 13, 3) := by decide +kernel
theorem dX2_setFallback_32 : decode cX2_setFallback 32 = .ok (.new 69, 3) := by decide +kernel
theorem dX2_setFallback_35 : decode cX2_setFallback 35 = .ok (.dup, 1) := by decide +kernel
theorem dX2_setFallback_36 : decode cX2_setFallback 36 = .ok (.ldc 71, 2) := by decide +kernel
theorem dX2_setFallback_38 : decode cX2_setFallback 38 = .ok (.invokespecial 73, 3) := by decide +kernel
theorem dX2_setFallback_41 : decode cX2_setFallback 41 = .ok (.athrow, 1) := by decide +kernel
theorem dX2_setFallback_42 : decode cX2_setFallback 42 = .ok (.aload_n 0, 1) := by decide +kernel
theorem dX2_setFallback_43 : decode cX2_setFallback 43 = .ok (.getfield 9, 3) := by decide +kernel
theorem dX2_setFallback_46 : decode cX2_setFallback 46 = .ok (.iload_n 1, 1) := by decide +kernel
theorem dX2_setFallback_47 : decode cX2_setFallback 47 = .ok (.iaload, 1) := by decide +kernel
theorem dX2_setFallback_48 : decode cX2_setFallback 48 = .ok (.istore_n 3, 1) := by decide +kernel
theorem dX2_setFallback_49 : decode cX2_setFallback 49 = .ok (.aload_n 0, 1) := by decide +kernel
theorem dX2_setFallback_50 : decode cX2_setFallback 50 = .ok (.getfield 9, 3) := by decide +kernel
theorem dX2_setFallback_53 : decode cX2_setFallback 53 = .ok (.iload_n 1, 1) := by decide +kernel
theorem dX2_setFallback_54 : decode cX2_setFallback 54 = .ok (.iload_n 2, 1) := by decide +kernel
theorem dX2_setFallback_55 : decode cX2_setFallback 55 = .ok (.iastore, 1) := by decide +kernel
theorem dX2_setFallback_56 : decode cX2_setFallback 56 = .ok (.iload_n 3, 1) := by decide +kernel
theorem dX2_setFallback_57 : decode cX2_setFallback 57 = .ok (.ireturn, 1) := by decide +kernel
set_option maxRecDepth 20000 in
theorem ggX2_setNumbers_X2_requireLanguage : GoodIn wsX2_setNumbers wsX2_requireLanguage := goodIn_ca (goodIn_r _ [6, 7, 8] (by decide +kernel) (by decide +kernel)) (goodIn_sub (fun _ h => List.mem_cons_of_mem _ (List.mem_append_left _ (List.mem_append_right _ h))) (by decide +kernel))
set_option maxRecDepth 20000 in
theorem gX2_setNumbers_X2_requireLanguage : GoodIn wsX2_setNumbers (va_wsS RX2 54 yX2_requireLanguage wsX2_requireLanguage) := goodIn_app (goodIn_of _ (by decide +kernel)) ggX2_setNumbers_X2_requireLanguage
set_option maxRecDepth 20000 in
theorem ggX2_setNumbers_X2_requireNumberLimit : GoodIn wsX2_setNumbers wsX2_requireNumberLimit := goodIn_ca (goodIn_r _ [11, 12, 13] (by decide +kernel) (by decide +kernel)) (goodIn_sub (fun _ h => List.mem_cons_of_mem _ (List.mem_append_right _ h)) (by decide +kernel))
set_option maxRecDepth 20000 in
theorem gX2_setNumbers_X2_requireNumberLimit : GoodIn wsX2_setNumbers (va_wsS RX2 74 yX2_requireNumberLimit wsX2_requireNumberLimit) := goodIn_app (goodIn_of _ (by decide +kernel)) ggX2_setNumbers_X2_requireNumberLimit
theorem dX2_setNumbers_0 : decode cX2_setNumbers 0 = .ok (.iload_n 1, 1) := by decide +kernel
theorem dX2_setNumbers_1 : decode cX2_setNumbers 1 = .ok (.invokestatic 54, 3) := by decide +kernel
theorem dX2_setNumbers_4 : decode cX2_setNumbers 4 = .ok (.iload_n 2, 1) := by decide +kernel
theorem dX2_setNumbers_5 : decode cX2_setNumbers 5 = .ok (.invokestatic 74, 3) := by decide +kernel
theorem dX2_setNumbers_8 : decode cX2_setNumbers 8 = .ok (.iload_n 3, 1) := by decide +kernel
theorem dX2_setNumbers_9 : decode cX2_setNumbers 9 = .ok (.invokestatic 74, 3) := by decide +kernel
theorem dX2_setNumbers_12 : decode cX2_setNumbers 12 = .ok (.aload_n 0, 1) := by decide +kernel
theorem dX2_setNumbers_13 : decode cX2_setNumbers 13 = .ok (.getfield 13, 3) := by decide +kernel
theorem dX2_setNumbers_16 : decode cX2_setNumbers 16 = .ok (.iload_n 1, 1) := by decide +kernel
theorem dX2_setNumbers_17 : decode cX2_setNumbers 17 = .ok (.iload_n 2, 1) := by decide +kernel
theorem dX2_setNumbers_18 : decode cX2_setNumbers 18 = .ok (.iastore, 1) := by decide +kernel
theorem dX2_setNumbers_19 : decode cX2_setNumbers 19 = .ok (.aload_n 0, 1) := by decide +kernel
theorem dX2_setNumbers_20 : decode cX2_setNumbers 20 = .ok (.getfield 16, 3) := by decide +kernel
theorem dX2_setNumbers_23 : decode cX2_setNumbers 23 = .ok (.iload_n 1, 1) := by decide +kernel
theorem dX2_setNumbers_24 : decode cX2_setNumbers 24 = .ok (.iload_n 3, 1) := by decide +kernel
theorem dX2_setNumbers_25 : decode cX2_setNumbers 25 = .ok (.iastore, 1) := by decide +kernel
theorem dX2_setNumbers_26 : decode cX2_setNumbers 26 = .ok (.return_, 1) := by decide +kernel
set_option maxRecDepth 20000 in
theorem ggX2_sign_X2_isWord : GoodIn wsX2_sign wsX2_isWord := goodIn_r _ [10] (by decide +kernel) (by decide +kernel)
set_option maxRecDepth 20000 in
theorem gX2_sign_X2_isWord : GoodIn wsX2_sign (va_wsS RX2 77 yX2_isWord wsX2_isWord) := goodIn_app (goodIn_of _ (by decide +kernel)) ggX2_sign_X2_isWord
set_option maxRecDepth 20000 in
theorem ggX2_sign_X2_isPlaceholder : GoodIn wsX2_sign wsX2_isPlaceholder := goodIn_r _ [13] (by decide +kernel) (by decide +kernel)
set_option maxRecDepth 20000 in
theorem gX2_sign_X2_isPlaceholder : GoodIn wsX2_sign (va_wsS RX2 81 yX2_isPlaceholder wsX2_isPlaceholder) := goodIn_app (goodIn_of _ (by decide +kernel)) ggX2_sign_X2_isPlaceholder
theorem dX2_sign_0 : decode cX2_sign 0 = .ok (.iload_n 1, 1) := by decide +kernel
theorem dX2_sign_1 : decode cX2_sign 1 = .ok (.invokestatic 77, 3) := by decide +kernel
theorem dX2_sign_4 : decode cX2_sign 4 = .ok (.ifCond .ne 20, 3) := by decide +kernel
theorem dX2_sign_7 : decode cX2_sign 7 = .ok (.iload_n 1, 1) := by decide +kernel
theorem dX2_sign_8 : decode cX2_sign 8 = .ok (.invokestatic 81, 3) := by decide +kernel
theorem dX2_sign_11 : decode cX2_sign 11 = .ok (.ifCond .ne 13, 3) := by decide +kernel
theorem dX2_sign_14 : decode cX2_sign 14 = .ok (.new 69, 3) := by decide +kernel
theorem dX2_sign_17 : decode cX2_sign 17 = .ok (.dup, 1) := by decide +kernel
theorem dX2_sign_18 : decode cX2_sign 18 = .ok (.ldc 84, 2) := by decide +kernel
theorem dX2_sign_20 : decode cX2_sign 20 = .ok (.invokespecial 73, 3) := by decide +kernel
theorem dX2_sign_23 : decode cX2_sign 23 = .ok (.athrow, 1) := by decide +kernel
theorem dX2_sign_24 : decode cX2_sign 24 = .ok (.aload_n 0, 1) := by decide +kernel
theorem dX2_sign_25 : decode cX2_sign 25 = .ok (.getfield 28, 3) := by decide +kernel
theorem dX2_sign_28 : decode cX2_sign 28 = .ok (.bipush 8, 2) := by decide +kernel
theorem dX2_sign_30 : decode cX2_sign 30 = .ok (.if_icmp .lt 13, 3) := by decide +kernel
theorem dX2_sign_33 : decode cX2_sign 33 = .ok (.new 86, 3) := by decide +kernel
theorem dX2_sign_36 : decode cX2_sign 36 = .ok (.dup, 1) := by decide +kernel
theorem dX2_sign_37 : decode cX2_sign 37 = .ok (.ldc 88, 2) := by decide +kernel
theorem dX2_sign_39 : decode cX2_sign 39 = .ok (.invokespecial 90, 3) := by decide +kernel
theorem dX2_sign_42 : decode cX2_sign 42 = .ok (.athrow, 1) := by decide +kernel
theorem dX2_sign_43 : decode cX2_sign 43 = .ok (.aload_n 0, 1) := by decide +kernel
theorem dX2_sign_44 : decode cX2_sign 44 = .ok (.getfield 25, 3) := by decide +kernel
theorem dX2_sign_47 : decode cX2_sign 47 = .ok (.aload_n 0, 1) := by decide +kernel
theorem dX2_sign_48 : decode cX2_sign 48 = .ok (.getfield 28, 3) := by decide +kernel
theorem dX2_sign_51 : decode cX2_sign 51 = .ok (.iload_n 1, 1) := by decide +kernel
theorem dX2_sign_52 : decode cX2_sign 52 = .ok (.iastore, 1) := by decide +kernel
theorem dX2_sign_53 : decode cX2_sign 53 = .ok (.aload_n 0, 1) := by decide +kernel
theorem dX2_sign_54 : decode cX2_sign 54 = .ok (.dup, 1) := by decide +kernel
theorem dX2_sign_55 : decode cX2_sign 55 = .ok (.getfield 28, 3) := by decide +kernel
theorem dX2_sign_58 : decode cX2_sign 58 = .ok (.iconst 1, 1) := by decide +kernel
theorem dX2_sign_59 : decode cX2_sign 59 = .ok (.iadd, 1) := by decide +kernel
theorem dX2_sign_60 : decode cX2_sign 60 = .ok (.putfield 28, 3) := by decide +kernel
theorem dX2_sign_63 : decode cX2_sign 63 = .ok (.aload_n 0, 1) := by decide +kernel
theorem dX2_sign_64 : decode cX2_sign 64 = .ok (.getfield 28, 3) := by decide +kernel
theorem dX2_sign_67 : decode cX2_sign 67 = .ok (.ireturn, 1) := by decide +kernel
set_option maxRecDepth 20000 in
theorem ggX2_set_X2_requireForm : GoodIn wsX2_set wsX2_requireForm := goodIn_ca (goodIn_r _ [12, 13, 14, 15, 16, 11, 17, 18, 19, 20, 21, 22, 23] (by decide +kernel) (by decide +kernel)) (goodIn_sub (fun _ h => List.mem_cons_of_mem _ (List.mem_append_right _ h)) (by decide +kernel))
set_option maxRecDepth 20000 in
theorem gX2_set_X2_requireForm : GoodIn wsX2_set (va_wsS RX2 91 yX2_requireForm wsX2_requireForm) := goodIn_app (goodIn_of _ (by decide +kernel)) ggX2_set_X2_requireForm
set_option maxRecDepth 20000 in
theorem ggX2_set_J7_copyOf_59c91 : GoodIn wsX2_set wsJ7_copyOf_59c91 := goodIn_r _ [27, 28, 29, 30, 31, 32, 33, 34, 35, 36, 37, 38, 39, 40, 41, 42] (by decide +kernel) (by decide +kernel)
set_option maxRecDepth 20000 in
theorem gX2_set_J7_copyOf_59c91 : GoodIn wsX2_set (va_wsS RX2 97 yJ7_copyOf_59c91 wsJ7_copyOf_59c91) := goodIn_app (goodIn_of _ (by decide +kernel)) ggX2_set_J7_copyOf_59c91
set_option maxRecDepth 20000 in
theorem ggX2_set_X2_placeholdersOf : GoodIn wsX2_set wsX2_placeholdersOf := goodIn_r _ [45, 46, 47, 11, 48] (by decide +kernel) (by decide +kernel)
set_option maxRecDepth 20000 in
theorem gX2_set_X2_placeholdersOf : GoodIn wsX2_set (va_wsS RX2 101 yX2_placeholdersOf wsX2_placeholdersOf) := goodIn_app (goodIn_of _ (by decide +kernel)) ggX2_set_X2_placeholdersOf
set_option maxRecDepth 20000 in
theorem ggX2_set_X0_init : GoodIn wsX2_set wsX0_init := goodIn_r _ [51, 52, 53, 54, 55, 56, 57, 167, 168, 169] (by decide +kernel) (by decide +kernel)
set_option maxRecDepth 20000 in
theorem gX2_set_X0_init : GoodIn wsX2_set (wsX0_init) := ggX2_set_X0_init
set_option maxRecDepth 20000 in
theorem ggX2_set_X2_change : GoodIn wsX2_set wsX2_change := goodIn_r _ [61, 62, 8, 63, 64, 65, 11, 66, 67, 68, 69, 70, 71, 72, 73, 74, 75, 76, 77, 78, 79, 80, 53, 54, 81, 82, 83, 84, 85, 86, 87, 88, 89, 90, 91, 92, 93, 94, 95, 96, 97, 98, 99, 100, 101, 102, 103, 104, 105, 106, 107, 108, 109, 110, 111, 112, 113, 114, 40, 41, 42, 115, 116, 117, 118, 119, 120, 121, 122, 123, 124, 125, 126, 127, 128, 129, 130, 131, 132, 133, 37, 134, 135, 136, 137, 138, 139, 140, 141, 142, 143, 144, 145, 146, 26, 147, 148, 149, 150, 151, 152, 153, 154, 155, 156, 35, 36, 38, 39, 157, 158, 159, 160, 161, 162, 163, 164, 165, 166, 170, 171, 172, 173, 174, 175] (by decide +kernel) (by decide +kernel)
set_option maxRecDepth 20000 in
theorem gX2_set_X2_change : GoodIn wsX2_set (wsV RX2 108 RX2 yX2_change wsX2_change) := goodIn_app (goodIn_of _ (by decide +kernel)) ggX2_set_X2_change
theorem dX2_set_0 : decode cX2_set 0 = .ok (.iload_n 1, 1) := by decide +kernel
theorem dX2_set_1 : decode cX2_set 1 = .ok (.iload_n 2, 1) := by decide +kernel
theorem dX2_set_2 : decode cX2_set 2 = .ok (.iload_n 3, 1) := by decide +kernel
theorem dX2_set_3 : decode cX2_set 3 = .ok (.iload 4, 2) := by decide +kernel
theorem dX2_set_5 : decode cX2_set 5 = .ok (.invokestatic 91, 3) := by decide +kernel
theorem dX2_set_8 : decode cX2_set 8 = .ok (.aload_n 0, 1) := by decide +kernel
theorem dX2_set_9 : decode cX2_set 9 = .ok (.getfield 28, 3) := by decide +kernel
theorem dX2_set_12 : decode cX2_set 12 = .ok (.ifCond .gt 13, 3) := by decide +kernel
theorem dX2_set_15 : decode cX2_set 15 = .ok (.new 86, 3) := by decide +kernel
theorem dX2_set_18 : decode cX2_set 18 = .ok (.dup, 1) := by decide +kernel
theorem dX2_set_19 : decode cX2_set 19 = .ok (.ldc 95, 2) := by decide +kernel
theorem dX2_set_21 : decode cX2_set 21 = .ok (.invokespecial 90, 3) := by decide +kernel
theorem dX2_set_24 : decode cX2_set 24 = .ok (.athrow, 1) := by decide +kernel
theorem dX2_set_25 : decode cX2_set 25 = .ok (.aload_n 0, 1) := by decide +kernel
theorem dX2_set_26 : decode cX2_set 26 = .ok (.getfield 25, 3) := by decide +kernel
theorem dX2_set_29 : decode cX2_set 29 = .ok (.aload_n 0, 1) := by decide +kernel
theorem dX2_set_30 : decode cX2_set 30 = .ok (.getfield 28, 3) := by decide +kernel
theorem dX2_set_33 : decode cX2_set 33 = .ok (.invokestatic 97, 3) := by decide +kernel
theorem dX2_set_36 : decode cX2_set 36 = .ok (.astore 6, 2) := by decide +kernel
theorem dX2_set_38 : decode cX2_set 38 = .ok (.aload_n 0, 1) := by decide +kernel
theorem dX2_set_39 : decode cX2_set 39 = .ok (.iconst 0, 1) := by decide +kernel
theorem dX2_set_40 : decode cX2_set 40 = .ok (.putfield 28, 3) := by decide +kernel
theorem dX2_set_43 : decode cX2_set 43 = .ok (.aload_n 0, 1) := by decide +kernel
theorem dX2_set_44 : decode cX2_set 44 = .ok (.iload_n 1, 1) := by decide +kernel
theorem dX2_set_45 : decode cX2_set 45 = .ok (.iload_n 2, 1) := by decide +kernel
theorem dX2_set_46 : decode cX2_set 46 = .ok (.iload_n 3, 1) := by decide +kernel
theorem dX2_set_47 : decode cX2_set 47 = .ok (.iload 4, 2) := by decide +kernel
theorem dX2_set_49 : decode cX2_set 49 = .ok (.new 32, 3) := by decide +kernel
theorem dX2_set_52 : decode cX2_set 52 = .ok (.dup, 1) := by decide +kernel
theorem dX2_set_53 : decode cX2_set 53 = .ok (.aload 6, 2) := by decide +kernel
theorem dX2_set_55 : decode cX2_set 55 = .ok (.iload 5, 2) := by decide +kernel
theorem dX2_set_57 : decode cX2_set 57 = .ok (.aload 6, 2) := by decide +kernel
theorem dX2_set_59 : decode cX2_set 59 = .ok (.invokestatic 101, 3) := by decide +kernel
theorem dX2_set_62 : decode cX2_set 62 = .ok (.invokespecial 105, 3) := by decide +kernel
theorem dX2_set_65 : decode cX2_set 65 = .ok (.invokevirtual 108, 3) := by decide +kernel
theorem dX2_set_68 : decode cX2_set 68 = .ok (.aload_n 0, 1) := by decide +kernel
theorem dX2_set_69 : decode cX2_set 69 = .ok (.getfield 38, 3) := by decide +kernel
theorem dX2_set_72 : decode cX2_set 72 = .ok (.iload_n 1, 1) := by decide +kernel
theorem dX2_set_73 : decode cX2_set 73 = .ok (.iaload, 1) := by decide +kernel
theorem dX2_set_74 : decode cX2_set 74 = .ok (.ireturn, 1) := by decide +kernel
set_option maxRecDepth 20000 in
theorem ggX2_remove_X2_requireForm : GoodIn wsX2_remove wsX2_requireForm := goodIn_ca (goodIn_r _ [8, 9, 10, 11, 12, 7, 13, 14, 15, 16, 17, 18, 19] (by decide +kernel) (by decide +kernel)) (goodIn_sub (fun _ h => List.mem_cons_of_mem _ (List.mem_append_right _ h)) (by decide +kernel))
set_option maxRecDepth 20000 in
theorem gX2_remove_X2_requireForm : GoodIn wsX2_remove (va_wsS RX2 91 yX2_requireForm wsX2_requireForm) := goodIn_app (goodIn_of _ (by decide +kernel)) ggX2_remove_X2_requireForm
set_option maxRecDepth 20000 in
theorem ggX2_remove_X2_slotOf : GoodIn wsX2_remove wsX2_slotOf := goodIn_r _ [22, 23, 24, 7, 25] (by decide +kernel) (by decide +kernel)
set_option maxRecDepth 20000 in
theorem gX2_remove_X2_slotOf : GoodIn wsX2_remove (va_wsS RX2 112 yX2_slotOf wsX2_slotOf) := goodIn_app (goodIn_of _ (by decide +kernel)) ggX2_remove_X2_slotOf
set_option maxRecDepth 20000 in
theorem ggX2_remove_X2_change : GoodIn wsX2_remove wsX2_change := goodIn_r _ [29, 3, 30, 31, 20, 21, 7, 22, 23, 24, 25, 32, 33, 34, 35, 36, 37, 38, 39, 40, 41, 42, 43, 44, 45, 46, 47, 48, 49, 50, 51, 52, 53, 54, 55, 56, 57, 58, 59, 60, 61, 62, 63, 64, 65, 66, 67, 68, 69, 70, 71, 72, 73, 74, 75, 76, 77, 78, 79, 80, 81, 82, 83, 84, 85, 86, 87, 88, 89, 90, 91, 92, 93, 94, 95, 96, 97, 98, 99, 100, 101, 102, 103, 104, 105, 106, 107, 108, 109, 110, 111, 112, 113, 114, 115, 116, 117, 118, 119, 120, 121, 122, 123, 124, 125, 126, 127, 128, 129, 130, 131, 132, 133, 134, 135, 136, 137, 138, 139, 143, 144, 145, 146, 147, 148] (by decide +kernel) (by decide +kernel)
set_option maxRecDepth 20000 in
theorem gX2_remove_X2_change : GoodIn wsX2_remove (wsV RX2 108 RX2 yX2_change wsX2_change) := goodIn_app (goodIn_of _ (by decide +kernel)) ggX2_remove_X2_change
theorem dX2_remove_0 : decode cX2_remove 0 = .ok (.iload_n 1, 1) := by decide +kernel
theorem dX2_remove_1 : decode cX2_remove 1 = .ok (.iload_n 2, 1) := by decide +kernel
theorem dX2_remove_2 : decode cX2_remove 2 = .ok (.iload_n 3, 1) := by decide +kernel
theorem dX2_remove_3 : decode cX2_remove 3 = .ok (.iload 4, 2) := by decide +kernel
theorem dX2_remove_5 : decode cX2_remove 5 = .ok (.invokestatic 91, 3) := by decide +kernel
theorem dX2_remove_8 : decode cX2_remove 8 = .ok (.aload_n 0, 1) := by decide +kernel
theorem dX2_remove_9 : decode cX2_remove 9 = .ok (.getfield 34, 3) := by decide +kernel
theorem dX2_remove_12 : decode cX2_remove 12 = .ok (.iload_n 1, 1) := by decide +kernel
theorem dX2_remove_13 : decode cX2_remove 13 = .ok (.iload_n 2, 1) := by decide +kernel
theorem dX2_remove_14 : decode cX2_remove 14 = .ok (.iload_n 3, 1) := by decide +kernel
theorem dX2_remove_15 : decode cX2_remove 15 = .ok (.iload 4, 2) := by decide +kernel
theorem dX2_remove_17 : decode cX2_remove 17 = .ok (.invokestatic 112, 3) := by decide +kernel
theorem dX2_remove_20 : decode cX2_remove 20 = .ok (.aaload, 1) := by decide +kernel
theorem dX2_remove_21 : decode cX2_remove 21 = .ok (.astore 5, 2) := by decide +kernel
theorem dX2_remove_23 : decode cX2_remove 23 = .ok (.aload 5, 2) := by decide +kernel
theorem dX2_remove_25 : decode cX2_remove 25 = .ok (.ifnonnull 13, 3) := by decide +kernel
theorem dX2_remove_28 : decode cX2_remove 28 = .ok (.new 86, 3) := by decide +kernel
theorem dX2_remove_31 : decode cX2_remove 31 = .ok (.dup, 1) := by decide +kernel
theorem dX2_remove_32 : decode cX2_remove 32 = .ok (.ldc 116, 2) := by decide +kernel
theorem dX2_remove_34 : decode cX2_remove 34 = .ok (.invokespecial 90, 3) := by decide +kernel
theorem dX2_remove_37 : decode cX2_remove 37 = .ok (.athrow, 1) := by decide +kernel
theorem dX2_remove_38 : decode cX2_remove 38 = .ok (.aload_n 0, 1) := by decide +kernel
theorem dX2_remove_39 : decode cX2_remove 39 = .ok (.iload_n 1, 1) := by decide +kernel
theorem dX2_remove_40 : decode cX2_remove 40 = .ok (.iload_n 2, 1) := by decide +kernel
theorem dX2_remove_41 : decode cX2_remove 41 = .ok (.iload_n 3, 1) := by decide +kernel
theorem dX2_remove_42 : decode cX2_remove 42 = .ok (.iload 4, 2) := by decide +kernel
theorem dX2_remove_44 : decode cX2_remove 44 = .ok (.aconst_null, 1) := by decide +kernel
theorem dX2_remove_45 : decode cX2_remove 45 = .ok (.invokevirtual 108, 3) := by decide +kernel
theorem dX2_remove_48 : decode cX2_remove 48 = .ok (.aload 5, 2) := by decide +kernel
theorem dX2_remove_50 : decode cX2_remove 50 = .ok (.getfield 118, 3) := by decide +kernel
theorem dX2_remove_53 : decode cX2_remove 53 = .ok (.arraylength, 1) := by decide +kernel
theorem dX2_remove_54 : decode cX2_remove 54 = .ok (.ireturn, 1) := by decide +kernel
theorem dX2_draft_0 : decode cX2_draft 0 = .ok (.aload_n 0, 1) := by decide +kernel
theorem dX2_draft_1 : decode cX2_draft 1 = .ok (.getfield 28, 3) := by decide +kernel
theorem dX2_draft_4 : decode cX2_draft 4 = .ok (.ireturn, 1) := by decide +kernel
set_option maxRecDepth 20000 in
theorem ggX2_kindOf_X2_requireLanguage : GoodIn wsX2_kindOf wsX2_requireLanguage := goodIn_ca (goodIn_r _ [4, 5, 6] (by decide +kernel) (by decide +kernel)) (goodIn_sub (fun _ h => List.mem_cons_of_mem _ (List.mem_append_left _ (List.mem_append_right _ h))) (by decide +kernel))
set_option maxRecDepth 20000 in
theorem gX2_kindOf_X2_requireLanguage : GoodIn wsX2_kindOf (va_wsS RX2 54 yX2_requireLanguage wsX2_requireLanguage) := goodIn_app (goodIn_of _ (by decide +kernel)) ggX2_kindOf_X2_requireLanguage
set_option maxRecDepth 20000 in
theorem ggX2_kindOf_X2_requireNumber : GoodIn wsX2_kindOf wsX2_requireNumber := goodIn_ca (goodIn_r _ [9, 10, 11] (by decide +kernel) (by decide +kernel)) (goodIn_sub (fun _ h => List.mem_cons_of_mem _ (List.mem_append_right _ h)) (by decide +kernel))
set_option maxRecDepth 20000 in
theorem gX2_kindOf_X2_requireNumber : GoodIn wsX2_kindOf (va_wsS RX2 121 yX2_requireNumber wsX2_requireNumber) := goodIn_app (goodIn_of _ (by decide +kernel)) ggX2_kindOf_X2_requireNumber
set_option maxRecDepth 20000 in
theorem ggX2_kindOf_X2_classOf : GoodIn wsX2_kindOf wsX2_classOf := goodIn_r _ [15, 16, 17, 18, 19, 20, 21, 22, 23, 24, 25, 26, 27] (by decide +kernel) (by decide +kernel)
set_option maxRecDepth 20000 in
theorem gX2_kindOf_X2_classOf : GoodIn wsX2_kindOf (wsV RX2 124 RX2 yX2_classOf wsX2_classOf) := goodIn_app (goodIn_of _ (by decide +kernel)) ggX2_kindOf_X2_classOf
theorem dX2_kindOf_0 : decode cX2_kindOf 0 = .ok (.iload_n 1, 1) := by decide +kernel
theorem dX2_kindOf_1 : decode cX2_kindOf 1 = .ok (.invokestatic 54, 3) := by decide +kernel
theorem dX2_kindOf_4 : decode cX2_kindOf 4 = .ok (.iload_n 2, 1) := by decide +kernel
theorem dX2_kindOf_5 : decode cX2_kindOf 5 = .ok (.invokestatic 121, 3) := by decide +kernel
theorem dX2_kindOf_8 : decode cX2_kindOf 8 = .ok (.aload_n 0, 1) := by decide +kernel
theorem dX2_kindOf_9 : decode cX2_kindOf 9 = .ok (.iload_n 1, 1) := by decide +kernel
theorem dX2_kindOf_10 : decode cX2_kindOf 10 = .ok (.iload_n 2, 1) := by decide +kernel
theorem dX2_kindOf_11 : decode cX2_kindOf 11 = .ok (.invokevirtual 124, 3) := by decide +kernel
theorem dX2_kindOf_14 : decode cX2_kindOf 14 = .ok (.ireturn, 1) := by decide +kernel
set_option maxRecDepth 20000 in
theorem ggX2_forms_X2_requireKey : GoodIn wsX2_forms wsX2_requireKey := goodIn_ca (goodIn_r _ [4, 5, 6] (by decide +kernel) (by decide +kernel)) (goodIn_sub (fun _ h => List.mem_cons_of_mem _ (List.mem_append_right _ h)) (by decide +kernel))
set_option maxRecDepth 20000 in
theorem gX2_forms_X2_requireKey : GoodIn wsX2_forms (va_wsS RX2 127 yX2_requireKey wsX2_requireKey) := goodIn_app (goodIn_of _ (by decide +kernel)) ggX2_forms_X2_requireKey
set_option maxRecDepth 20000 in
theorem ggX2_forms_X2_requireLanguage : GoodIn wsX2_forms wsX2_requireLanguage := goodIn_ca (goodIn_r _ [9, 5, 6] (by decide +kernel) (by decide +kernel)) (goodIn_sub (fun _ h => List.mem_cons_of_mem _ (List.mem_append_right _ h)) (by decide +kernel))
set_option maxRecDepth 20000 in
theorem gX2_forms_X2_requireLanguage : GoodIn wsX2_forms (va_wsS RX2 54 yX2_requireLanguage wsX2_requireLanguage) := goodIn_app (goodIn_of _ (by decide +kernel)) ggX2_forms_X2_requireLanguage
set_option maxRecDepth 20000 in
theorem ggX2_forms_X2_countForms : GoodIn wsX2_forms wsX2_countForms := goodIn_r _ [13, 14, 15, 16, 3, 17, 18, 19, 20, 21, 22, 23, 24, 25, 26, 27, 28, 29, 30] (by decide +kernel) (by decide +kernel)
set_option maxRecDepth 20000 in
theorem gX2_forms_X2_countForms : GoodIn wsX2_forms (wsV RX2 130 RX2 yX2_countForms wsX2_countForms) := goodIn_app (goodIn_of _ (by decide +kernel)) ggX2_forms_X2_countForms
theorem dX2_forms_0 : decode cX2_forms 0 = .ok (.iload_n 1, 1) := by decide +kernel
theorem dX2_forms_1 : decode cX2_forms 1 = .ok (.invokestatic 127, 3) := by decide +kernel
theorem dX2_forms_4 : decode cX2_forms 4 = .ok (.iload_n 2, 1) := by decide +kernel
theorem dX2_forms_5 : decode cX2_forms 5 = .ok (.invokestatic 54, 3) := by decide +kernel
theorem dX2_forms_8 : decode cX2_forms 8 = .ok (.aload_n 0, 1) := by decide +kernel
theorem dX2_forms_9 : decode cX2_forms 9 = .ok (.iload_n 1, 1) := by decide +kernel
theorem dX2_forms_10 : decode cX2_forms 10 = .ok (.iload_n 2, 1) := by decide +kernel
theorem dX2_forms_11 : decode cX2_forms 11 = .ok (.invokevirtual 130, 3) := by decide +kernel
theorem dX2_forms_14 : decode cX2_forms 14 = .ok (.ireturn, 1) := by decide +kernel
set_option maxRecDepth 20000 in
theorem ggX2_version_X2_requireKey : GoodIn wsX2_version wsX2_requireKey := goodIn_ca (goodIn_r _ [5, 6, 7] (by decide +kernel) (by decide +kernel)) (goodIn_sub (fun _ h => List.mem_cons_of_mem _ (List.mem_append_right _ h)) (by decide +kernel))
set_option maxRecDepth 20000 in
theorem gX2_version_X2_requireKey : GoodIn wsX2_version (va_wsS RX2 127 yX2_requireKey wsX2_requireKey) := goodIn_app (goodIn_of _ (by decide +kernel)) ggX2_version_X2_requireKey
theorem dX2_version_0 : decode cX2_version 0 = .ok (.iload_n 1, 1) := by decide +kernel
theorem dX2_version_1 : decode cX2_version 1 = .ok (.invokestatic 127, 3) := by decide +kernel
theorem dX2_version_4 : decode cX2_version 4 = .ok (.aload_n 0, 1) := by decide +kernel
theorem dX2_version_5 : decode cX2_version 5 = .ok (.getfield 38, 3) := by decide +kernel
theorem dX2_version_8 : decode cX2_version 8 = .ok (.iload_n 1, 1) := by decide +kernel
theorem dX2_version_9 : decode cX2_version 9 = .ok (.iaload, 1) := by decide +kernel
theorem dX2_version_10 : decode cX2_version 10 = .ok (.ireturn, 1) := by decide +kernel
set_option maxRecDepth 20000 in
theorem ggX2_staleBy_X2_requireKey : GoodIn wsX2_staleBy wsX2_requireKey := goodIn_ca (goodIn_r _ [6, 7, 8] (by decide +kernel) (by decide +kernel)) (goodIn_sub (fun _ h => List.mem_cons_of_mem _ (List.mem_append_right _ h)) (by decide +kernel))
set_option maxRecDepth 20000 in
theorem gX2_staleBy_X2_requireKey : GoodIn wsX2_staleBy (va_wsS RX2 127 yX2_requireKey wsX2_requireKey) := goodIn_app (goodIn_of _ (by decide +kernel)) ggX2_staleBy_X2_requireKey
set_option maxRecDepth 20000 in
theorem ggX2_staleBy_X2_requireLanguage : GoodIn wsX2_staleBy wsX2_requireLanguage := goodIn_ca (goodIn_r _ [11, 7, 8] (by decide +kernel) (by decide +kernel)) (goodIn_sub (fun _ h => List.mem_cons_of_mem _ (List.mem_append_right _ h)) (by decide +kernel))
set_option maxRecDepth 20000 in
theorem gX2_staleBy_X2_requireLanguage : GoodIn wsX2_staleBy (va_wsS RX2 54 yX2_requireLanguage wsX2_requireLanguage) := goodIn_app (goodIn_of _ (by decide +kernel)) ggX2_staleBy_X2_requireLanguage
set_option maxRecDepth 20000 in
theorem ggX2_staleBy_X2_countForms : GoodIn wsX2_staleBy wsX2_countForms := goodIn_r _ [15, 16, 17, 18, 5, 19, 20, 21, 22, 23, 24, 25, 26, 27, 28, 29, 30, 31, 32] (by decide +kernel) (by decide +kernel)
set_option maxRecDepth 20000 in
theorem gX2_staleBy_X2_countForms : GoodIn wsX2_staleBy (wsV RX2 130 RX2 yX2_countForms wsX2_countForms) := goodIn_app (goodIn_of _ (by decide +kernel)) ggX2_staleBy_X2_countForms
set_option maxRecDepth 20000 in
theorem ggX2_staleBy_X2_textOf : GoodIn wsX2_staleBy wsX2_textOf := goodIn_r _ [22] (by decide +kernel) (by decide +kernel)
set_option maxRecDepth 20000 in
theorem gX2_staleBy_X2_textOf : GoodIn wsX2_staleBy (va_wsS RX2 133 yX2_textOf wsX2_textOf) := goodIn_app (goodIn_of _ (by decide +kernel)) ggX2_staleBy_X2_textOf
theorem dX2_staleBy_0 : decode cX2_staleBy 0 = .ok (.iload_n 1, 1) := by decide +kernel
theorem dX2_staleBy_1 : decode cX2_staleBy 1 = .ok (.invokestatic 127, 3) := by decide +kernel
theorem dX2_staleBy_4 : decode cX2_staleBy 4 = .ok (.iload_n 2, 1) := by decide +kernel
theorem dX2_staleBy_5 : decode cX2_staleBy 5 = .ok (.invokestatic 54, 3) := by decide +kernel
theorem dX2_staleBy_8 : decode cX2_staleBy 8 = .ok (.aload_n 0, 1) := by decide +kernel
theorem dX2_staleBy_9 : decode cX2_staleBy 9 = .ok (.iload_n 1, 1) := by decide +kernel
theorem dX2_staleBy_10 : decode cX2_staleBy 10 = .ok (.iload_n 2, 1) := by decide +kernel
theorem dX2_staleBy_11 : decode cX2_staleBy 11 = .ok (.invokevirtual 130, 3) := by decide +kernel
theorem dX2_staleBy_14 : decode cX2_staleBy 14 = .ok (.ifCond .ne 5, 3) := by decide +kernel
theorem dX2_staleBy_17 : decode cX2_staleBy 17 = .ok (.iconst (-1), 1) := by decide +kernel
theorem dX2_staleBy_18 : decode cX2_staleBy 18 = .ok (.ireturn, 1) := by decide +kernel
theorem dX2_staleBy_19 : decode cX2_staleBy 19 = .ok (.iload_n 2, 1) := by decide +kernel
theorem dX2_staleBy_20 : decode cX2_staleBy 20 = .ok (.ifCond .ne 7, 3) := by decide +kernel
theorem dX2_staleBy_23 : decode cX2_staleBy 23 = .ok (.iconst 0, 1) := by decide +kernel
theorem dX2_staleBy_24 : decode cX2_staleBy 24 = .ok (.goto 20, 3) := by decide +kernel
theorem dX2_staleBy_27 : decode cX2_staleBy 27 = .ok (.aload_n 0, 1) := by decide +kernel
theorem dX2_staleBy_28 : decode cX2_staleBy 28 = .ok (.getfield 38, 3) := by decide +kernel
theorem dX2_staleBy_31 : decode cX2_staleBy 31 = .ok (.iload_n 1, 1) := by decide +kernel
theorem dX2_staleBy_32 : decode cX2_staleBy 32 = .ok (.iaload, 1) := by decide +kernel
theorem dX2_staleBy_33 : decode cX2_staleBy 33 = .ok (.aload_n 0, 1) := by decide +kernel
theorem dX2_staleBy_34 : decode cX2_staleBy 34 = .ok (.getfield 41, 3) := by decide +kernel
theorem dX2_staleBy_37 : decode cX2_staleBy 37 = .ok (.iload_n 1, 1) := by decide +kernel
theorem dX2_staleBy_38 : decode cX2_staleBy 38 = .ok (.iload_n 2, 1) := by decide +kernel
theorem dX2_staleBy_39 : decode cX2_staleBy 39 = .ok (.invokestatic 133, 3) := by decide +kernel
theorem dX2_staleBy_42 : decode cX2_staleBy 42 = .ok (.iaload, 1) := by decide +kernel
theorem dX2_staleBy_43 : decode cX2_staleBy 43 = .ok (.isub, 1) := by decide +kernel
theorem dX2_staleBy_44 : decode cX2_staleBy 44 = .ok (.ireturn, 1) := by decide +kernel
set_option maxRecDepth 20000 in
theorem ggX2_missing_X2_requireLanguage : GoodIn wsX2_missing wsX2_requireLanguage := goodIn_ca (goodIn_r _ [4, 5, 6] (by decide +kernel) (by decide +kernel)) (goodIn_sub (fun _ h => List.mem_cons_of_mem _ (List.mem_append_right _ h)) (by decide +kernel))
set_option maxRecDepth 20000 in
theorem gX2_missing_X2_requireLanguage : GoodIn wsX2_missing (va_wsS RX2 54 yX2_requireLanguage wsX2_requireLanguage) := goodIn_app (goodIn_of _ (by decide +kernel)) ggX2_missing_X2_requireLanguage
set_option maxRecDepth 20000 in
theorem ggX2_missing_X2_countForms : GoodIn wsX2_missing wsX2_countForms := goodIn_r _ [10, 11, 12, 13, 3, 14, 15, 16, 17, 18, 19, 20, 21, 22, 23, 24, 25, 26, 27] (by decide +kernel) (by decide +kernel)
set_option maxRecDepth 20000 in
theorem gX2_missing_X2_countForms : GoodIn wsX2_missing (wsV RX2 130 RX2 yX2_countForms wsX2_countForms) := goodIn_app (goodIn_of _ (by decide +kernel)) ggX2_missing_X2_countForms
theorem dX2_missing_0 : decode cX2_missing 0 = .ok (.iload_n 1, 1) := by decide +kernel
theorem dX2_missing_1 : decode cX2_missing 1 = .ok (.invokestatic 54, 3) := by decide +kernel
theorem dX2_missing_4 : decode cX2_missing 4 = .ok (.iconst 0, 1) := by decide +kernel
theorem dX2_missing_5 : decode cX2_missing 5 = .ok (.istore_n 2, 1) := by decide +kernel
theorem dX2_missing_6 : decode cX2_missing 6 = .ok (.iconst 0, 1) := by decide +kernel
theorem dX2_missing_7 : decode cX2_missing 7 = .ok (.istore_n 3, 1) := by decide +kernel
theorem dX2_missing_8 : decode cX2_missing 8 = .ok (.iload_n 3, 1) := by decide +kernel
theorem dX2_missing_9 : decode cX2_missing 9 = .ok (.bipush 10, 2) := by decide +kernel
theorem dX2_missing_11 : decode cX2_missing 11 = .ok (.if_icmp .ge 30, 3) := by decide +kernel
theorem dX2_missing_14 : decode cX2_missing 14 = .ok (.aload_n 0, 1) := by decide +kernel
theorem dX2_missing_15 : decode cX2_missing 15 = .ok (.iload_n 3, 1) := by decide +kernel
theorem dX2_missing_16 : decode cX2_missing 16 = .ok (.iconst 0, 1) := by decide +kernel
theorem dX2_missing_17 : decode cX2_missing 17 = .ok (.invokevirtual 130, 3) := by decide +kernel
theorem dX2_missing_20 : decode cX2_missing 20 = .ok (.ifCond .le 15, 3) := by decide +kernel
theorem dX2_missing_23 : decode cX2_missing 23 = .ok (.aload_n 0, 1) := by decide +kernel
theorem dX2_missing_24 : decode cX2_missing 24 = .ok (.iload_n 3, 1) := by decide +kernel
theorem dX2_missing_25 : decode cX2_missing 25 = .ok (.iload_n 1, 1) := by decide +kernel
theorem dX2_missing_26 : decode cX2_missing 26 = .ok (.invokevirtual 130, 3) := by decide +kernel
theorem dX2_missing_29 : decode cX2_missing 29 = .ok (.ifCond .ne 6, 3) := by decide +kernel
theorem dX2_missing_32 : decode cX2_missing 32 = .ok (.iinc 2 1, 3) := by decide +kernel
theorem dX2_missing_35 : decode cX2_missing 35 = .ok (.iinc 3 1, 3) := by decide +kernel
theorem dX2_missing_38 : decode cX2_missing 38 = .ok (.goto (-30), 3) := by decide +kernel
theorem dX2_missing_41 : decode cX2_missing 41 = .ok (.iload_n 2, 1) := by decide +kernel
theorem dX2_missing_42 : decode cX2_missing 42 = .ok (.ireturn, 1) := by decide +kernel
set_option maxRecDepth 20000 in
theorem ggX2_fits_X2_requireForm : GoodIn wsX2_fits wsX2_requireForm := goodIn_ca (goodIn_r _ [5, 6, 7, 8, 9, 4, 10, 11, 12, 13, 14, 15, 16] (by decide +kernel) (by decide +kernel)) (goodIn_sub (fun _ h => List.mem_cons_of_mem _ (List.mem_append_right _ h)) (by decide +kernel))
set_option maxRecDepth 20000 in
theorem gX2_fits_X2_requireForm : GoodIn wsX2_fits (va_wsS RX2 91 yX2_requireForm wsX2_requireForm) := goodIn_app (goodIn_of _ (by decide +kernel)) ggX2_fits_X2_requireForm
set_option maxRecDepth 20000 in
theorem ggX2_fits_X2_slotOf : GoodIn wsX2_fits wsX2_slotOf := goodIn_r _ [19, 20, 21, 4, 22] (by decide +kernel) (by decide +kernel)
set_option maxRecDepth 20000 in
theorem gX2_fits_X2_slotOf : GoodIn wsX2_fits (va_wsS RX2 112 yX2_slotOf wsX2_slotOf) := goodIn_app (goodIn_of _ (by decide +kernel)) ggX2_fits_X2_slotOf
set_option maxRecDepth 20000 in
theorem ggX2_fits_X2_isFitting : GoodIn wsX2_fits wsX2_isFitting := goodIn_r _ [26, 27, 28, 29, 30, 31, 4, 32, 1, 17, 18, 19, 20, 21, 22, 43, 44, 45, 33, 34, 35, 36, 37, 38, 39, 40, 41, 42] (by decide +kernel) (by decide +kernel)
set_option maxRecDepth 20000 in
theorem gX2_fits_X2_isFitting : GoodIn wsX2_fits (wsV RX2 136 RX2 yX2_isFitting wsX2_isFitting) := goodIn_app (goodIn_of _ (by decide +kernel)) ggX2_fits_X2_isFitting
theorem dX2_fits_0 : decode cX2_fits 0 = .ok (.iload_n 1, 1) := by decide +kernel
theorem dX2_fits_1 : decode cX2_fits 1 = .ok (.iload_n 2, 1) := by decide +kernel
theorem dX2_fits_2 : decode cX2_fits 2 = .ok (.iload_n 3, 1) := by decide +kernel
theorem dX2_fits_3 : decode cX2_fits 3 = .ok (.iload 4, 2) := by decide +kernel
theorem dX2_fits_5 : decode cX2_fits 5 = .ok (.invokestatic 91, 3) := by decide +kernel
theorem dX2_fits_8 : decode cX2_fits 8 = .ok (.aload_n 0, 1) := by decide +kernel
theorem dX2_fits_9 : decode cX2_fits 9 = .ok (.iload_n 1, 1) := by decide +kernel
theorem dX2_fits_10 : decode cX2_fits 10 = .ok (.aload_n 0, 1) := by decide +kernel
theorem dX2_fits_11 : decode cX2_fits 11 = .ok (.getfield 34, 3) := by decide +kernel
theorem dX2_fits_14 : decode cX2_fits 14 = .ok (.iload_n 1, 1) := by decide +kernel
theorem dX2_fits_15 : decode cX2_fits 15 = .ok (.iload_n 2, 1) := by decide +kernel
theorem dX2_fits_16 : decode cX2_fits 16 = .ok (.iload_n 3, 1) := by decide +kernel
theorem dX2_fits_17 : decode cX2_fits 17 = .ok (.iload 4, 2) := by decide +kernel
theorem dX2_fits_19 : decode cX2_fits 19 = .ok (.invokestatic 112, 3) := by decide +kernel
theorem dX2_fits_22 : decode cX2_fits 22 = .ok (.aaload, 1) := by decide +kernel
theorem dX2_fits_23 : decode cX2_fits 23 = .ok (.invokevirtual 136, 3) := by decide +kernel
theorem dX2_fits_26 : decode cX2_fits 26 = .ok (.ireturn, 1) := by decide +kernel
set_option maxRecDepth 20000 in
theorem ggX2_toldBy_X2_requireQuestion : GoodIn wsX2_toldBy wsX2_requireQuestion := goodIn_ca (goodIn_ca (goodIn_r _ [4, 5, 6, 3, 7, 8, 9, 10, 11, 12, 13, 14, 15, 16, 17, 18, 19, 20] (by decide +kernel) (by decide +kernel)) (goodIn_sub (fun _ h => List.mem_cons_of_mem _ (List.mem_append_left _ (List.mem_append_right _ h))) (by decide +kernel))) (goodIn_sub (fun _ h => List.mem_cons_of_mem _ (List.mem_append_right _ h)) (by decide +kernel))
set_option maxRecDepth 20000 in
theorem gX2_toldBy_X2_requireQuestion : GoodIn wsX2_toldBy (va_wsS RX2 140 yX2_requireQuestion wsX2_requireQuestion) := goodIn_app (goodIn_of _ (by decide +kernel)) ggX2_toldBy_X2_requireQuestion
set_option maxRecDepth 20000 in
theorem ggX2_toldBy_X2_findAlongChain : GoodIn wsX2_toldBy wsX2_findAlongChain := goodIn_r _ [24, 25, 26, 27, 28, 3, 29, 30, 31, 32, 33, 34, 35, 36, 37, 38, 39, 40, 41, 42, 43, 44, 45, 46, 47, 48, 49, 50, 51, 52, 53, 54, 55, 56, 60, 61, 62, 63, 64, 65, 66, 67, 68, 69, 70, 71, 72] (by decide +kernel) (by decide +kernel)
set_option maxRecDepth 20000 in
theorem gX2_toldBy_X2_findAlongChain : GoodIn wsX2_toldBy (wsV RX2 143 RX2 yX2_findAlongChain wsX2_findAlongChain) := goodIn_app (goodIn_of _ (by decide +kernel)) ggX2_toldBy_X2_findAlongChain
set_option maxRecDepth 20000 in
theorem ggX2_toldBy_X2_languageOfSlot : GoodIn wsX2_toldBy wsX2_languageOfSlot := goodIn_r _ [59] (by decide +kernel) (by decide +kernel)
set_option maxRecDepth 20000 in
theorem gX2_toldBy_X2_languageOfSlot : GoodIn wsX2_toldBy (va_wsS RX2 146 yX2_languageOfSlot wsX2_languageOfSlot) := goodIn_app (goodIn_of _ (by decide +kernel)) ggX2_toldBy_X2_languageOfSlot
theorem dX2_toldBy_0 : decode cX2_toldBy 0 = .ok (.iload_n 1, 1) := by decide +kernel
theorem dX2_toldBy_1 : decode cX2_toldBy 1 = .ok (.iload_n 2, 1) := by decide +kernel
theorem dX2_toldBy_2 : decode cX2_toldBy 2 = .ok (.iload_n 3, 1) := by decide +kernel
theorem dX2_toldBy_3 : decode cX2_toldBy 3 = .ok (.iload 4, 2) := by decide +kernel
theorem dX2_toldBy_5 : decode cX2_toldBy 5 = .ok (.invokestatic 140, 3) := by decide +kernel
theorem dX2_toldBy_8 : decode cX2_toldBy 8 = .ok (.aload_n 0, 1) := by decide +kernel
theorem dX2_toldBy_9 : decode cX2_toldBy 9 = .ok (.iload_n 1, 1) := by decide +kernel
theorem dX2_toldBy_10 : decode cX2_toldBy 10 = .ok (.iload_n 2, 1) := by decide +kernel
theorem dX2_toldBy_11 : decode cX2_toldBy 11 = .ok (.iload_n 3, 1) := by decide +kernel
theorem dX2_toldBy_12 : decode cX2_toldBy 12 = .ok (.iload 4, 2) := by decide +kernel
theorem dX2_toldBy_14 : decode cX2_toldBy 14 = .ok (.invokevirtual 143, 3) := by decide +kernel
theorem dX2_toldBy_17 : decode cX2_toldBy 17 = .ok (.invokestatic 146, 3) := by decide +kernel
theorem dX2_toldBy_20 : decode cX2_toldBy 20 = .ok (.ireturn, 1) := by decide +kernel
set_option maxRecDepth 20000 in
theorem ggX2_toldByLooking_X2_requireQuestion : GoodIn wsX2_toldByLooking wsX2_requireQuestion := goodIn_ca (goodIn_ca (goodIn_r _ [4, 5, 6, 3, 7, 8, 9, 10, 11, 12, 13, 14, 15, 16, 17, 18, 19, 20] (by decide +kernel) (by decide +kernel)) (goodIn_sub (fun _ h => List.mem_cons_of_mem _ (List.mem_append_left _ (List.mem_append_right _ h))) (by decide +kernel))) (goodIn_sub (fun _ h => List.mem_cons_of_mem _ (List.mem_append_right _ h)) (by decide +kernel))
set_option maxRecDepth 20000 in
theorem gX2_toldByLooking_X2_requireQuestion : GoodIn wsX2_toldByLooking (va_wsS RX2 140 yX2_requireQuestion wsX2_requireQuestion) := goodIn_app (goodIn_of _ (by decide +kernel)) ggX2_toldByLooking_X2_requireQuestion
set_option maxRecDepth 20000 in
theorem ggX2_toldByLooking_X2_findByLooking : GoodIn wsX2_toldByLooking wsX2_findByLooking := goodIn_r _ [24, 25, 26, 27, 3, 28, 29, 30, 31, 32, 33, 34, 35, 36, 37, 38, 39, 40, 41, 42, 43, 44, 45, 46, 47, 48, 49, 50, 51, 52, 53, 54, 55, 56, 57, 58, 59, 60, 61, 62, 63, 64, 65, 66, 67, 68, 69, 70, 71, 72, 73, 74, 75] (by decide +kernel) (by decide +kernel)
set_option maxRecDepth 20000 in
theorem gX2_toldByLooking_X2_findByLooking : GoodIn wsX2_toldByLooking (wsV RX2 150 RX2 yX2_findByLooking wsX2_findByLooking) := goodIn_app (goodIn_of _ (by decide +kernel)) ggX2_toldByLooking_X2_findByLooking
set_option maxRecDepth 20000 in
theorem ggX2_toldByLooking_X2_languageOfSlot : GoodIn wsX2_toldByLooking wsX2_languageOfSlot := goodIn_r _ [38] (by decide +kernel) (by decide +kernel)
set_option maxRecDepth 20000 in
theorem gX2_toldByLooking_X2_languageOfSlot : GoodIn wsX2_toldByLooking (va_wsS RX2 146 yX2_languageOfSlot wsX2_languageOfSlot) := goodIn_app (goodIn_of _ (by decide +kernel)) ggX2_toldByLooking_X2_languageOfSlot
theorem dX2_toldByLooking_0 : decode cX2_toldByLooking 0 = .ok (.iload_n 1, 1) := by decide +kernel
theorem dX2_toldByLooking_1 : decode cX2_toldByLooking 1 = .ok (.iload_n 2, 1) := by decide +kernel
theorem dX2_toldByLooking_2 : decode cX2_toldByLooking 2 = .ok (.iload_n 3, 1) := by decide +kernel
theorem dX2_toldByLooking_3 : decode cX2_toldByLooking 3 = .ok (.iload 4, 2) := by decide +kernel
theorem dX2_toldByLooking_5 : decode cX2_toldByLooking 5 = .ok (.invokestatic 140, 3) := by decide +kernel
theorem dX2_toldByLooking_8 : decode cX2_toldByLooking 8 = .ok (.aload_n 0, 1) := by decide +kernel
theorem dX2_toldByLooking_9 : decode cX2_toldByLooking 9 = .ok (.iload_n 1, 1) := by decide +kernel
theorem dX2_toldByLooking_10 : decode cX2_toldByLooking 10 = .ok (.iload_n 2, 1) := by decide +kernel
theorem dX2_toldByLooking_11 : decode cX2_toldByLooking 11 = .ok (.iload_n 3, 1) := by decide +kernel
theorem dX2_toldByLooking_12 : decode cX2_toldByLooking 12 = .ok (.iload 4, 2) := by decide +kernel
theorem dX2_toldByLooking_14 : decode cX2_toldByLooking 14 = .ok (.invokevirtual 150, 3) := by decide +kernel
theorem dX2_toldByLooking_17 : decode cX2_toldByLooking 17 = .ok (.invokestatic 146, 3) := by decide +kernel
theorem dX2_toldByLooking_20 : decode cX2_toldByLooking 20 = .ok (.ireturn, 1) := by decide +kernel
set_option maxRecDepth 20000 in
theorem ggX2_toldForm_X2_requireQuestion : GoodIn wsX2_toldForm wsX2_requireQuestion := goodIn_ca (goodIn_ca (goodIn_r _ [4, 5, 6, 3, 7, 8, 9, 10, 11, 12, 13, 14, 15, 16, 17, 18, 19, 20] (by decide +kernel) (by decide +kernel)) (goodIn_sub (fun _ h => List.mem_cons_of_mem _ (List.mem_append_left _ (List.mem_append_right _ h))) (by decide +kernel))) (goodIn_sub (fun _ h => List.mem_cons_of_mem _ (List.mem_append_right _ h)) (by decide +kernel))
set_option maxRecDepth 20000 in
theorem gX2_toldForm_X2_requireQuestion : GoodIn wsX2_toldForm (va_wsS RX2 140 yX2_requireQuestion wsX2_requireQuestion) := goodIn_app (goodIn_of _ (by decide +kernel)) ggX2_toldForm_X2_requireQuestion
set_option maxRecDepth 20000 in
theorem ggX2_toldForm_X2_findAlongChain : GoodIn wsX2_toldForm wsX2_findAlongChain := goodIn_r _ [24, 25, 26, 27, 28, 3, 29, 30, 31, 32, 33, 34, 35, 36, 37, 38, 39, 40, 41, 42, 43, 44, 45, 46, 47, 48, 49, 50, 51, 52, 53, 54, 55, 56, 57, 58, 59, 60, 61, 62, 63, 64, 65, 66, 67, 68, 69] (by decide +kernel) (by decide +kernel)
set_option maxRecDepth 20000 in
theorem gX2_toldForm_X2_findAlongChain : GoodIn wsX2_toldForm (wsV RX2 143 RX2 yX2_findAlongChain wsX2_findAlongChain) := goodIn_app (goodIn_of _ (by decide +kernel)) ggX2_toldForm_X2_findAlongChain
theorem dX2_toldForm_0 : decode cX2_toldForm 0 = .ok (.iload_n 1, 1) := by decide +kernel
theorem dX2_toldForm_1 : decode cX2_toldForm 1 = .ok (.iload_n 2, 1) := by decide +kernel
theorem dX2_toldForm_2 : decode cX2_toldForm 2 = .ok (.iload_n 3, 1) := by decide +kernel
theorem dX2_toldForm_3 : decode cX2_toldForm 3 = .ok (.iload 4, 2) := by decide +kernel
theorem dX2_toldForm_5 : decode cX2_toldForm 5 = .ok (.invokestatic 140, 3) := by decide +kernel
theorem dX2_toldForm_8 : decode cX2_toldForm 8 = .ok (.aload_n 0, 1) := by decide +kernel
theorem dX2_toldForm_9 : decode cX2_toldForm 9 = .ok (.iload_n 1, 1) := by decide +kernel
theorem dX2_toldForm_10 : decode cX2_toldForm 10 = .ok (.iload_n 2, 1) := by decide +kernel
theorem dX2_toldForm_11 : decode cX2_toldForm 11 = .ok (.iload_n 3, 1) := by decide +kernel
theorem dX2_toldForm_12 : decode cX2_toldForm 12 = .ok (.iload 4, 2) := by decide +kernel
theorem dX2_toldForm_14 : decode cX2_toldForm 14 = .ok (.invokevirtual 143, 3) := by decide +kernel
theorem dX2_toldForm_17 : decode cX2_toldForm 17 = .ok (.istore 5, 2) := by decide +kernel
theorem dX2_toldForm_19 : decode cX2_toldForm 19 = .ok (.iload 5, 2) := by decide +kernel
theorem dX2_toldForm_21 : decode cX2_toldForm 21 = .ok (.iconst (-1), 1) := by decide +kernel
theorem dX2_toldForm_22 : decode cX2_toldForm 22 = .ok (.if_icmp .ne 7, 3) := by decide +kernel
theorem dX2_toldForm_25 : decode cX2_toldForm 25 = .ok (.iconst (-1), 1) := by decide +kernel
theorem dX2_toldForm_26 : decode cX2_toldForm 26 = .ok (.goto 8, 3) := by decide +kernel
theorem dX2_toldForm_29 : decode cX2_toldForm 29 = .ok (.iload 5, 2) := by decide +kernel
theorem dX2_toldForm_31 : decode cX2_toldForm 31 = .ok (.bipush 9, 2) := by decide +kernel
theorem dX2_toldForm_33 : decode cX2_toldForm 33 = .ok (.irem, 1) := by decide +kernel
theorem dX2_toldForm_34 : decode cX2_toldForm 34 = .ok (.ireturn, 1) := by decide +kernel
set_option maxRecDepth 20000 in
theorem ggX2_toldSign_X2_requireQuestion : GoodIn wsX2_toldSign wsX2_requireQuestion := goodIn_ca (goodIn_ca (goodIn_r _ [8, 9, 10, 7, 11, 1, 2, 12, 13, 14, 15, 16, 17, 18, 19, 20, 21, 22] (by decide +kernel) (by decide +kernel)) (goodIn_sub (fun _ h => List.mem_cons_of_mem _ (List.mem_append_left _ (List.mem_append_right _ h))) (by decide +kernel))) (goodIn_sub (fun _ h => List.mem_cons_of_mem _ (List.mem_append_right _ h)) (by decide +kernel))
set_option maxRecDepth 20000 in
theorem gX2_toldSign_X2_requireQuestion : GoodIn wsX2_toldSign (va_wsS RX2 140 yX2_requireQuestion wsX2_requireQuestion) := goodIn_app (goodIn_of _ (by decide +kernel)) ggX2_toldSign_X2_requireQuestion
set_option maxRecDepth 20000 in
theorem ggX2_toldSign_X2_findAlongChain : GoodIn wsX2_toldSign wsX2_findAlongChain := goodIn_r _ [26, 27, 28, 29, 30, 7, 31, 32, 33, 34, 35, 36, 37, 38, 39, 40, 41, 3, 42, 43, 44, 45, 46, 47, 48, 49, 50, 51, 52, 53, 54, 55, 56, 57, 58, 59, 60, 61, 62, 63, 64, 65, 66, 67, 68, 69, 70] (by decide +kernel) (by decide +kernel)
set_option maxRecDepth 20000 in
theorem gX2_toldSign_X2_findAlongChain : GoodIn wsX2_toldSign (wsV RX2 143 RX2 yX2_findAlongChain wsX2_findAlongChain) := goodIn_app (goodIn_of _ (by decide +kernel)) ggX2_toldSign_X2_findAlongChain
theorem dX2_toldSign_0 : decode cX2_toldSign 0 = .ok (.iload_n 1, 1) := by decide +kernel
theorem dX2_toldSign_1 : decode cX2_toldSign 1 = .ok (.iload_n 2, 1) := by decide +kernel
theorem dX2_toldSign_2 : decode cX2_toldSign 2 = .ok (.iload_n 3, 1) := by decide +kernel
theorem dX2_toldSign_3 : decode cX2_toldSign 3 = .ok (.iload 4, 2) := by decide +kernel
theorem dX2_toldSign_5 : decode cX2_toldSign 5 = .ok (.invokestatic 140, 3) := by decide +kernel
theorem dX2_toldSign_8 : decode cX2_toldSign 8 = .ok (.aload_n 0, 1) := by decide +kernel
theorem dX2_toldSign_9 : decode cX2_toldSign 9 = .ok (.iload_n 1, 1) := by decide +kernel
theorem dX2_toldSign_10 : decode cX2_toldSign 10 = .ok (.iload_n 2, 1) := by decide +kernel
theorem dX2_toldSign_11 : decode cX2_toldSign 11 = .ok (.iload_n 3, 1) := by decide +kernel
theorem dX2_toldSign_12 : decode cX2_toldSign 12 = .ok (.iload 4, 2) := by decide +kernel
theorem dX2_toldSign_14 : decode cX2_toldSign 14 = .ok (.invokevirtual 143, 3) := by decide +kernel
theorem dX2_toldSign_17 : decode cX2_toldSign 17 = .ok (.istore 6, 2) := by decide +kernel
theorem dX2_toldSign_19 : decode cX2_toldSign 19 = .ok (.iload 6, 2) := by decide +kernel
theorem dX2_toldSign_21 : decode cX2_toldSign 21 = .ok (.iconst (-1), 1) := by decide +kernel
theorem dX2_toldSign_22 : decode cX2_toldSign 22 = .ok (.if_icmp .ne 7, 3) := by decide +kernel
theorem dX2_toldSign_25 : decode cX2_toldSign 25 = .ok (.aconst_null, 1) := by decide +kernel
theorem dX2_toldSign_26 : decode cX2_toldSign 26 = .ok (.goto 10, 3) := by decide +kernel
theorem dX2_toldSign_29 : decode cX2_toldSign 29 = .ok (.aload_n 0, 1) := by decide +kernel
theorem dX2_toldSign_30 : decode cX2_toldSign 30 = .ok (.getfield 34, 3) := by decide +kernel
theorem dX2_toldSign_33 : decode cX2_toldSign 33 = .ok (.iload 6, 2) := by decide +kernel
theorem dX2_toldSign_35 : decode cX2_toldSign 35 = .ok (.aaload, 1) := by decide +kernel
theorem dX2_toldSign_36 : decode cX2_toldSign 36 = .ok (.astore 7, 2) := by decide +kernel
theorem dX2_toldSign_38 : decode cX2_toldSign 38 = .ok (.aload 7, 2) := by decide +kernel
theorem dX2_toldSign_40 : decode cX2_toldSign 40 = .ok (.ifnonnull 13, 3) := by decide +kernel
theorem dX2_toldSign_43 : decode cX2_toldSign 43 = .ok (.new 58, 3) := by decide +kernel
theorem dX2_toldSign_46 : decode cX2_toldSign 46 = .ok (.dup, 1) := by decide +kernel
theorem dX2_toldSign_47 : decode cX2_toldSign 47 = .ok (.ldc 153, 2) := by decide +kernel
theorem dX2_toldSign_49 : decode cX2_toldSign 49 = .ok (.invokespecial 62, 3) := by decide +kernel
theorem dX2_toldSign_52 : decode cX2_toldSign 52 = .ok (.athrow, 1) := by decide +kernel
theorem dX2_toldSign_53 : decode cX2_toldSign 53 = .ok (.iload 5, 2) := by decide +kernel
theorem dX2_toldSign_55 : decode cX2_toldSign 55 = .ok (.ifCond .lt 14, 3) := by decide +kernel
theorem dX2_toldSign_58 : decode cX2_toldSign 58 = .ok (.iload 5, 2) := by decide +kernel
theorem dX2_toldSign_60 : decode cX2_toldSign 60 = .ok (.aload 7, 2) := by decide +kernel
theorem dX2_toldSign_62 : decode cX2_toldSign 62 = .ok (.getfield 118, 3) := by decide +kernel
theorem dX2_toldSign_65 : decode cX2_toldSign 65 = .ok (.arraylength, 1) := by decide +kernel
theorem dX2_toldSign_66 : decode cX2_toldSign 66 = .ok (.if_icmp .lt 13, 3) := by decide +kernel
theorem dX2_toldSign_69 : decode cX2_toldSign 69 = .ok (.new 58, 3) := by decide +kernel
theorem dX2_toldSign_72 : decode cX2_toldSign 72 = .ok (.dup, 1) := by decide +kernel
theorem dX2_toldSign_73 : decode cX2_toldSign 73 = .ok (.ldc 155, 2) := by decide +kernel
theorem dX2_toldSign_75 : decode cX2_toldSign 75 = .ok (.invokespecial 62, 3) := by decide +kernel
theorem dX2_toldSign_78 : decode cX2_toldSign 78 = .ok (.athrow, 1) := by decide +kernel
theorem dX2_toldSign_79 : decode cX2_toldSign 79 = .ok (.aload 7, 2) := by decide +kernel
theorem dX2_toldSign_81 : decode cX2_toldSign 81 = .ok (.getfield 118, 3) := by decide +kernel
theorem dX2_toldSign_84 : decode cX2_toldSign 84 = .ok (.iload 5, 2) := by decide +kernel
theorem dX2_toldSign_86 : decode cX2_toldSign 86 = .ok (.iaload, 1) := by decide +kernel
theorem dX2_toldSign_87 : decode cX2_toldSign 87 = .ok (.ireturn, 1) := by decide +kernel
set_option maxRecDepth 20000 in
theorem ggX2_pairs_Jx4a65c_size_8abf5 : GoodIn wsX2_pairs wsJx4a65c_size_8abf5 := goodIn_r _ [6, 7, 18, 19, 20] (by decide +kernel) (by decide +kernel)
set_option maxRecDepth 20000 in
theorem gX2_pairs_Jx4a65c_size_8abf5 : GoodIn wsX2_pairs (wsV RX2 157 RJx4a65c yJx4a65c_size_8abf5 wsJx4a65c_size_8abf5) := goodIn_app (goodIn_of _ (by decide +kernel)) ggX2_pairs_Jx4a65c_size_8abf5
theorem dX2_pairs_0 : decode cX2_pairs 0 = .ok (.aload_n 0, 1) := by decide +kernel
theorem dX2_pairs_1 : decode cX2_pairs 1 = .ok (.getfield 47, 3) := by decide +kernel
theorem dX2_pairs_4 : decode cX2_pairs 4 = .ok (.invokevirtual 157, 3) := by decide +kernel
theorem dX2_pairs_7 : decode cX2_pairs 7 = .ok (.ireturn, 1) := by decide +kernel
set_option maxRecDepth 20000 in
theorem ggX2_nearDistance_X2_requireForm : GoodIn wsX2_nearDistance wsX2_requireForm := goodIn_ca (goodIn_r _ [6, 7, 8, 9, 10, 5, 11, 12, 13, 14, 15, 16, 17] (by decide +kernel) (by decide +kernel)) (goodIn_sub (fun _ h => List.mem_cons_of_mem _ (List.mem_append_right _ h)) (by decide +kernel))
set_option maxRecDepth 20000 in
theorem gX2_nearDistance_X2_requireForm : GoodIn wsX2_nearDistance (va_wsS RX2 91 yX2_requireForm wsX2_requireForm) := goodIn_app (goodIn_of _ (by decide +kernel)) ggX2_nearDistance_X2_requireForm
set_option maxRecDepth 20000 in
theorem ggX2_nearDistance_X2_slotOf : GoodIn wsX2_nearDistance wsX2_slotOf := goodIn_r _ [20, 21, 22, 5, 23] (by decide +kernel) (by decide +kernel)
set_option maxRecDepth 20000 in
theorem gX2_nearDistance_X2_slotOf : GoodIn wsX2_nearDistance (va_wsS RX2 112 yX2_slotOf wsX2_slotOf) := goodIn_app (goodIn_of _ (by decide +kernel)) ggX2_nearDistance_X2_slotOf
set_option maxRecDepth 20000 in
theorem ggX2_nearDistance_X2_findNear : GoodIn wsX2_nearDistance wsX2_findNear := goodIn_r _ [27, 28, 29, 30, 31, 2, 32, 33, 34, 35, 36, 37, 38, 39, 40, 41, 42, 43, 44, 45, 46, 47, 48, 49, 50, 51, 52, 53, 54, 55, 56, 57, 5, 58, 59, 60, 61, 62, 63, 77, 78, 79, 64, 65, 66, 67, 68, 69, 70, 71, 72, 73, 74, 75, 76, 80, 81, 82] (by decide +kernel) (by decide +kernel)
set_option maxRecDepth 20000 in
theorem gX2_nearDistance_X2_findNear : GoodIn wsX2_nearDistance (wsV RX2 161 RX2 yX2_findNear wsX2_findNear) := goodIn_app (goodIn_of _ (by decide +kernel)) ggX2_nearDistance_X2_findNear
set_option maxRecDepth 20000 in
theorem ggX2_nearDistance_X2_distance : GoodIn wsX2_nearDistance wsX2_distance := goodIn_r _ [58, 28, 59, 60, 61, 62, 63, 77, 78, 79, 64, 65, 66, 67, 68, 69, 70, 71, 72, 73] (by decide +kernel) (by decide +kernel)
set_option maxRecDepth 20000 in
theorem gX2_nearDistance_X2_distance : GoodIn wsX2_nearDistance (wsV RX2 171 RX2 yX2_distance wsX2_distance) := goodIn_app (goodIn_of _ (by decide +kernel)) ggX2_nearDistance_X2_distance
theorem dX2_nearDistance_0 : decode cX2_nearDistance 0 = .ok (.iload_n 1, 1) := by decide +kernel
theorem dX2_nearDistance_1 : decode cX2_nearDistance 1 = .ok (.iload_n 2, 1) := by decide +kernel
theorem dX2_nearDistance_2 : decode cX2_nearDistance 2 = .ok (.iload_n 3, 1) := by decide +kernel
theorem dX2_nearDistance_3 : decode cX2_nearDistance 3 = .ok (.iload 4, 2) := by decide +kernel
theorem dX2_nearDistance_5 : decode cX2_nearDistance 5 = .ok (.invokestatic 91, 3) := by decide +kernel
theorem dX2_nearDistance_8 : decode cX2_nearDistance 8 = .ok (.aload_n 0, 1) := by decide +kernel
theorem dX2_nearDistance_9 : decode cX2_nearDistance 9 = .ok (.getfield 34, 3) := by decide +kernel
theorem dX2_nearDistance_12 : decode cX2_nearDistance 12 = .ok (.iload_n 1, 1) := by decide +kernel
end
section
theorem dX2_nearDistance_13 : decode cX2_nearDistance 13 = .ok (.iconst 0, 1) := by decide +kernel
theorem dX2_nearDistance_14 : decode cX2_nearDistance 14 = .ok (.iload_n 3, 1) := by decide +kernel
theorem dX2_nearDistance_15 : decode cX2_nearDistance 15 = .ok (.iload 4, 2) := by decide +kernel
theorem dX2_nearDistance_17 : decode cX2_nearDistance 17 = .ok (.invokestatic 112, 3) := by decide +kernel
theorem dX2_nearDistance_20 : decode cX2_nearDistance 20 = .ok (.aaload, 1) := by decide +kernel
theorem dX2_nearDistance_21 : decode cX2_nearDistance 21 = .ok (.astore 5, 2) := by decide +kernel
theorem dX2_nearDistance_23 : decode cX2_nearDistance 23 = .ok (.aload_n 0, 1) := by decide +kernel
theorem dX2_nearDistance_24 : decode cX2_nearDistance 24 = .ok (.aload 5, 2) := by decide +kernel
theorem dX2_nearDistance_26 : decode cX2_nearDistance 26 = .ok (.iload_n 2, 1) := by decide +kernel
theorem dX2_nearDistance_27 : decode cX2_nearDistance 27 = .ok (.invokevirtual 161, 3) := by decide +kernel
theorem dX2_nearDistance_30 : decode cX2_nearDistance 30 = .ok (.astore 6, 2) := by decide +kernel
theorem dX2_nearDistance_32 : decode cX2_nearDistance 32 = .ok (.aload 5, 2) := by decide +kernel
theorem dX2_nearDistance_34 : decode cX2_nearDistance 34 = .ok (.ifnull 8, 3) := by decide +kernel
theorem dX2_nearDistance_37 : decode cX2_nearDistance 37 = .ok (.aload 6, 2) := by decide +kernel
theorem dX2_nearDistance_39 : decode cX2_nearDistance 39 = .ok (.ifnonnull 7, 3) := by decide +kernel
theorem dX2_nearDistance_42 : decode cX2_nearDistance 42 = .ok (.iconst (-1), 1) := by decide +kernel
theorem dX2_nearDistance_43 : decode cX2_nearDistance 43 = .ok (.goto 14, 3) := by decide +kernel
theorem dX2_nearDistance_46 : decode cX2_nearDistance 46 = .ok (.aload_n 0, 1) := by decide +kernel
theorem dX2_nearDistance_47 : decode cX2_nearDistance 47 = .ok (.aload 6, 2) := by decide +kernel
theorem dX2_nearDistance_49 : decode cX2_nearDistance 49 = .ok (.getfield 165, 3) := by decide +kernel
theorem dX2_nearDistance_52 : decode cX2_nearDistance 52 = .ok (.aload 5, 2) := by decide +kernel
theorem dX2_nearDistance_54 : decode cX2_nearDistance 54 = .ok (.invokevirtual 171, 3) := by decide +kernel
theorem dX2_nearDistance_57 : decode cX2_nearDistance 57 = .ok (.ireturn, 1) := by decide +kernel
set_option maxRecDepth 20000 in
theorem ggX2_nearSign_X2_requireForm : GoodIn wsX2_nearSign wsX2_requireForm := goodIn_ca (goodIn_r _ [9, 1, 2, 10, 11, 8, 12, 13, 14, 15, 16, 17, 18] (by decide +kernel) (by decide +kernel)) (goodIn_sub (fun _ h => List.mem_cons_of_mem _ (List.mem_append_right _ h)) (by decide +kernel))
set_option maxRecDepth 20000 in
theorem gX2_nearSign_X2_requireForm : GoodIn wsX2_nearSign (va_wsS RX2 91 yX2_requireForm wsX2_requireForm) := goodIn_app (goodIn_of _ (by decide +kernel)) ggX2_nearSign_X2_requireForm
set_option maxRecDepth 20000 in
theorem ggX2_nearSign_X2_slotOf : GoodIn wsX2_nearSign wsX2_slotOf := goodIn_r _ [21, 22, 23, 8, 24] (by decide +kernel) (by decide +kernel)
set_option maxRecDepth 20000 in
theorem gX2_nearSign_X2_slotOf : GoodIn wsX2_nearSign (va_wsS RX2 112 yX2_slotOf wsX2_slotOf) := goodIn_app (goodIn_of _ (by decide +kernel)) ggX2_nearSign_X2_slotOf
set_option maxRecDepth 20000 in
theorem ggX2_nearSign_X2_findNear : GoodIn wsX2_nearSign wsX2_findNear := goodIn_r _ [28, 5, 29, 30, 31, 32, 33, 34, 35, 36, 37, 38, 39, 40, 41, 42, 43, 44, 45, 46, 47, 48, 49, 50, 51, 52, 53, 54, 55, 56, 57, 58, 8, 59, 60, 61, 62, 63, 64, 78, 79, 80, 65, 66, 67, 68, 69, 70, 71, 72, 73, 74, 75, 76, 77, 81, 82, 83] (by decide +kernel) (by decide +kernel)
set_option maxRecDepth 20000 in
theorem gX2_nearSign_X2_findNear : GoodIn wsX2_nearSign (wsV RX2 161 RX2 yX2_findNear wsX2_findNear) := goodIn_app (goodIn_of _ (by decide +kernel)) ggX2_nearSign_X2_findNear
theorem dX2_nearSign_0 : decode cX2_nearSign 0 = .ok (.iload_n 1, 1) := by decide +kernel
theorem dX2_nearSign_1 : decode cX2_nearSign 1 = .ok (.iload_n 2, 1) := by decide +kernel
theorem dX2_nearSign_2 : decode cX2_nearSign 2 = .ok (.iload_n 3, 1) := by decide +kernel
theorem dX2_nearSign_3 : decode cX2_nearSign 3 = .ok (.iload 4, 2) := by decide +kernel
theorem dX2_nearSign_5 : decode cX2_nearSign 5 = .ok (.invokestatic 91, 3) := by decide +kernel
theorem dX2_nearSign_8 : decode cX2_nearSign 8 = .ok (.iload 5, 2) := by decide +kernel
theorem dX2_nearSign_10 : decode cX2_nearSign 10 = .ok (.ifCond .ge 13, 3) := by decide +kernel
theorem dX2_nearSign_13 : decode cX2_nearSign 13 = .ok (.new 58, 3) := by decide +kernel
theorem dX2_nearSign_16 : decode cX2_nearSign 16 = .ok (.dup, 1) := by decide +kernel
theorem dX2_nearSign_17 : decode cX2_nearSign 17 = .ok (.ldc 175, 2) := by decide +kernel
theorem dX2_nearSign_19 : decode cX2_nearSign 19 = .ok (.invokespecial 62, 3) := by decide +kernel
theorem dX2_nearSign_22 : decode cX2_nearSign 22 = .ok (.athrow, 1) := by decide +kernel
theorem dX2_nearSign_23 : decode cX2_nearSign 23 = .ok (.aload_n 0, 1) := by decide +kernel
theorem dX2_nearSign_24 : decode cX2_nearSign 24 = .ok (.aload_n 0, 1) := by decide +kernel
theorem dX2_nearSign_25 : decode cX2_nearSign 25 = .ok (.getfield 34, 3) := by decide +kernel
theorem dX2_nearSign_28 : decode cX2_nearSign 28 = .ok (.iload_n 1, 1) := by decide +kernel
theorem dX2_nearSign_29 : decode cX2_nearSign 29 = .ok (.iconst 0, 1) := by decide +kernel
theorem dX2_nearSign_30 : decode cX2_nearSign 30 = .ok (.iload_n 3, 1) := by decide +kernel
theorem dX2_nearSign_31 : decode cX2_nearSign 31 = .ok (.iload 4, 2) := by decide +kernel
theorem dX2_nearSign_33 : decode cX2_nearSign 33 = .ok (.invokestatic 112, 3) := by decide +kernel
theorem dX2_nearSign_36 : decode cX2_nearSign 36 = .ok (.aaload, 1) := by decide +kernel
theorem dX2_nearSign_37 : decode cX2_nearSign 37 = .ok (.iload_n 2, 1) := by decide +kernel
theorem dX2_nearSign_38 : decode cX2_nearSign 38 = .ok (.invokevirtual 161, 3) := by decide +kernel
theorem dX2_nearSign_41 : decode cX2_nearSign 41 = .ok (.astore 6, 2) := by decide +kernel
theorem dX2_nearSign_43 : decode cX2_nearSign 43 = .ok (.aload 6, 2) := by decide +kernel
theorem dX2_nearSign_45 : decode cX2_nearSign 45 = .ok (.ifnull 17, 3) := by decide +kernel
theorem dX2_nearSign_48 : decode cX2_nearSign 48 = .ok (.iload 5, 2) := by decide +kernel
theorem dX2_nearSign_50 : decode cX2_nearSign 50 = .ok (.aload 6, 2) := by decide +kernel
theorem dX2_nearSign_52 : decode cX2_nearSign 52 = .ok (.getfield 177, 3) := by decide +kernel
theorem dX2_nearSign_55 : decode cX2_nearSign 55 = .ok (.getfield 118, 3) := by decide +kernel
theorem dX2_nearSign_58 : decode cX2_nearSign 58 = .ok (.arraylength, 1) := by decide +kernel
theorem dX2_nearSign_59 : decode cX2_nearSign 59 = .ok (.if_icmp .lt 7, 3) := by decide +kernel
theorem dX2_nearSign_62 : decode cX2_nearSign 62 = .ok (.iconst 0, 1) := by decide +kernel
theorem dX2_nearSign_63 : decode cX2_nearSign 63 = .ok (.goto 14, 3) := by decide +kernel
theorem dX2_nearSign_66 : decode cX2_nearSign 66 = .ok (.aload 6, 2) := by decide +kernel
theorem dX2_nearSign_68 : decode cX2_nearSign 68 = .ok (.getfield 177, 3) := by decide +kernel
theorem dX2_nearSign_71 : decode cX2_nearSign 71 = .ok (.getfield 118, 3) := by decide +kernel
theorem dX2_nearSign_74 : decode cX2_nearSign 74 = .ok (.iload 5, 2) := by decide +kernel
theorem dX2_nearSign_76 : decode cX2_nearSign 76 = .ok (.iaload, 1) := by decide +kernel
theorem dX2_nearSign_77 : decode cX2_nearSign 77 = .ok (.ireturn, 1) := by decide +kernel
theorem dX2_requireKey_0 : decode cX2_requireKey 0 = .ok (.iload_n 0, 1) := by decide +kernel
theorem dX2_requireKey_1 : decode cX2_requireKey 1 = .ok (.ifCond .lt 9, 3) := by decide +kernel
theorem dX2_requireKey_4 : decode cX2_requireKey 4 = .ok (.iload_n 0, 1) := by decide +kernel
theorem dX2_requireKey_5 : decode cX2_requireKey 5 = .ok (.bipush 10, 2) := by decide +kernel
theorem dX2_requireKey_7 : decode cX2_requireKey 7 = .ok (.if_icmp .lt 13, 3) := by decide +kernel
theorem dX2_requireKey_10 : decode cX2_requireKey 10 = .ok (.new 58, 3) := by decide +kernel
theorem dX2_requireKey_13 : decode cX2_requireKey 13 = .ok (.dup, 1) := by decide +kernel
theorem dX2_requireKey_14 : decode cX2_requireKey 14 = .ok (.ldc 180, 2) := by decide +kernel
theorem dX2_requireKey_16 : decode cX2_requireKey 16 = .ok (.invokespecial 62, 3) := by decide +kernel
theorem dX2_requireKey_19 : decode cX2_requireKey 19 = .ok (.athrow, 1) := by decide +kernel
theorem dX2_requireKey_20 : decode cX2_requireKey 20 = .ok (.return_, 1) := by decide +kernel
theorem dX2_requireLanguage_0 : decode cX2_requireLanguage 0 = .ok (.iload_n 0, 1) := by decide +kernel
theorem dX2_requireLanguage_1 : decode cX2_requireLanguage 1 = .ok (.ifCond .lt 9, 3) := by decide +kernel
theorem dX2_requireLanguage_4 : decode cX2_requireLanguage 4 = .ok (.iload_n 0, 1) := by decide +kernel
theorem dX2_requireLanguage_5 : decode cX2_requireLanguage 5 = .ok (.bipush 6, 2) := by decide +kernel
theorem dX2_requireLanguage_7 : decode cX2_requireLanguage 7 = .ok (.if_icmp .lt 13, 3) := by decide +kernel
theorem dX2_requireLanguage_10 : decode cX2_requireLanguage 10 = .ok (.new 58, 3) := by decide +kernel
theorem dX2_requireLanguage_13 : decode cX2_requireLanguage 13 = .ok (.dup, 1) := by decide +kernel
theorem dX2_requireLanguage_14 : decode cX2_requireLanguage 14 = .ok (.ldc 182, 2) := by decide +kernel
theorem dX2_requireLanguage_16 : decode cX2_requireLanguage 16 = .ok (.invokespecial 62, 3) := by decide +kernel
theorem dX2_requireLanguage_19 : decode cX2_requireLanguage 19 = .ok (.athrow, 1) := by decide +kernel
theorem dX2_requireLanguage_20 : decode cX2_requireLanguage 20 = .ok (.return_, 1) := by decide +kernel
theorem dX2_requireGender_0 : decode cX2_requireGender 0 = .ok (.iload_n 0, 1) := by decide +kernel
theorem dX2_requireGender_1 : decode cX2_requireGender 1 = .ok (.ifCond .lt 8, 3) := by decide +kernel
theorem dX2_requireGender_4 : decode cX2_requireGender 4 = .ok (.iload_n 0, 1) := by decide +kernel
theorem dX2_requireGender_5 : decode cX2_requireGender 5 = .ok (.iconst 3, 1) := by decide +kernel
theorem dX2_requireGender_6 : decode cX2_requireGender 6 = .ok (.if_icmp .lt 13, 3) := by decide +kernel
theorem dX2_requireGender_9 : decode cX2_requireGender 9 = .ok (.new 58, 3) := by decide +kernel
theorem dX2_requireGender_12 : decode cX2_requireGender 12 = .ok (.dup, 1) := by decide +kernel
theorem dX2_requireGender_13 : decode cX2_requireGender 13 = .ok (.ldc 184, 2) := by decide +kernel
theorem dX2_requireGender_15 : decode cX2_requireGender 15 = .ok (.invokespecial 62, 3) := by decide +kernel
theorem dX2_requireGender_18 : decode cX2_requireGender 18 = .ok (.athrow, 1) := by decide +kernel
theorem dX2_requireGender_19 : decode cX2_requireGender 19 = .ok (.return_, 1) := by decide +kernel
set_option maxRecDepth 20000 in
theorem ggX2_requireForm_X2_requireKey : GoodIn wsX2_requireForm wsX2_requireKey := goodIn_ca (goodIn_r _ [6, 1, 2] (by decide +kernel) (by decide +kernel)) (goodIn_sub (fun _ h => List.mem_cons_of_mem _ (List.mem_append_right _ h)) (by decide +kernel))
set_option maxRecDepth 20000 in
theorem gX2_requireForm_X2_requireKey : GoodIn wsX2_requireForm (va_wsS RX2 127 yX2_requireKey wsX2_requireKey) := goodIn_app (goodIn_of _ (by decide +kernel)) ggX2_requireForm_X2_requireKey
set_option maxRecDepth 20000 in
theorem ggX2_requireForm_X2_requireLanguage : GoodIn wsX2_requireForm wsX2_requireLanguage := goodIn_ca (goodIn_r _ [9, 1, 2] (by decide +kernel) (by decide +kernel)) (goodIn_sub (fun _ h => List.mem_cons_of_mem _ (List.mem_append_right _ h)) (by decide +kernel))
set_option maxRecDepth 20000 in
theorem gX2_requireForm_X2_requireLanguage : GoodIn wsX2_requireForm (va_wsS RX2 54 yX2_requireLanguage wsX2_requireLanguage) := goodIn_app (goodIn_of _ (by decide +kernel)) ggX2_requireForm_X2_requireLanguage
set_option maxRecDepth 20000 in
theorem ggX2_requireForm_X2_requireGender : GoodIn wsX2_requireForm wsX2_requireGender := goodIn_ca (goodIn_r _ [12, 1, 2] (by decide +kernel) (by decide +kernel)) (goodIn_sub (fun _ h => List.mem_cons_of_mem _ (List.mem_append_right _ h)) (by decide +kernel))
set_option maxRecDepth 20000 in
theorem gX2_requireForm_X2_requireGender : GoodIn wsX2_requireForm (va_wsS RX2 188 yX2_requireGender wsX2_requireGender) := goodIn_app (goodIn_of _ (by decide +kernel)) ggX2_requireForm_X2_requireGender
theorem dX2_requireForm_0 : decode cX2_requireForm 0 = .ok (.iload_n 0, 1) := by decide +kernel
theorem dX2_requireForm_1 : decode cX2_requireForm 1 = .ok (.invokestatic 127, 3) := by decide +kernel
theorem dX2_requireForm_4 : decode cX2_requireForm 4 = .ok (.iload_n 1, 1) := by decide +kernel
theorem dX2_requireForm_5 : decode cX2_requireForm 5 = .ok (.invokestatic 54, 3) := by decide +kernel
theorem dX2_requireForm_8 : decode cX2_requireForm 8 = .ok (.iload_n 2, 1) := by decide +kernel
theorem dX2_requireForm_9 : decode cX2_requireForm 9 = .ok (.ifCond .lt 8, 3) := by decide +kernel
theorem dX2_requireForm_12 : decode cX2_requireForm 12 = .ok (.iload_n 2, 1) := by decide +kernel
theorem dX2_requireForm_13 : decode cX2_requireForm 13 = .ok (.iconst 3, 1) := by decide +kernel
theorem dX2_requireForm_14 : decode cX2_requireForm 14 = .ok (.if_icmp .lt 13, 3) := by decide +kernel
theorem dX2_requireForm_17 : decode cX2_requireForm 17 = .ok (.new 58, 3) := by decide +kernel
theorem dX2_requireForm_20 : decode cX2_requireForm 20 = .ok (.dup, 1) := by decide +kernel
theorem dX2_requireForm_21 : decode cX2_requireForm 21 = .ok (.ldc 186, 2) := by decide +kernel
theorem dX2_requireForm_23 : decode cX2_requireForm 23 = .ok (.invokespecial 62, 3) := by decide +kernel
theorem dX2_requireForm_26 : decode cX2_requireForm 26 = .ok (.athrow, 1) := by decide +kernel
theorem dX2_requireForm_27 : decode cX2_requireForm 27 = .ok (.iload_n 3, 1) := by decide +kernel
theorem dX2_requireForm_28 : decode cX2_requireForm 28 = .ok (.invokestatic 188, 3) := by decide +kernel
theorem dX2_requireForm_31 : decode cX2_requireForm 31 = .ok (.return_, 1) := by decide +kernel
theorem dX2_requireNumber_0 : decode cX2_requireNumber 0 = .ok (.iload_n 0, 1) := by decide +kernel
theorem dX2_requireNumber_1 : decode cX2_requireNumber 1 = .ok (.ifCond .ge 13, 3) := by decide +kernel
theorem dX2_requireNumber_4 : decode cX2_requireNumber 4 = .ok (.new 69, 3) := by decide +kernel
theorem dX2_requireNumber_7 : decode cX2_requireNumber 7 = .ok (.dup, 1) := by decide +kernel
theorem dX2_requireNumber_8 : decode cX2_requireNumber 8 = .ok (.ldc 191, 2) := by decide +kernel
theorem dX2_requireNumber_10 : decode cX2_requireNumber 10 = .ok (.invokespecial 73, 3) := by decide +kernel
theorem dX2_requireNumber_13 : decode cX2_requireNumber 13 = .ok (.athrow, 1) := by decide +kernel
theorem dX2_requireNumber_14 : decode cX2_requireNumber 14 = .ok (.return_, 1) := by decide +kernel
theorem dX2_requireNumberLimit_0 : decode cX2_requireNumberLimit 0 = .ok (.iload_n 0, 1) := by decide +kernel
theorem dX2_requireNumberLimit_1 : decode cX2_requireNumberLimit 1 = .ok (.ifCond .lt 9, 3) := by decide +kernel
theorem dX2_requireNumberLimit_4 : decode cX2_requireNumberLimit 4 = .ok (.iload_n 0, 1) := by decide +kernel
theorem dX2_requireNumberLimit_5 : decode cX2_requireNumberLimit 5 = .ok (.bipush 100, 2) := by decide +kernel
theorem dX2_requireNumberLimit_7 : decode cX2_requireNumberLimit 7 = .ok (.if_icmp .le 13, 3) := by decide +kernel
theorem dX2_requireNumberLimit_10 : decode cX2_requireNumberLimit 10 = .ok (.new 69, 3) := by decide +kernel
theorem dX2_requireNumberLimit_13 : decode cX2_requireNumberLimit 13 = .ok (.dup, 1) := by decide +kernel
theorem dX2_requireNumberLimit_14 : decode cX2_requireNumberLimit 14 = .ok (.ldc 193, 2) := by decide +kernel
theorem dX2_requireNumberLimit_16 : decode cX2_requireNumberLimit 16 = .ok (.invokespecial 73, 3) := by decide +kernel
theorem dX2_requireNumberLimit_19 : decode cX2_requireNumberLimit 19 = .ok (.athrow, 1) := by decide +kernel
theorem dX2_requireNumberLimit_20 : decode cX2_requireNumberLimit 20 = .ok (.return_, 1) := by decide +kernel
set_option maxRecDepth 20000 in
theorem ggX2_requireQuestion_X2_requireKey : GoodIn wsX2_requireQuestion wsX2_requireKey := goodIn_ca (goodIn_r _ [4, 5, 6] (by decide +kernel) (by decide +kernel)) (goodIn_sub (fun _ h => List.mem_cons_of_mem _ (List.mem_append_left _ (List.mem_append_right _ h))) (by decide +kernel))
set_option maxRecDepth 20000 in
theorem gX2_requireQuestion_X2_requireKey : GoodIn wsX2_requireQuestion (va_wsS RX2 127 yX2_requireKey wsX2_requireKey) := goodIn_app (goodIn_of _ (by decide +kernel)) ggX2_requireQuestion_X2_requireKey
set_option maxRecDepth 20000 in
theorem ggX2_requireQuestion_X2_requireLanguage : GoodIn wsX2_requireQuestion wsX2_requireLanguage := goodIn_ca (goodIn_r _ [9, 5, 6] (by decide +kernel) (by decide +kernel)) (goodIn_sub (fun _ h => List.mem_cons_of_mem _ (List.mem_append_left _ (List.mem_append_right _ h))) (by decide +kernel))
set_option maxRecDepth 20000 in
theorem gX2_requireQuestion_X2_requireLanguage : GoodIn wsX2_requireQuestion (va_wsS RX2 54 yX2_requireLanguage wsX2_requireLanguage) := goodIn_app (goodIn_of _ (by decide +kernel)) ggX2_requireQuestion_X2_requireLanguage
set_option maxRecDepth 20000 in
theorem ggX2_requireQuestion_X2_requireGender : GoodIn wsX2_requireQuestion wsX2_requireGender := goodIn_ca (goodIn_r _ [12, 5, 6] (by decide +kernel) (by decide +kernel)) (goodIn_sub (fun _ h => List.mem_cons_of_mem _ (List.mem_append_left _ (List.mem_append_right _ h))) (by decide +kernel))
set_option maxRecDepth 20000 in
theorem gX2_requireQuestion_X2_requireGender : GoodIn wsX2_requireQuestion (va_wsS RX2 188 yX2_requireGender wsX2_requireGender) := goodIn_app (goodIn_of _ (by decide +kernel)) ggX2_requireQuestion_X2_requireGender
set_option maxRecDepth 20000 in
theorem ggX2_requireQuestion_X2_requireNumber : GoodIn wsX2_requireQuestion wsX2_requireNumber := goodIn_ca (goodIn_r _ [15, 16, 17] (by decide +kernel) (by decide +kernel)) (goodIn_sub (fun _ h => List.mem_cons_of_mem _ (List.mem_append_right _ h)) (by decide +kernel))
set_option maxRecDepth 20000 in
theorem gX2_requireQuestion_X2_requireNumber : GoodIn wsX2_requireQuestion (va_wsS RX2 121 yX2_requireNumber wsX2_requireNumber) := goodIn_app (goodIn_of _ (by decide +kernel)) ggX2_requireQuestion_X2_requireNumber
theorem dX2_requireQuestion_0 : decode cX2_requireQuestion 0 = .ok (.iload_n 0, 1) := by decide +kernel
theorem dX2_requireQuestion_1 : decode cX2_requireQuestion 1 = .ok (.invokestatic 127, 3) := by decide +kernel
theorem dX2_requireQuestion_4 : decode cX2_requireQuestion 4 = .ok (.iload_n 1, 1) := by decide +kernel
theorem dX2_requireQuestion_5 : decode cX2_requireQuestion 5 = .ok (.invokestatic 54, 3) := by decide +kernel
theorem dX2_requireQuestion_8 : decode cX2_requireQuestion 8 = .ok (.iload_n 3, 1) := by decide +kernel
theorem dX2_requireQuestion_9 : decode cX2_requireQuestion 9 = .ok (.invokestatic 188, 3) := by decide +kernel
theorem dX2_requireQuestion_12 : decode cX2_requireQuestion 12 = .ok (.iload_n 2, 1) := by decide +kernel
theorem dX2_requireQuestion_13 : decode cX2_requireQuestion 13 = .ok (.invokestatic 121, 3) := by decide +kernel
theorem dX2_requireQuestion_16 : decode cX2_requireQuestion 16 = .ok (.return_, 1) := by decide +kernel
theorem dX2_isWord_0 : decode cX2_isWord 0 = .ok (.iload_n 0, 1) := by decide +kernel
theorem dX2_isWord_1 : decode cX2_isWord 1 = .ok (.iconst 1, 1) := by decide +kernel
theorem dX2_isWord_2 : decode cX2_isWord 2 = .ok (.if_icmp .lt 13, 3) := by decide +kernel
theorem dX2_isWord_5 : decode cX2_isWord 5 = .ok (.iload_n 0, 1) := by decide +kernel
theorem dX2_isWord_6 : decode cX2_isWord 6 = .ok (.bipush 99, 2) := by decide +kernel
theorem dX2_isWord_8 : decode cX2_isWord 8 = .ok (.if_icmp .gt 7, 3) := by decide +kernel
theorem dX2_isWord_11 : decode cX2_isWord 11 = .ok (.iconst 1, 1) := by decide +kernel
theorem dX2_isWord_12 : decode cX2_isWord 12 = .ok (.goto 4, 3) := by decide +kernel
theorem dX2_isWord_15 : decode cX2_isWord 15 = .ok (.iconst 0, 1) := by decide +kernel
theorem dX2_isWord_16 : decode cX2_isWord 16 = .ok (.ireturn, 1) := by decide +kernel
theorem dX2_isPlaceholder_0 : decode cX2_isPlaceholder 0 = .ok (.iload_n 0, 1) := by decide +kernel
theorem dX2_isPlaceholder_1 : decode cX2_isPlaceholder 1 = .ok (.bipush 101, 2) := by decide +kernel
theorem dX2_isPlaceholder_3 : decode cX2_isPlaceholder 3 = .ok (.if_icmp .lt 13, 3) := by decide +kernel
theorem dX2_isPlaceholder_6 : decode cX2_isPlaceholder 6 = .ok (.iload_n 0, 1) := by decide +kernel
theorem dX2_isPlaceholder_7 : decode cX2_isPlaceholder 7 = .ok (.bipush 104, 2) := by decide +kernel
theorem dX2_isPlaceholder_9 : decode cX2_isPlaceholder 9 = .ok (.if_icmp .gt 7, 3) := by decide +kernel
theorem dX2_isPlaceholder_12 : decode cX2_isPlaceholder 12 = .ok (.iconst 1, 1) := by decide +kernel
theorem dX2_isPlaceholder_13 : decode cX2_isPlaceholder 13 = .ok (.goto 4, 3) := by decide +kernel
theorem dX2_isPlaceholder_16 : decode cX2_isPlaceholder 16 = .ok (.iconst 0, 1) := by decide +kernel
theorem dX2_isPlaceholder_17 : decode cX2_isPlaceholder 17 = .ok (.ireturn, 1) := by decide +kernel
set_option maxRecDepth 20000 in
theorem ggX2_placeholdersOf_X2_isPlaceholder : GoodIn wsX2_placeholdersOf wsX2_isPlaceholder := goodIn_r _ [4] (by decide +kernel) (by decide +kernel)
set_option maxRecDepth 20000 in
theorem gX2_placeholdersOf_X2_isPlaceholder : GoodIn wsX2_placeholdersOf (va_wsS RX2 81 yX2_isPlaceholder wsX2_isPlaceholder) := goodIn_app (goodIn_of _ (by decide +kernel)) ggX2_placeholdersOf_X2_isPlaceholder
theorem dX2_placeholdersOf_0 : decode cX2_placeholdersOf 0 = .ok (.iconst 0, 1) := by decide +kernel
theorem dX2_placeholdersOf_1 : decode cX2_placeholdersOf 1 = .ok (.istore_n 1, 1) := by decide +kernel
theorem dX2_placeholdersOf_2 : decode cX2_placeholdersOf 2 = .ok (.iconst 0, 1) := by decide +kernel
theorem dX2_placeholdersOf_3 : decode cX2_placeholdersOf 3 = .ok (.istore_n 2, 1) := by decide +kernel
theorem dX2_placeholdersOf_4 : decode cX2_placeholdersOf 4 = .ok (.iload_n 2, 1) := by decide +kernel
theorem dX2_placeholdersOf_5 : decode cX2_placeholdersOf 5 = .ok (.aload_n 0, 1) := by decide +kernel
theorem dX2_placeholdersOf_6 : decode cX2_placeholdersOf 6 = .ok (.arraylength, 1) := by decide +kernel
theorem dX2_placeholdersOf_7 : decode cX2_placeholdersOf 7 = .ok (.if_icmp .ge 29, 3) := by decide +kernel
theorem dX2_placeholdersOf_10 : decode cX2_placeholdersOf 10 = .ok (.aload_n 0, 1) := by decide +kernel
theorem dX2_placeholdersOf_11 : decode cX2_placeholdersOf 11 = .ok (.iload_n 2, 1) := by decide +kernel
theorem dX2_placeholdersOf_12 : decode cX2_placeholdersOf 12 = .ok (.iaload, 1) := by decide +kernel
theorem dX2_placeholdersOf_13 : decode cX2_placeholdersOf 13 = .ok (.invokestatic 81, 3) := by decide +kernel
theorem dX2_placeholdersOf_16 : decode cX2_placeholdersOf 16 = .ok (.ifCond .eq 14, 3) := by decide +kernel
theorem dX2_placeholdersOf_19 : decode cX2_placeholdersOf 19 = .ok (.iload_n 1, 1) := by decide +kernel
theorem dX2_placeholdersOf_20 : decode cX2_placeholdersOf 20 = .ok (.iconst 1, 1) := by decide +kernel
theorem dX2_placeholdersOf_21 : decode cX2_placeholdersOf 21 = .ok (.aload_n 0, 1) := by decide +kernel
theorem dX2_placeholdersOf_22 : decode cX2_placeholdersOf 22 = .ok (.iload_n 2, 1) := by decide +kernel
theorem dX2_placeholdersOf_23 : decode cX2_placeholdersOf 23 = .ok (.iaload, 1) := by decide +kernel
theorem dX2_placeholdersOf_24 : decode cX2_placeholdersOf 24 = .ok (.bipush 101, 2) := by decide +kernel
theorem dX2_placeholdersOf_26 : decode cX2_placeholdersOf 26 = .ok (.isub, 1) := by decide +kernel
theorem dX2_placeholdersOf_27 : decode cX2_placeholdersOf 27 = .ok (.ishl, 1) := by decide +kernel
theorem dX2_placeholdersOf_28 : decode cX2_placeholdersOf 28 = .ok (.ior, 1) := by decide +kernel
theorem dX2_placeholdersOf_29 : decode cX2_placeholdersOf 29 = .ok (.istore_n 1, 1) := by decide +kernel
theorem dX2_placeholdersOf_30 : decode cX2_placeholdersOf 30 = .ok (.iinc 2 1, 3) := by decide +kernel
theorem dX2_placeholdersOf_33 : decode cX2_placeholdersOf 33 = .ok (.goto (-29), 3) := by decide +kernel
theorem dX2_placeholdersOf_36 : decode cX2_placeholdersOf 36 = .ok (.iload_n 1, 1) := by decide +kernel
theorem dX2_placeholdersOf_37 : decode cX2_placeholdersOf 37 = .ok (.ireturn, 1) := by decide +kernel
theorem dX2_textOf_0 : decode cX2_textOf 0 = .ok (.iload_n 0, 1) := by decide +kernel
theorem dX2_textOf_1 : decode cX2_textOf 1 = .ok (.bipush 6, 2) := by decide +kernel
theorem dX2_textOf_3 : decode cX2_textOf 3 = .ok (.imul, 1) := by decide +kernel
theorem dX2_textOf_4 : decode cX2_textOf 4 = .ok (.iload_n 1, 1) := by decide +kernel
theorem dX2_textOf_5 : decode cX2_textOf 5 = .ok (.iadd, 1) := by decide +kernel
theorem dX2_textOf_6 : decode cX2_textOf 6 = .ok (.ireturn, 1) := by decide +kernel
set_option maxRecDepth 20000 in
theorem ggX2_slotOf_X2_textOf : GoodIn wsX2_slotOf wsX2_textOf := goodIn_r _ [4] (by decide +kernel) (by decide +kernel)
set_option maxRecDepth 20000 in
theorem gX2_slotOf_X2_textOf : GoodIn wsX2_slotOf (va_wsS RX2 133 yX2_textOf wsX2_textOf) := goodIn_app (goodIn_of _ (by decide +kernel)) ggX2_slotOf_X2_textOf
theorem dX2_slotOf_0 : decode cX2_slotOf 0 = .ok (.iload_n 0, 1) := by decide +kernel
theorem dX2_slotOf_1 : decode cX2_slotOf 1 = .ok (.iload_n 1, 1) := by decide +kernel
theorem dX2_slotOf_2 : decode cX2_slotOf 2 = .ok (.invokestatic 133, 3) := by decide +kernel
theorem dX2_slotOf_5 : decode cX2_slotOf 5 = .ok (.bipush 9, 2) := by decide +kernel
theorem dX2_slotOf_7 : decode cX2_slotOf 7 = .ok (.imul, 1) := by decide +kernel
theorem dX2_slotOf_8 : decode cX2_slotOf 8 = .ok (.iload_n 2, 1) := by decide +kernel
theorem dX2_slotOf_9 : decode cX2_slotOf 9 = .ok (.iconst 3, 1) := by decide +kernel
theorem dX2_slotOf_10 : decode cX2_slotOf 10 = .ok (.imul, 1) := by decide +kernel
theorem dX2_slotOf_11 : decode cX2_slotOf 11 = .ok (.iadd, 1) := by decide +kernel
theorem dX2_slotOf_12 : decode cX2_slotOf 12 = .ok (.iload_n 3, 1) := by decide +kernel
theorem dX2_slotOf_13 : decode cX2_slotOf 13 = .ok (.iadd, 1) := by decide +kernel
theorem dX2_slotOf_14 : decode cX2_slotOf 14 = .ok (.ireturn, 1) := by decide +kernel
theorem dX2_languageOfSlot_0 : decode cX2_languageOfSlot 0 = .ok (.iload_n 0, 1) := by decide +kernel
theorem dX2_languageOfSlot_1 : decode cX2_languageOfSlot 1 = .ok (.iconst (-1), 1) := by decide +kernel
theorem dX2_languageOfSlot_2 : decode cX2_languageOfSlot 2 = .ok (.if_icmp .ne 7, 3) := by decide +kernel
theorem dX2_languageOfSlot_5 : decode cX2_languageOfSlot 5 = .ok (.iconst (-1), 1) := by decide +kernel
theorem dX2_languageOfSlot_6 : decode cX2_languageOfSlot 6 = .ok (.goto 10, 3) := by decide +kernel
theorem dX2_languageOfSlot_9 : decode cX2_languageOfSlot 9 = .ok (.iload_n 0, 1) := by decide +kernel
theorem dX2_languageOfSlot_10 : decode cX2_languageOfSlot 10 = .ok (.bipush 9, 2) := by decide +kernel
theorem dX2_languageOfSlot_12 : decode cX2_languageOfSlot 12 = .ok (.idiv, 1) := by decide +kernel
theorem dX2_languageOfSlot_13 : decode cX2_languageOfSlot 13 = .ok (.bipush 6, 2) := by decide +kernel
theorem dX2_languageOfSlot_15 : decode cX2_languageOfSlot 15 = .ok (.irem, 1) := by decide +kernel
theorem dX2_languageOfSlot_16 : decode cX2_languageOfSlot 16 = .ok (.ireturn, 1) := by decide +kernel
theorem dX2_chainPlace_0 : decode cX2_chainPlace 0 = .ok (.iload_n 1, 1) := by decide +kernel
theorem dX2_chainPlace_1 : decode cX2_chainPlace 1 = .ok (.istore_n 3, 1) := by decide +kernel
theorem dX2_chainPlace_2 : decode cX2_chainPlace 2 = .ok (.iconst 0, 1) := by decide +kernel
theorem dX2_chainPlace_3 : decode cX2_chainPlace 3 = .ok (.istore 4, 2) := by decide +kernel
theorem dX2_chainPlace_5 : decode cX2_chainPlace 5 = .ok (.iload 4, 2) := by decide +kernel
theorem dX2_chainPlace_7 : decode cX2_chainPlace 7 = .ok (.bipush 6, 2) := by decide +kernel
theorem dX2_chainPlace_9 : decode cX2_chainPlace 9 = .ok (.if_icmp .ge 30, 3) := by decide +kernel
theorem dX2_chainPlace_12 : decode cX2_chainPlace 12 = .ok (.iload_n 3, 1) := by decide +kernel
theorem dX2_chainPlace_13 : decode cX2_chainPlace 13 = .ok (.iload_n 2, 1) := by decide +kernel
theorem dX2_chainPlace_14 : decode cX2_chainPlace 14 = .ok (.if_icmp .ne 6, 3) := by decide +kernel
theorem dX2_chainPlace_17 : decode cX2_chainPlace 17 = .ok (.iload 4, 2) := by decide +kernel
theorem dX2_chainPlace_19 : decode cX2_chainPlace 19 = .ok (.ireturn, 1) := by decide +kernel
theorem dX2_chainPlace_20 : decode cX2_chainPlace 20 = .ok (.iload_n 3, 1) := by decide +kernel
theorem dX2_chainPlace_21 : decode cX2_chainPlace 21 = .ok (.ifCond .ne 5, 3) := by decide +kernel
theorem dX2_chainPlace_24 : decode cX2_chainPlace 24 = .ok (.iconst (-1), 1) := by decide +kernel
theorem dX2_chainPlace_25 : decode cX2_chainPlace 25 = .ok (.ireturn, 1) := by decide +kernel
theorem dX2_chainPlace_26 : decode cX2_chainPlace 26 = .ok (.aload_n 0, 1) := by decide +kernel
theorem dX2_chainPlace_27 : decode cX2_chainPlace 27 = .ok (.getfield 9, 3) := by decide +kernel
theorem dX2_chainPlace_30 : decode cX2_chainPlace 30 = .ok (.iload_n 3, 1) := by decide +kernel
theorem dX2_chainPlace_31 : decode cX2_chainPlace 31 = .ok (.iaload, 1) := by decide +kernel
theorem dX2_chainPlace_32 : decode cX2_chainPlace 32 = .ok (.istore_n 3, 1) := by decide +kernel
theorem dX2_chainPlace_33 : decode cX2_chainPlace 33 = .ok (.iinc 4 1, 3) := by decide +kernel
theorem dX2_chainPlace_36 : decode cX2_chainPlace 36 = .ok (.goto (-31), 3) := by decide +kernel
theorem dX2_chainPlace_39 : decode cX2_chainPlace 39 = .ok (.iconst (-1), 1) := by decide +kernel
theorem dX2_chainPlace_40 : decode cX2_chainPlace 40 = .ok (.ireturn, 1) := by decide +kernel
theorem dX2_classOf_0 : decode cX2_classOf 0 = .ok (.iload_n 2, 1) := by decide +kernel
theorem dX2_classOf_1 : decode cX2_classOf 1 = .ok (.ifCond .ne 5, 3) := by decide +kernel
theorem dX2_classOf_4 : decode cX2_classOf 4 = .ok (.iconst 2, 1) := by decide +kernel
theorem dX2_classOf_5 : decode cX2_classOf 5 = .ok (.ireturn, 1) := by decide +kernel
theorem dX2_classOf_6 : decode cX2_classOf 6 = .ok (.iload_n 2, 1) := by decide +kernel
theorem dX2_classOf_7 : decode cX2_classOf 7 = .ok (.aload_n 0, 1) := by decide +kernel
theorem dX2_classOf_8 : decode cX2_classOf 8 = .ok (.getfield 13, 3) := by decide +kernel
theorem dX2_classOf_11 : decode cX2_classOf 11 = .ok (.iload_n 1, 1) := by decide +kernel
theorem dX2_classOf_12 : decode cX2_classOf 12 = .ok (.iaload, 1) := by decide +kernel
theorem dX2_classOf_13 : decode cX2_classOf 13 = .ok (.if_icmp .gt 5, 3) := by decide +kernel
theorem dX2_classOf_16 : decode cX2_classOf 16 = .ok (.iconst 0, 1) := by decide +kernel
theorem dX2_classOf_17 : decode cX2_classOf 17 = .ok (.ireturn, 1) := by decide +kernel
theorem dX2_classOf_18 : decode cX2_classOf 18 = .ok (.iload_n 2, 1) := by decide +kernel
theorem dX2_classOf_19 : decode cX2_classOf 19 = .ok (.aload_n 0, 1) := by decide +kernel
theorem dX2_classOf_20 : decode cX2_classOf 20 = .ok (.getfield 16, 3) := by decide +kernel
theorem dX2_classOf_23 : decode cX2_classOf 23 = .ok (.iload_n 1, 1) := by decide +kernel
theorem dX2_classOf_24 : decode cX2_classOf 24 = .ok (.iaload, 1) := by decide +kernel
theorem dX2_classOf_25 : decode cX2_classOf 25 = .ok (.if_icmp .gt 7, 3) := by decide +kernel
theorem dX2_classOf_28 : decode cX2_classOf 28 = .ok (.iconst 1, 1) := by decide +kernel
theorem dX2_classOf_29 : decode cX2_classOf 29 = .ok (.goto 4, 3) := by decide +kernel
theorem dX2_classOf_32 : decode cX2_classOf 32 = .ok (.iconst 2, 1) := by decide +kernel
theorem dX2_classOf_33 : decode cX2_classOf 33 = .ok (.ireturn, 1) := by decide +kernel
set_option maxRecDepth 20000 in
theorem ggX2_countForms_X2_slotOf : GoodIn wsX2_countForms wsX2_slotOf := goodIn_r _ [5, 6, 7, 4, 8] (by decide +kernel) (by decide +kernel)
set_option maxRecDepth 20000 in
theorem gX2_countForms_X2_slotOf : GoodIn wsX2_countForms (va_wsS RX2 112 yX2_slotOf wsX2_slotOf) := goodIn_app (goodIn_of _ (by decide +kernel)) ggX2_countForms_X2_slotOf
theorem dX2_countForms_0 : decode cX2_countForms 0 = .ok (.iload_n 1, 1) := by decide +kernel
theorem dX2_countForms_1 : decode cX2_countForms 1 = .ok (.iload_n 2, 1) := by decide +kernel
theorem dX2_countForms_2 : decode cX2_countForms 2 = .ok (.iconst 0, 1) := by decide +kernel
theorem dX2_countForms_3 : decode cX2_countForms 3 = .ok (.iconst 0, 1) := by decide +kernel
theorem dX2_countForms_4 : decode cX2_countForms 4 = .ok (.invokestatic 112, 3) := by decide +kernel
theorem dX2_countForms_7 : decode cX2_countForms 7 = .ok (.istore_n 3, 1) := by decide +kernel
theorem dX2_countForms_8 : decode cX2_countForms 8 = .ok (.iconst 0, 1) := by decide +kernel
theorem dX2_countForms_9 : decode cX2_countForms 9 = .ok (.istore 4, 2) := by decide +kernel
theorem dX2_countForms_11 : decode cX2_countForms 11 = .ok (.iconst 0, 1) := by decide +kernel
theorem dX2_countForms_12 : decode cX2_countForms 12 = .ok (.istore 5, 2) := by decide +kernel
theorem dX2_countForms_14 : decode cX2_countForms 14 = .ok (.iload 5, 2) := by decide +kernel
theorem dX2_countForms_16 : decode cX2_countForms 16 = .ok (.bipush 9, 2) := by decide +kernel
theorem dX2_countForms_18 : decode cX2_countForms 18 = .ok (.if_icmp .ge 24, 3) := by decide +kernel
theorem dX2_countForms_21 : decode cX2_countForms 21 = .ok (.aload_n 0, 1) := by decide +kernel
theorem dX2_countForms_22 : decode cX2_countForms 22 = .ok (.getfield 34, 3) := by decide +kernel
theorem dX2_countForms_25 : decode cX2_countForms 25 = .ok (.iload_n 3, 1) := by decide +kernel
theorem dX2_countForms_26 : decode cX2_countForms 26 = .ok (.iload 5, 2) := by decide +kernel
theorem dX2_countForms_28 : decode cX2_countForms 28 = .ok (.iadd, 1) := by decide +kernel
theorem dX2_countForms_29 : decode cX2_countForms 29 = .ok (.aaload, 1) := by decide +kernel
theorem dX2_countForms_30 : decode cX2_countForms 30 = .ok (.ifnull 6, 3) := by decide +kernel
theorem dX2_countForms_33 : decode cX2_countForms 33 = .ok (.iinc 4 1, 3) := by decide +kernel
theorem dX2_countForms_36 : decode cX2_countForms 36 = .ok (.iinc 5 1, 3) := by decide +kernel
theorem dX2_countForms_39 : decode cX2_countForms 39 = .ok (.goto (-25), 3) := by decide +kernel
theorem dX2_countForms_42 : decode cX2_countForms 42 = .ok (.iload 4, 2) := by decide +kernel
theorem dX2_countForms_44 : decode cX2_countForms 44 = .ok (.ireturn, 1) := by decide +kernel
set_option maxRecDepth 20000 in
theorem ggX2_change_X2_slotOf : GoodIn wsX2_change wsX2_slotOf := goodIn_r _ [7, 8, 9, 6, 10] (by decide +kernel) (by decide +kernel)
set_option maxRecDepth 20000 in
theorem gX2_change_X2_slotOf : GoodIn wsX2_change (va_wsS RX2 112 yX2_slotOf wsX2_slotOf) := goodIn_app (goodIn_of _ (by decide +kernel)) ggX2_change_X2_slotOf
set_option maxRecDepth 20000 in
theorem ggX2_change_X2_keepPairs : GoodIn wsX2_change wsX2_keepPairs := goodIn_r _ [14, 1, 15, 16, 17, 4, 5, 6, 7, 8, 9, 10, 18, 19, 20, 21, 22, 23, 24, 25, 26, 27, 28, 29, 30, 31, 32, 33, 34, 35, 36, 37, 38, 39, 40, 41, 42, 43, 44, 45, 46, 47, 48, 49, 50, 51, 52, 53, 54, 55, 56, 57, 58, 59, 60, 61, 62, 63, 64, 65, 66, 67, 68, 69, 70, 71, 72, 73, 74, 75, 76, 77, 78, 79, 80, 81, 82, 83, 84, 85, 86, 87, 88, 89, 90, 91, 92, 93, 94, 95, 96, 97, 98, 99, 100, 101, 102, 103, 104, 105, 106, 107, 108, 109, 110, 111, 112, 113, 114, 115, 116, 117, 118, 119, 120, 121, 122, 123, 124] (by decide +kernel) (by decide +kernel)
set_option maxRecDepth 20000 in
theorem gX2_change_X2_keepPairs : GoodIn wsX2_change (wsV RX2 195 RX2 yX2_keepPairs wsX2_keepPairs) := goodIn_app (goodIn_of _ (by decide +kernel)) ggX2_change_X2_keepPairs
set_option maxRecDepth 20000 in
theorem ggX2_change_X2_textOf : GoodIn wsX2_change wsX2_textOf := goodIn_r _ [10] (by decide +kernel) (by decide +kernel)
set_option maxRecDepth 20000 in
theorem gX2_change_X2_textOf : GoodIn wsX2_change (va_wsS RX2 133 yX2_textOf wsX2_textOf) := goodIn_app (goodIn_of _ (by decide +kernel)) ggX2_change_X2_textOf
theorem dX2_change_0 : decode cX2_change 0 = .ok (.iload_n 1, 1) := by decide +kernel
theorem dX2_change_1 : decode cX2_change 1 = .ok (.iload_n 2, 1) := by decide +kernel
theorem dX2_change_2 : decode cX2_change 2 = .ok (.iload_n 3, 1) := by decide +kernel
theorem dX2_change_3 : decode cX2_change 3 = .ok (.iload 4, 2) := by decide +kernel
theorem dX2_change_5 : decode cX2_change 5 = .ok (.invokestatic 112, 3) := by decide +kernel
theorem dX2_change_8 : decode cX2_change 8 = .ok (.istore 6, 2) := by decide +kernel
theorem dX2_change_10 : decode cX2_change 10 = .ok (.iload_n 2, 1) := by decide +kernel
theorem dX2_change_11 : decode cX2_change 11 = .ok (.ifCond .ne 31, 3) := by decide +kernel
theorem dX2_change_14 : decode cX2_change 14 = .ok (.aload_n 0, 1) := by decide +kernel
theorem dX2_change_15 : decode cX2_change 15 = .ok (.iload_n 1, 1) := by decide +kernel
theorem dX2_change_16 : decode cX2_change 16 = .ok (.iload_n 3, 1) := by decide +kernel
theorem dX2_change_17 : decode cX2_change 17 = .ok (.iload 4, 2) := by decide +kernel
theorem dX2_change_19 : decode cX2_change 19 = .ok (.aload_n 0, 1) := by decide +kernel
theorem dX2_change_20 : decode cX2_change 20 = .ok (.getfield 34, 3) := by decide +kernel
theorem dX2_change_23 : decode cX2_change 23 = .ok (.iload 6, 2) := by decide +kernel
theorem dX2_change_25 : decode cX2_change 25 = .ok (.aaload, 1) := by decide +kernel
theorem dX2_change_26 : decode cX2_change 26 = .ok (.invokevirtual 195, 3) := by decide +kernel
theorem dX2_change_29 : decode cX2_change 29 = .ok (.aload_n 0, 1) := by decide +kernel
theorem dX2_change_30 : decode cX2_change 30 = .ok (.getfield 38, 3) := by decide +kernel
theorem dX2_change_33 : decode cX2_change 33 = .ok (.iload_n 1, 1) := by decide +kernel
theorem dX2_change_34 : decode cX2_change 34 = .ok (.dup2, 1) := by decide +kernel
theorem dX2_change_35 : decode cX2_change 35 = .ok (.iaload, 1) := by decide +kernel
theorem dX2_change_36 : decode cX2_change 36 = .ok (.iconst 1, 1) := by decide +kernel
theorem dX2_change_37 : decode cX2_change 37 = .ok (.iadd, 1) := by decide +kernel
theorem dX2_change_38 : decode cX2_change 38 = .ok (.iastore, 1) := by decide +kernel
theorem dX2_change_39 : decode cX2_change 39 = .ok (.goto 19, 3) := by decide +kernel
theorem dX2_change_42 : decode cX2_change 42 = .ok (.aload_n 0, 1) := by decide +kernel
theorem dX2_change_43 : decode cX2_change 43 = .ok (.getfield 41, 3) := by decide +kernel
theorem dX2_change_46 : decode cX2_change 46 = .ok (.iload_n 1, 1) := by decide +kernel
theorem dX2_change_47 : decode cX2_change 47 = .ok (.iload_n 2, 1) := by decide +kernel
theorem dX2_change_48 : decode cX2_change 48 = .ok (.invokestatic 133, 3) := by decide +kernel
theorem dX2_change_51 : decode cX2_change 51 = .ok (.aload_n 0, 1) := by decide +kernel
theorem dX2_change_52 : decode cX2_change 52 = .ok (.getfield 38, 3) := by decide +kernel
theorem dX2_change_55 : decode cX2_change 55 = .ok (.iload_n 1, 1) := by decide +kernel
theorem dX2_change_56 : decode cX2_change 56 = .ok (.iaload, 1) := by decide +kernel
theorem dX2_change_57 : decode cX2_change 57 = .ok (.iastore, 1) := by decide +kernel
theorem dX2_change_58 : decode cX2_change 58 = .ok (.aload_n 0, 1) := by decide +kernel
theorem dX2_change_59 : decode cX2_change 59 = .ok (.getfield 34, 3) := by decide +kernel
theorem dX2_change_62 : decode cX2_change 62 = .ok (.iload 6, 2) := by decide +kernel
theorem dX2_change_64 : decode cX2_change 64 = .ok (.aload 5, 2) := by decide +kernel
theorem dX2_change_66 : decode cX2_change 66 = .ok (.aastore, 1) := by decide +kernel
theorem dX2_change_67 : decode cX2_change 67 = .ok (.return_, 1) := by decide +kernel
set_option maxRecDepth 20000 in
theorem ggX2_sourcePlaceholders_X2_slotOf : GoodIn wsX2_sourcePlaceholders wsX2_slotOf := goodIn_r _ [6, 7, 8, 5, 9] (by decide +kernel) (by decide +kernel)
set_option maxRecDepth 20000 in
theorem gX2_sourcePlaceholders_X2_slotOf : GoodIn wsX2_sourcePlaceholders (va_wsS RX2 112 yX2_slotOf wsX2_slotOf) := goodIn_app (goodIn_of _ (by decide +kernel)) ggX2_sourcePlaceholders_X2_slotOf
theorem dX2_sourcePlaceholders_0 : decode cX2_sourcePlaceholders 0 = .ok (.iload_n 1, 1) := by decide +kernel
theorem dX2_sourcePlaceholders_1 : decode cX2_sourcePlaceholders 1 = .ok (.iconst 0, 1) := by decide +kernel
theorem dX2_sourcePlaceholders_2 : decode cX2_sourcePlaceholders 2 = .ok (.iconst 0, 1) := by decide +kernel
theorem dX2_sourcePlaceholders_3 : decode cX2_sourcePlaceholders 3 = .ok (.iconst 0, 1) := by decide +kernel
theorem dX2_sourcePlaceholders_4 : decode cX2_sourcePlaceholders 4 = .ok (.invokestatic 112, 3) := by decide +kernel
theorem dX2_sourcePlaceholders_7 : decode cX2_sourcePlaceholders 7 = .ok (.istore_n 2, 1) := by decide +kernel
theorem dX2_sourcePlaceholders_8 : decode cX2_sourcePlaceholders 8 = .ok (.iconst 0, 1) := by decide +kernel
theorem dX2_sourcePlaceholders_9 : decode cX2_sourcePlaceholders 9 = .ok (.istore_n 3, 1) := by decide +kernel
theorem dX2_sourcePlaceholders_10 : decode cX2_sourcePlaceholders 10 = .ok (.iconst 0, 1) := by decide +kernel
theorem dX2_sourcePlaceholders_11 : decode cX2_sourcePlaceholders 11 = .ok (.istore 4, 2) := by decide +kernel
theorem dX2_sourcePlaceholders_13 : decode cX2_sourcePlaceholders 13 = .ok (.iload 4, 2) := by decide +kernel
theorem dX2_sourcePlaceholders_15 : decode cX2_sourcePlaceholders 15 = .ok (.bipush 9, 2) := by decide +kernel
theorem dX2_sourcePlaceholders_17 : decode cX2_sourcePlaceholders 17 = .ok (.if_icmp .ge 33, 3) := by decide +kernel
theorem dX2_sourcePlaceholders_20 : decode cX2_sourcePlaceholders 20 = .ok (.aload_n 0, 1) := by decide +kernel
theorem dX2_sourcePlaceholders_21 : decode cX2_sourcePlaceholders 21 = .ok (.getfield 34, 3) := by decide +kernel
theorem dX2_sourcePlaceholders_24 : decode cX2_sourcePlaceholders 24 = .ok (.iload_n 2, 1) := by decide +kernel
theorem dX2_sourcePlaceholders_25 : decode cX2_sourcePlaceholders 25 = .ok (.iload 4, 2) := by decide +kernel
theorem dX2_sourcePlaceholders_27 : decode cX2_sourcePlaceholders 27 = .ok (.iadd, 1) := by decide +kernel
theorem dX2_sourcePlaceholders_28 : decode cX2_sourcePlaceholders 28 = .ok (.aaload, 1) := by decide +kernel
theorem dX2_sourcePlaceholders_29 : decode cX2_sourcePlaceholders 29 = .ok (.astore 5, 2) := by decide +kernel
theorem dX2_sourcePlaceholders_31 : decode cX2_sourcePlaceholders 31 = .ok (.aload 5, 2) := by decide +kernel
theorem dX2_sourcePlaceholders_33 : decode cX2_sourcePlaceholders 33 = .ok (.ifnull 11, 3) := by decide +kernel
theorem dX2_sourcePlaceholders_36 : decode cX2_sourcePlaceholders 36 = .ok (.iload_n 3, 1) := by decide +kernel
theorem dX2_sourcePlaceholders_37 : decode cX2_sourcePlaceholders 37 = .ok (.aload 5, 2) := by decide +kernel
theorem dX2_sourcePlaceholders_39 : decode cX2_sourcePlaceholders 39 = .ok (.getfield 199, 3) := by decide +kernel
theorem dX2_sourcePlaceholders_42 : decode cX2_sourcePlaceholders 42 = .ok (.ior, 1) := by decide +kernel
theorem dX2_sourcePlaceholders_43 : decode cX2_sourcePlaceholders 43 = .ok (.istore_n 3, 1) := by decide +kernel
theorem dX2_sourcePlaceholders_44 : decode cX2_sourcePlaceholders 44 = .ok (.iinc 4 1, 3) := by decide +kernel
theorem dX2_sourcePlaceholders_47 : decode cX2_sourcePlaceholders 47 = .ok (.goto (-34), 3) := by decide +kernel
theorem dX2_sourcePlaceholders_50 : decode cX2_sourcePlaceholders 50 = .ok (.iload_n 3, 1) := by decide +kernel
theorem dX2_sourcePlaceholders_51 : decode cX2_sourcePlaceholders 51 = .ok (.ireturn, 1) := by decide +kernel
set_option maxRecDepth 20000 in
theorem ggX2_isFitting_X2_sourcePlaceholders : GoodIn wsX2_isFitting wsX2_sourcePlaceholders := goodIn_r _ [7, 8, 1, 9, 10, 6, 11, 12, 13, 14, 18, 19, 20, 21, 22, 23, 24, 25, 26, 27, 15, 16, 17] (by decide +kernel) (by decide +kernel)
set_option maxRecDepth 20000 in
theorem gX2_isFitting_X2_sourcePlaceholders : GoodIn wsX2_isFitting (wsV RX2 202 RX2 yX2_sourcePlaceholders wsX2_sourcePlaceholders) := goodIn_app (goodIn_of _ (by decide +kernel)) ggX2_isFitting_X2_sourcePlaceholders
theorem dX2_isFitting_0 : decode cX2_isFitting 0 = .ok (.aload_n 2, 1) := by decide +kernel
theorem dX2_isFitting_1 : decode cX2_isFitting 1 = .ok (.ifnonnull 5, 3) := by decide +kernel
theorem dX2_isFitting_4 : decode cX2_isFitting 4 = .ok (.iconst 0, 1) := by decide +kernel
theorem dX2_isFitting_5 : decode cX2_isFitting 5 = .ok (.ireturn, 1) := by decide +kernel
theorem dX2_isFitting_6 : decode cX2_isFitting 6 = .ok (.aload_n 0, 1) := by decide +kernel
theorem dX2_isFitting_7 : decode cX2_isFitting 7 = .ok (.iload_n 1, 1) := by decide +kernel
theorem dX2_isFitting_8 : decode cX2_isFitting 8 = .ok (.invokevirtual 202, 3) := by decide +kernel
theorem dX2_isFitting_11 : decode cX2_isFitting 11 = .ok (.istore_n 3, 1) := by decide +kernel
theorem dX2_isFitting_12 : decode cX2_isFitting 12 = .ok (.aload_n 2, 1) := by decide +kernel
theorem dX2_isFitting_13 : decode cX2_isFitting 13 = .ok (.getfield 199, 3) := by decide +kernel
theorem dX2_isFitting_16 : decode cX2_isFitting 16 = .ok (.iload_n 3, 1) := by decide +kernel
theorem dX2_isFitting_17 : decode cX2_isFitting 17 = .ok (.iconst (-1), 1) := by decide +kernel
theorem dX2_isFitting_18 : decode cX2_isFitting 18 = .ok (.ixor, 1) := by decide +kernel
theorem dX2_isFitting_19 : decode cX2_isFitting 19 = .ok (.iand, 1) := by decide +kernel
theorem dX2_isFitting_20 : decode cX2_isFitting 20 = .ok (.ifCond .eq 7, 3) := by decide +kernel
theorem dX2_isFitting_23 : decode cX2_isFitting 23 = .ok (.iconst 1, 1) := by decide +kernel
theorem dX2_isFitting_24 : decode cX2_isFitting 24 = .ok (.goto 4, 3) := by decide +kernel
theorem dX2_isFitting_27 : decode cX2_isFitting 27 = .ok (.iconst 0, 1) := by decide +kernel
theorem dX2_isFitting_28 : decode cX2_isFitting 28 = .ok (.istore 4, 2) := by decide +kernel
theorem dX2_isFitting_30 : decode cX2_isFitting 30 = .ok (.iload_n 3, 1) := by decide +kernel
theorem dX2_isFitting_31 : decode cX2_isFitting 31 = .ok (.aload_n 2, 1) := by decide +kernel
theorem dX2_isFitting_32 : decode cX2_isFitting 32 = .ok (.getfield 199, 3) := by decide +kernel
theorem dX2_isFitting_35 : decode cX2_isFitting 35 = .ok (.iconst (-1), 1) := by decide +kernel
theorem dX2_isFitting_36 : decode cX2_isFitting 36 = .ok (.ixor, 1) := by decide +kernel
theorem dX2_isFitting_37 : decode cX2_isFitting 37 = .ok (.iand, 1) := by decide +kernel
theorem dX2_isFitting_38 : decode cX2_isFitting 38 = .ok (.ifCond .eq 7, 3) := by decide +kernel
theorem dX2_isFitting_41 : decode cX2_isFitting 41 = .ok (.iconst 1, 1) := by decide +kernel
theorem dX2_isFitting_42 : decode cX2_isFitting 42 = .ok (.goto 4, 3) := by decide +kernel
theorem dX2_isFitting_45 : decode cX2_isFitting 45 = .ok (.iconst 0, 1) := by decide +kernel
theorem dX2_isFitting_46 : decode cX2_isFitting 46 = .ok (.istore 5, 2) := by decide +kernel
theorem dX2_isFitting_48 : decode cX2_isFitting 48 = .ok (.iload 4, 2) := by decide +kernel
theorem dX2_isFitting_50 : decode cX2_isFitting 50 = .ok (.ifCond .ne 19, 3) := by decide +kernel
theorem dX2_isFitting_53 : decode cX2_isFitting 53 = .ok (.iload 5, 2) := by decide +kernel
theorem dX2_isFitting_55 : decode cX2_isFitting 55 = .ok (.ifCond .eq 10, 3) := by decide +kernel
theorem dX2_isFitting_58 : decode cX2_isFitting 58 = .ok (.aload_n 2, 1) := by decide +kernel
theorem dX2_isFitting_59 : decode cX2_isFitting 59 = .ok (.getfield 205, 3) := by decide +kernel
theorem dX2_isFitting_62 : decode cX2_isFitting 62 = .ok (.ifCond .eq 7, 3) := by decide +kernel
theorem dX2_isFitting_65 : decode cX2_isFitting 65 = .ok (.iconst 1, 1) := by decide +kernel
theorem dX2_isFitting_66 : decode cX2_isFitting 66 = .ok (.goto 4, 3) := by decide +kernel
theorem dX2_isFitting_69 : decode cX2_isFitting 69 = .ok (.iconst 0, 1) := by decide +kernel
theorem dX2_isFitting_70 : decode cX2_isFitting 70 = .ok (.ireturn, 1) := by decide +kernel
set_option maxRecDepth 20000 in
theorem ggX2_findAlongChain_X2_findInLanguage : GoodIn wsX2_findAlongChain wsX2_findInLanguage := goodIn_r _ [6, 7, 8, 9, 5, 10, 11, 12, 13, 14, 15, 16, 17, 18, 19, 20, 21, 22, 23, 24, 25, 26, 27, 28, 29, 30, 31, 32, 33, 34, 35, 36, 37, 38, 39, 40, 41, 42, 43, 44, 45, 46] (by decide +kernel) (by decide +kernel)
set_option maxRecDepth 20000 in
theorem gX2_findAlongChain_X2_findInLanguage : GoodIn wsX2_findAlongChain (wsV RX2 209 RX2 yX2_findInLanguage wsX2_findInLanguage) := goodIn_app (goodIn_of _ (by decide +kernel)) ggX2_findAlongChain_X2_findInLanguage
theorem dX2_findAlongChain_0 : decode cX2_findAlongChain 0 = .ok (.iload_n 2, 1) := by decide +kernel
theorem dX2_findAlongChain_1 : decode cX2_findAlongChain 1 = .ok (.istore 5, 2) := by decide +kernel
theorem dX2_findAlongChain_3 : decode cX2_findAlongChain 3 = .ok (.iconst 0, 1) := by decide +kernel
theorem dX2_findAlongChain_4 : decode cX2_findAlongChain 4 = .ok (.istore 6, 2) := by decide +kernel
theorem dX2_findAlongChain_6 : decode cX2_findAlongChain 6 = .ok (.iload 6, 2) := by decide +kernel
theorem dX2_findAlongChain_8 : decode cX2_findAlongChain 8 = .ok (.bipush 6, 2) := by decide +kernel
theorem dX2_findAlongChain_10 : decode cX2_findAlongChain 10 = .ok (.if_icmp .ge 44, 3) := by decide +kernel
theorem dX2_findAlongChain_13 : decode cX2_findAlongChain 13 = .ok (.aload_n 0, 1) := by decide +kernel
theorem dX2_findAlongChain_14 : decode cX2_findAlongChain 14 = .ok (.iload_n 1, 1) := by decide +kernel
theorem dX2_findAlongChain_15 : decode cX2_findAlongChain 15 = .ok (.iload 5, 2) := by decide +kernel
theorem dX2_findAlongChain_17 : decode cX2_findAlongChain 17 = .ok (.iload_n 3, 1) := by decide +kernel
theorem dX2_findAlongChain_18 : decode cX2_findAlongChain 18 = .ok (.iload 4, 2) := by decide +kernel
theorem dX2_findAlongChain_20 : decode cX2_findAlongChain 20 = .ok (.invokevirtual 209, 3) := by decide +kernel
theorem dX2_findAlongChain_23 : decode cX2_findAlongChain 23 = .ok (.istore 7, 2) := by decide +kernel
theorem dX2_findAlongChain_25 : decode cX2_findAlongChain 25 = .ok (.iload 7, 2) := by decide +kernel
theorem dX2_findAlongChain_27 : decode cX2_findAlongChain 27 = .ok (.iconst (-1), 1) := by decide +kernel
theorem dX2_findAlongChain_28 : decode cX2_findAlongChain 28 = .ok (.if_icmp .ne 8, 3) := by decide +kernel
theorem dX2_findAlongChain_31 : decode cX2_findAlongChain 31 = .ok (.iload 5, 2) := by decide +kernel
theorem dX2_findAlongChain_33 : decode cX2_findAlongChain 33 = .ok (.ifCond .ne 6, 3) := by decide +kernel
theorem dX2_findAlongChain_36 : decode cX2_findAlongChain 36 = .ok (.iload 7, 2) := by decide +kernel
theorem dX2_findAlongChain_38 : decode cX2_findAlongChain 38 = .ok (.ireturn, 1) := by decide +kernel
theorem dX2_findAlongChain_39 : decode cX2_findAlongChain 39 = .ok (.aload_n 0, 1) := by decide +kernel
theorem dX2_findAlongChain_40 : decode cX2_findAlongChain 40 = .ok (.getfield 9, 3) := by decide +kernel
theorem dX2_findAlongChain_43 : decode cX2_findAlongChain 43 = .ok (.iload 5, 2) := by decide +kernel
theorem dX2_findAlongChain_45 : decode cX2_findAlongChain 45 = .ok (.iaload, 1) := by decide +kernel
theorem dX2_findAlongChain_46 : decode cX2_findAlongChain 46 = .ok (.istore 5, 2) := by decide +kernel
theorem dX2_findAlongChain_48 : decode cX2_findAlongChain 48 = .ok (.iinc 6 1, 3) := by decide +kernel
theorem dX2_findAlongChain_51 : decode cX2_findAlongChain 51 = .ok (.goto (-45), 3) := by decide +kernel
theorem dX2_findAlongChain_54 : decode cX2_findAlongChain 54 = .ok (.iconst (-1), 1) := by decide +kernel
theorem dX2_findAlongChain_55 : decode cX2_findAlongChain 55 = .ok (.ireturn, 1) := by decide +kernel
set_option maxRecDepth 20000 in
theorem ggX2_findInLanguage_X2_classOf : GoodIn wsX2_findInLanguage wsX2_classOf := goodIn_r _ [5, 6, 7, 29, 30, 31, 32, 33, 34, 35, 36, 37, 38] (by decide +kernel) (by decide +kernel)
set_option maxRecDepth 20000 in
theorem gX2_findInLanguage_X2_classOf : GoodIn wsX2_findInLanguage (wsV RX2 124 RX2 yX2_classOf wsX2_classOf) := goodIn_app (goodIn_of _ (by decide +kernel)) ggX2_findInLanguage_X2_classOf
set_option maxRecDepth 20000 in
theorem ggX2_findInLanguage_X2_findInClass : GoodIn wsX2_findInLanguage wsX2_findInClass := goodIn_r _ [11, 12, 13, 14, 4, 15, 16, 17, 18, 19, 20, 21, 22, 23, 24, 25, 26, 27, 28, 29, 30, 31, 32, 33, 34, 35, 36, 37, 38, 39, 40, 41] (by decide +kernel) (by decide +kernel)
set_option maxRecDepth 20000 in
theorem gX2_findInLanguage_X2_findInClass : GoodIn wsX2_findInLanguage (wsV RX2 212 RX2 yX2_findInClass wsX2_findInClass) := goodIn_app (goodIn_of _ (by decide +kernel)) ggX2_findInLanguage_X2_findInClass
theorem dX2_findInLanguage_0 : decode cX2_findInLanguage 0 = .ok (.aload_n 0, 1) := by decide +kernel
theorem dX2_findInLanguage_1 : decode cX2_findInLanguage 1 = .ok (.iload_n 1, 1) := by decide +kernel
theorem dX2_findInLanguage_2 : decode cX2_findInLanguage 2 = .ok (.iload_n 2, 1) := by decide +kernel
theorem dX2_findInLanguage_3 : decode cX2_findInLanguage 3 = .ok (.aload_n 0, 1) := by decide +kernel
theorem dX2_findInLanguage_4 : decode cX2_findInLanguage 4 = .ok (.iload_n 2, 1) := by decide +kernel
theorem dX2_findInLanguage_5 : decode cX2_findInLanguage 5 = .ok (.iload_n 3, 1) := by decide +kernel
theorem dX2_findInLanguage_6 : decode cX2_findInLanguage 6 = .ok (.invokevirtual 124, 3) := by decide +kernel
theorem dX2_findInLanguage_9 : decode cX2_findInLanguage 9 = .ok (.iload 4, 2) := by decide +kernel
theorem dX2_findInLanguage_11 : decode cX2_findInLanguage 11 = .ok (.invokevirtual 212, 3) := by decide +kernel
theorem dX2_findInLanguage_14 : decode cX2_findInLanguage 14 = .ok (.istore 5, 2) := by decide +kernel
theorem dX2_findInLanguage_16 : decode cX2_findInLanguage 16 = .ok (.iload 5, 2) := by decide +kernel
theorem dX2_findInLanguage_18 : decode cX2_findInLanguage 18 = .ok (.iconst (-1), 1) := by decide +kernel
theorem dX2_findInLanguage_19 : decode cX2_findInLanguage 19 = .ok (.if_icmp .eq 8, 3) := by decide +kernel
theorem dX2_findInLanguage_22 : decode cX2_findInLanguage 22 = .ok (.iload 5, 2) := by decide +kernel
theorem dX2_findInLanguage_24 : decode cX2_findInLanguage 24 = .ok (.goto 12, 3) := by decide +kernel
theorem dX2_findInLanguage_27 : decode cX2_findInLanguage 27 = .ok (.aload_n 0, 1) := by decide +kernel
theorem dX2_findInLanguage_28 : decode cX2_findInLanguage 28 = .ok (.iload_n 1, 1) := by decide +kernel
theorem dX2_findInLanguage_29 : decode cX2_findInLanguage 29 = .ok (.iload_n 2, 1) := by decide +kernel
theorem dX2_findInLanguage_30 : decode cX2_findInLanguage 30 = .ok (.iconst 2, 1) := by decide +kernel
theorem dX2_findInLanguage_31 : decode cX2_findInLanguage 31 = .ok (.iload 4, 2) := by decide +kernel
theorem dX2_findInLanguage_33 : decode cX2_findInLanguage 33 = .ok (.invokevirtual 212, 3) := by decide +kernel
theorem dX2_findInLanguage_36 : decode cX2_findInLanguage 36 = .ok (.ireturn, 1) := by decide +kernel
set_option maxRecDepth 20000 in
theorem ggX2_findInClass_X2_slotOf : GoodIn wsX2_findInClass wsX2_slotOf := goodIn_r _ [5, 6, 7, 4, 8] (by decide +kernel) (by decide +kernel)
set_option maxRecDepth 20000 in
theorem gX2_findInClass_X2_slotOf : GoodIn wsX2_findInClass (va_wsS RX2 112 yX2_slotOf wsX2_slotOf) := goodIn_app (goodIn_of _ (by decide +kernel)) ggX2_findInClass_X2_slotOf
set_option maxRecDepth 20000 in
theorem ggX2_findInClass_X2_isFitting : GoodIn wsX2_findInClass wsX2_isFitting := goodIn_r _ [12, 13, 14, 15, 16, 17, 4, 18, 1, 2, 3, 5, 6, 7, 8, 29, 30, 31, 19, 20, 21, 22, 23, 24, 25, 26, 27, 28] (by decide +kernel) (by decide +kernel)
set_option maxRecDepth 20000 in
theorem gX2_findInClass_X2_isFitting : GoodIn wsX2_findInClass (wsV RX2 136 RX2 yX2_isFitting wsX2_isFitting) := goodIn_app (goodIn_of _ (by decide +kernel)) ggX2_findInClass_X2_isFitting
theorem dX2_findInClass_0 : decode cX2_findInClass 0 = .ok (.iload_n 1, 1) := by decide +kernel
theorem dX2_findInClass_1 : decode cX2_findInClass 1 = .ok (.iload_n 2, 1) := by decide +kernel
theorem dX2_findInClass_2 : decode cX2_findInClass 2 = .ok (.iload_n 3, 1) := by decide +kernel
theorem dX2_findInClass_3 : decode cX2_findInClass 3 = .ok (.iload 4, 2) := by decide +kernel
theorem dX2_findInClass_5 : decode cX2_findInClass 5 = .ok (.invokestatic 112, 3) := by decide +kernel
theorem dX2_findInClass_8 : decode cX2_findInClass 8 = .ok (.istore 5, 2) := by decide +kernel
theorem dX2_findInClass_10 : decode cX2_findInClass 10 = .ok (.aload_n 0, 1) := by decide +kernel
theorem dX2_findInClass_11 : decode cX2_findInClass 11 = .ok (.iload_n 1, 1) := by decide +kernel
theorem dX2_findInClass_12 : decode cX2_findInClass 12 = .ok (.aload_n 0, 1) := by decide +kernel
theorem dX2_findInClass_13 : decode cX2_findInClass 13 = .ok (.getfield 34, 3) := by decide +kernel
theorem dX2_findInClass_16 : decode cX2_findInClass 16 = .ok (.iload 5, 2) := by decide +kernel
theorem dX2_findInClass_18 : decode cX2_findInClass 18 = .ok (.aaload, 1) := by decide +kernel
theorem dX2_findInClass_19 : decode cX2_findInClass 19 = .ok (.invokevirtual 136, 3) := by decide +kernel
theorem dX2_findInClass_22 : decode cX2_findInClass 22 = .ok (.ifCond .eq 6, 3) := by decide +kernel
theorem dX2_findInClass_25 : decode cX2_findInClass 25 = .ok (.iload 5, 2) := by decide +kernel
theorem dX2_findInClass_27 : decode cX2_findInClass 27 = .ok (.ireturn, 1) := by decide +kernel
theorem dX2_findInClass_28 : decode cX2_findInClass 28 = .ok (.iload_n 1, 1) := by decide +kernel
theorem dX2_findInClass_29 : decode cX2_findInClass 29 = .ok (.iload_n 2, 1) := by decide +kernel
theorem dX2_findInClass_30 : decode cX2_findInClass 30 = .ok (.iload_n 3, 1) := by decide +kernel
theorem dX2_findInClass_31 : decode cX2_findInClass 31 = .ok (.iconst 0, 1) := by decide +kernel
theorem dX2_findInClass_32 : decode cX2_findInClass 32 = .ok (.invokestatic 112, 3) := by decide +kernel
theorem dX2_findInClass_35 : decode cX2_findInClass 35 = .ok (.istore 6, 2) := by decide +kernel
theorem dX2_findInClass_37 : decode cX2_findInClass 37 = .ok (.aload_n 0, 1) := by decide +kernel
theorem dX2_findInClass_38 : decode cX2_findInClass 38 = .ok (.iload_n 1, 1) := by decide +kernel
theorem dX2_findInClass_39 : decode cX2_findInClass 39 = .ok (.aload_n 0, 1) := by decide +kernel
theorem dX2_findInClass_40 : decode cX2_findInClass 40 = .ok (.getfield 34, 3) := by decide +kernel
theorem dX2_findInClass_43 : decode cX2_findInClass 43 = .ok (.iload 6, 2) := by decide +kernel
theorem dX2_findInClass_45 : decode cX2_findInClass 45 = .ok (.aaload, 1) := by decide +kernel
theorem dX2_findInClass_46 : decode cX2_findInClass 46 = .ok (.invokevirtual 136, 3) := by decide +kernel
theorem dX2_findInClass_49 : decode cX2_findInClass 49 = .ok (.ifCond .eq 8, 3) := by decide +kernel
theorem dX2_findInClass_52 : decode cX2_findInClass 52 = .ok (.iload 6, 2) := by decide +kernel
theorem dX2_findInClass_54 : decode cX2_findInClass 54 = .ok (.goto 4, 3) := by decide +kernel
theorem dX2_findInClass_57 : decode cX2_findInClass 57 = .ok (.iconst (-1), 1) := by decide +kernel
theorem dX2_findInClass_58 : decode cX2_findInClass 58 = .ok (.ireturn, 1) := by decide +kernel
set_option maxRecDepth 20000 in
theorem ggX2_findByLooking_X2_slotOf : GoodIn wsX2_findByLooking wsX2_slotOf := goodIn_r _ [5, 6, 7, 4, 8] (by decide +kernel) (by decide +kernel)
set_option maxRecDepth 20000 in
theorem gX2_findByLooking_X2_slotOf : GoodIn wsX2_findByLooking (va_wsS RX2 112 yX2_slotOf wsX2_slotOf) := goodIn_app (goodIn_of _ (by decide +kernel)) ggX2_findByLooking_X2_slotOf
set_option maxRecDepth 20000 in
theorem ggX2_findByLooking_X2_turnOf : GoodIn wsX2_findByLooking wsX2_turnOf := goodIn_r _ [12, 13, 14, 4, 15, 16, 17, 18, 19, 20, 21, 22, 23, 24, 25, 26, 27, 28, 29, 40, 41, 42, 43, 44, 45, 46, 47, 48, 49] (by decide +kernel) (by decide +kernel)
set_option maxRecDepth 20000 in
theorem gX2_findByLooking_X2_turnOf : GoodIn wsX2_findByLooking (wsV RX2 215 RX2 yX2_turnOf wsX2_turnOf) := goodIn_app (goodIn_of _ (by decide +kernel)) ggX2_findByLooking_X2_turnOf
set_option maxRecDepth 20000 in
theorem ggX2_findByLooking_X2_isFitting : GoodIn wsX2_findByLooking wsX2_isFitting := goodIn_r _ [33, 34, 35, 36, 37, 38, 4, 39, 1, 2, 3, 5, 6, 7, 8, 50, 51, 52, 40, 41, 42, 43, 44, 45, 46, 47, 48, 49] (by decide +kernel) (by decide +kernel)
set_option maxRecDepth 20000 in
theorem gX2_findByLooking_X2_isFitting : GoodIn wsX2_findByLooking (wsV RX2 136 RX2 yX2_isFitting wsX2_isFitting) := goodIn_app (goodIn_of _ (by decide +kernel)) ggX2_findByLooking_X2_isFitting
theorem dX2_findByLooking_0 : decode cX2_findByLooking 0 = .ok (.iconst (-1), 1) := by decide +kernel
theorem dX2_findByLooking_1 : decode cX2_findByLooking 1 = .ok (.istore 5, 2) := by decide +kernel
theorem dX2_findByLooking_3 : decode cX2_findByLooking 3 = .ok (.bipush 24, 2) := by decide +kernel
theorem dX2_findByLooking_5 : decode cX2_findByLooking 5 = .ok (.istore 6, 2) := by decide +kernel
theorem dX2_findByLooking_7 : decode cX2_findByLooking 7 = .ok (.iload_n 1, 1) := by decide +kernel
theorem dX2_findByLooking_8 : decode cX2_findByLooking 8 = .ok (.iconst 0, 1) := by decide +kernel
theorem dX2_findByLooking_9 : decode cX2_findByLooking 9 = .ok (.iconst 0, 1) := by decide +kernel
theorem dX2_findByLooking_10 : decode cX2_findByLooking 10 = .ok (.iconst 0, 1) := by decide +kernel
theorem dX2_findByLooking_11 : decode cX2_findByLooking 11 = .ok (.invokestatic 112, 3) := by decide +kernel
theorem dX2_findByLooking_14 : decode cX2_findByLooking 14 = .ok (.istore 7, 2) := by decide +kernel
theorem dX2_findByLooking_16 : decode cX2_findByLooking 16 = .ok (.iconst 0, 1) := by decide +kernel
theorem dX2_findByLooking_17 : decode cX2_findByLooking 17 = .ok (.istore 8, 2) := by decide +kernel
theorem dX2_findByLooking_19 : decode cX2_findByLooking 19 = .ok (.iload 8, 2) := by decide +kernel
theorem dX2_findByLooking_21 : decode cX2_findByLooking 21 = .ok (.bipush 54, 2) := by decide +kernel
theorem dX2_findByLooking_23 : decode cX2_findByLooking 23 = .ok (.if_icmp .ge 66, 3) := by decide +kernel
theorem dX2_findByLooking_26 : decode cX2_findByLooking 26 = .ok (.aload_n 0, 1) := by decide +kernel
theorem dX2_findByLooking_27 : decode cX2_findByLooking 27 = .ok (.iload 7, 2) := by decide +kernel
theorem dX2_findByLooking_29 : decode cX2_findByLooking 29 = .ok (.iload 8, 2) := by decide +kernel
theorem dX2_findByLooking_31 : decode cX2_findByLooking 31 = .ok (.iadd, 1) := by decide +kernel
theorem dX2_findByLooking_32 : decode cX2_findByLooking 32 = .ok (.iload_n 2, 1) := by decide +kernel
theorem dX2_findByLooking_33 : decode cX2_findByLooking 33 = .ok (.iload_n 3, 1) := by decide +kernel
theorem dX2_findByLooking_34 : decode cX2_findByLooking 34 = .ok (.iload 4, 2) := by decide +kernel
theorem dX2_findByLooking_36 : decode cX2_findByLooking 36 = .ok (.invokevirtual 215, 3) := by decide +kernel
theorem dX2_findByLooking_39 : decode cX2_findByLooking 39 = .ok (.istore 9, 2) := by decide +kernel
theorem dX2_findByLooking_41 : decode cX2_findByLooking 41 = .ok (.iload 9, 2) := by decide +kernel
theorem dX2_findByLooking_43 : decode cX2_findByLooking 43 = .ok (.iconst (-1), 1) := by decide +kernel
theorem dX2_findByLooking_44 : decode cX2_findByLooking 44 = .ok (.if_icmp .eq 39, 3) := by decide +kernel
theorem dX2_findByLooking_47 : decode cX2_findByLooking 47 = .ok (.iload 9, 2) := by decide +kernel
theorem dX2_findByLooking_49 : decode cX2_findByLooking 49 = .ok (.iload 6, 2) := by decide +kernel
theorem dX2_findByLooking_51 : decode cX2_findByLooking 51 = .ok (.if_icmp .ge 32, 3) := by decide +kernel
theorem dX2_findByLooking_54 : decode cX2_findByLooking 54 = .ok (.aload_n 0, 1) := by decide +kernel
theorem dX2_findByLooking_55 : decode cX2_findByLooking 55 = .ok (.iload_n 1, 1) := by decide +kernel
theorem dX2_findByLooking_56 : decode cX2_findByLooking 56 = .ok (.aload_n 0, 1) := by decide +kernel
theorem dX2_findByLooking_57 : decode cX2_findByLooking 57 = .ok (.getfield 34, 3) := by decide +kernel
theorem dX2_findByLooking_60 : decode cX2_findByLooking 60 = .ok (.iload 7, 2) := by decide +kernel
theorem dX2_findByLooking_62 : decode cX2_findByLooking 62 = .ok (.iload 8, 2) := by decide +kernel
theorem dX2_findByLooking_64 : decode cX2_findByLooking 64 = .ok (.iadd, 1) := by decide +kernel
theorem dX2_findByLooking_65 : decode cX2_findByLooking 65 = .ok (.aaload, 1) := by decide +kernel
theorem dX2_findByLooking_66 : decode cX2_findByLooking 66 = .ok (.invokevirtual 136, 3) := by decide +kernel
theorem dX2_findByLooking_69 : decode cX2_findByLooking 69 = .ok (.ifCond .eq 14, 3) := by decide +kernel
theorem dX2_findByLooking_72 : decode cX2_findByLooking 72 = .ok (.iload 7, 2) := by decide +kernel
theorem dX2_findByLooking_74 : decode cX2_findByLooking 74 = .ok (.iload 8, 2) := by decide +kernel
theorem dX2_findByLooking_76 : decode cX2_findByLooking 76 = .ok (.iadd, 1) := by decide +kernel
theorem dX2_findByLooking_77 : decode cX2_findByLooking 77 = .ok (.istore 5, 2) := by decide +kernel
theorem dX2_findByLooking_79 : decode cX2_findByLooking 79 = .ok (.iload 9, 2) := by decide +kernel
theorem dX2_findByLooking_81 : decode cX2_findByLooking 81 = .ok (.istore 6, 2) := by decide +kernel
theorem dX2_findByLooking_83 : decode cX2_findByLooking 83 = .ok (.iinc 8 1, 3) := by decide +kernel
theorem dX2_findByLooking_86 : decode cX2_findByLooking 86 = .ok (.goto (-67), 3) := by decide +kernel
theorem dX2_findByLooking_89 : decode cX2_findByLooking 89 = .ok (.iload 5, 2) := by decide +kernel
theorem dX2_findByLooking_91 : decode cX2_findByLooking 91 = .ok (.ireturn, 1) := by decide +kernel
set_option maxRecDepth 20000 in
theorem ggX2_turnOf_X2_languageOfSlot : GoodIn wsX2_turnOf wsX2_languageOfSlot := goodIn_r _ [4] (by decide +kernel) (by decide +kernel)
set_option maxRecDepth 20000 in
theorem gX2_turnOf_X2_languageOfSlot : GoodIn wsX2_turnOf (va_wsS RX2 146 yX2_languageOfSlot wsX2_languageOfSlot) := goodIn_app (goodIn_of _ (by decide +kernel)) ggX2_turnOf_X2_languageOfSlot
set_option maxRecDepth 20000 in
theorem ggX2_turnOf_X2_chainPlace : GoodIn wsX2_turnOf wsX2_chainPlace := goodIn_r _ [8, 9, 19, 20, 21, 22, 23, 24, 25, 26, 27, 28] (by decide +kernel) (by decide +kernel)
set_option maxRecDepth 20000 in
theorem gX2_turnOf_X2_chainPlace : GoodIn wsX2_turnOf (wsV RX2 65 RX2 yX2_chainPlace wsX2_chainPlace) := goodIn_app (goodIn_of _ (by decide +kernel)) ggX2_turnOf_X2_chainPlace
end
section
set_option maxRecDepth 20000 in
theorem ggX2_turnOf_X2_classOf : GoodIn wsX2_turnOf wsX2_classOf := goodIn_r _ [13, 14, 15, 19, 20, 21, 22, 23, 24, 25, 26, 27, 28] (by decide +kernel) (by decide +kernel)
set_option maxRecDepth 20000 in
theorem gX2_turnOf_X2_classOf : GoodIn wsX2_turnOf (wsV RX2 124 RX2 yX2_classOf wsX2_classOf) := goodIn_app (goodIn_of _ (by decide +kernel)) ggX2_turnOf_X2_classOf
set_option maxRecDepth 20000 in
theorem ggX2_turnOf_X2_tryOf : GoodIn wsX2_turnOf wsX2_tryOf := goodIn_r _ [18] (by decide +kernel) (by decide +kernel)
set_option maxRecDepth 20000 in
theorem gX2_turnOf_X2_tryOf : GoodIn wsX2_turnOf (va_wsS RX2 218 yX2_tryOf wsX2_tryOf) := goodIn_app (goodIn_of _ (by decide +kernel)) ggX2_turnOf_X2_tryOf
theorem dX2_turnOf_0 : decode cX2_turnOf 0 = .ok (.iload_n 1, 1) := by decide +kernel
theorem dX2_turnOf_1 : decode cX2_turnOf 1 = .ok (.invokestatic 146, 3) := by decide +kernel
theorem dX2_turnOf_4 : decode cX2_turnOf 4 = .ok (.istore 5, 2) := by decide +kernel
theorem dX2_turnOf_6 : decode cX2_turnOf 6 = .ok (.aload_n 0, 1) := by decide +kernel
theorem dX2_turnOf_7 : decode cX2_turnOf 7 = .ok (.iload_n 2, 1) := by decide +kernel
theorem dX2_turnOf_8 : decode cX2_turnOf 8 = .ok (.iload 5, 2) := by decide +kernel
theorem dX2_turnOf_10 : decode cX2_turnOf 10 = .ok (.invokevirtual 65, 3) := by decide +kernel
theorem dX2_turnOf_13 : decode cX2_turnOf 13 = .ok (.istore 6, 2) := by decide +kernel
theorem dX2_turnOf_15 : decode cX2_turnOf 15 = .ok (.iload 6, 2) := by decide +kernel
theorem dX2_turnOf_17 : decode cX2_turnOf 17 = .ok (.iconst (-1), 1) := by decide +kernel
theorem dX2_turnOf_18 : decode cX2_turnOf 18 = .ok (.if_icmp .ne 5, 3) := by decide +kernel
theorem dX2_turnOf_21 : decode cX2_turnOf 21 = .ok (.iconst (-1), 1) := by decide +kernel
theorem dX2_turnOf_22 : decode cX2_turnOf 22 = .ok (.ireturn, 1) := by decide +kernel
theorem dX2_turnOf_23 : decode cX2_turnOf 23 = .ok (.iload_n 1, 1) := by decide +kernel
theorem dX2_turnOf_24 : decode cX2_turnOf 24 = .ok (.bipush 9, 2) := by decide +kernel
theorem dX2_turnOf_26 : decode cX2_turnOf 26 = .ok (.irem, 1) := by decide +kernel
theorem dX2_turnOf_27 : decode cX2_turnOf 27 = .ok (.istore 7, 2) := by decide +kernel
theorem dX2_turnOf_29 : decode cX2_turnOf 29 = .ok (.iload 7, 2) := by decide +kernel
theorem dX2_turnOf_31 : decode cX2_turnOf 31 = .ok (.iconst 3, 1) := by decide +kernel
theorem dX2_turnOf_32 : decode cX2_turnOf 32 = .ok (.idiv, 1) := by decide +kernel
theorem dX2_turnOf_33 : decode cX2_turnOf 33 = .ok (.iload 7, 2) := by decide +kernel
theorem dX2_turnOf_35 : decode cX2_turnOf 35 = .ok (.iconst 3, 1) := by decide +kernel
theorem dX2_turnOf_36 : decode cX2_turnOf 36 = .ok (.irem, 1) := by decide +kernel
theorem dX2_turnOf_37 : decode cX2_turnOf 37 = .ok (.aload_n 0, 1) := by decide +kernel
theorem dX2_turnOf_38 : decode cX2_turnOf 38 = .ok (.iload 5, 2) := by decide +kernel
theorem dX2_turnOf_40 : decode cX2_turnOf 40 = .ok (.iload_n 3, 1) := by decide +kernel
theorem dX2_turnOf_41 : decode cX2_turnOf 41 = .ok (.invokevirtual 124, 3) := by decide +kernel
theorem dX2_turnOf_44 : decode cX2_turnOf 44 = .ok (.iload 4, 2) := by decide +kernel
theorem dX2_turnOf_46 : decode cX2_turnOf 46 = .ok (.invokestatic 218, 3) := by decide +kernel
theorem dX2_turnOf_49 : decode cX2_turnOf 49 = .ok (.istore 8, 2) := by decide +kernel
theorem dX2_turnOf_51 : decode cX2_turnOf 51 = .ok (.iload 8, 2) := by decide +kernel
theorem dX2_turnOf_53 : decode cX2_turnOf 53 = .ok (.iconst (-1), 1) := by decide +kernel
theorem dX2_turnOf_54 : decode cX2_turnOf 54 = .ok (.if_icmp .ne 7, 3) := by decide +kernel
theorem dX2_turnOf_57 : decode cX2_turnOf 57 = .ok (.iconst (-1), 1) := by decide +kernel
theorem dX2_turnOf_58 : decode cX2_turnOf 58 = .ok (.goto 10, 3) := by decide +kernel
theorem dX2_turnOf_61 : decode cX2_turnOf 61 = .ok (.iload 6, 2) := by decide +kernel
theorem dX2_turnOf_63 : decode cX2_turnOf 63 = .ok (.iconst 4, 1) := by decide +kernel
theorem dX2_turnOf_64 : decode cX2_turnOf 64 = .ok (.imul, 1) := by decide +kernel
theorem dX2_turnOf_65 : decode cX2_turnOf 65 = .ok (.iload 8, 2) := by decide +kernel
theorem dX2_turnOf_67 : decode cX2_turnOf 67 = .ok (.iadd, 1) := by decide +kernel
theorem dX2_turnOf_68 : decode cX2_turnOf 68 = .ok (.ireturn, 1) := by decide +kernel
theorem dX2_tryOf_0 : decode cX2_tryOf 0 = .ok (.iload_n 0, 1) := by decide +kernel
theorem dX2_tryOf_1 : decode cX2_tryOf 1 = .ok (.iload_n 2, 1) := by decide +kernel
theorem dX2_tryOf_2 : decode cX2_tryOf 2 = .ok (.if_icmp .eq 8, 3) := by decide +kernel
theorem dX2_tryOf_5 : decode cX2_tryOf 5 = .ok (.iload_n 0, 1) := by decide +kernel
theorem dX2_tryOf_6 : decode cX2_tryOf 6 = .ok (.iconst 2, 1) := by decide +kernel
theorem dX2_tryOf_7 : decode cX2_tryOf 7 = .ok (.if_icmp .ne 12, 3) := by decide +kernel
theorem dX2_tryOf_10 : decode cX2_tryOf 10 = .ok (.iload_n 1, 1) := by decide +kernel
theorem dX2_tryOf_11 : decode cX2_tryOf 11 = .ok (.iload_n 3, 1) := by decide +kernel
theorem dX2_tryOf_12 : decode cX2_tryOf 12 = .ok (.if_icmp .eq 9, 3) := by decide +kernel
theorem dX2_tryOf_15 : decode cX2_tryOf 15 = .ok (.iload_n 1, 1) := by decide +kernel
theorem dX2_tryOf_16 : decode cX2_tryOf 16 = .ok (.ifCond .eq 5, 3) := by decide +kernel
theorem dX2_tryOf_19 : decode cX2_tryOf 19 = .ok (.iconst (-1), 1) := by decide +kernel
theorem dX2_tryOf_20 : decode cX2_tryOf 20 = .ok (.ireturn, 1) := by decide +kernel
theorem dX2_tryOf_21 : decode cX2_tryOf 21 = .ok (.iload_n 0, 1) := by decide +kernel
theorem dX2_tryOf_22 : decode cX2_tryOf 22 = .ok (.iload_n 2, 1) := by decide +kernel
theorem dX2_tryOf_23 : decode cX2_tryOf 23 = .ok (.if_icmp .ne 7, 3) := by decide +kernel
theorem dX2_tryOf_26 : decode cX2_tryOf 26 = .ok (.iconst 0, 1) := by decide +kernel
theorem dX2_tryOf_27 : decode cX2_tryOf 27 = .ok (.goto 4, 3) := by decide +kernel
theorem dX2_tryOf_30 : decode cX2_tryOf 30 = .ok (.iconst 2, 1) := by decide +kernel
theorem dX2_tryOf_31 : decode cX2_tryOf 31 = .ok (.iload_n 1, 1) := by decide +kernel
theorem dX2_tryOf_32 : decode cX2_tryOf 32 = .ok (.iload_n 3, 1) := by decide +kernel
theorem dX2_tryOf_33 : decode cX2_tryOf 33 = .ok (.if_icmp .ne 7, 3) := by decide +kernel
theorem dX2_tryOf_36 : decode cX2_tryOf 36 = .ok (.iconst 0, 1) := by decide +kernel
theorem dX2_tryOf_37 : decode cX2_tryOf 37 = .ok (.goto 4, 3) := by decide +kernel
theorem dX2_tryOf_40 : decode cX2_tryOf 40 = .ok (.iconst 1, 1) := by decide +kernel
theorem dX2_tryOf_41 : decode cX2_tryOf 41 = .ok (.iadd, 1) := by decide +kernel
theorem dX2_tryOf_42 : decode cX2_tryOf 42 = .ok (.ireturn, 1) := by decide +kernel
set_option maxRecDepth 20000 in
theorem ggX2_keepPairs_X2_slotOf : GoodIn wsX2_keepPairs wsX2_slotOf := goodIn_r _ [8, 9, 10, 7, 11] (by decide +kernel) (by decide +kernel)
set_option maxRecDepth 20000 in
theorem gX2_keepPairs_X2_slotOf : GoodIn wsX2_keepPairs (va_wsS RX2 112 yX2_slotOf wsX2_slotOf) := goodIn_app (goodIn_of _ (by decide +kernel)) ggX2_keepPairs_X2_slotOf
set_option maxRecDepth 20000 in
theorem ggX2_keepPairs_X1_init : GoodIn wsX2_keepPairs wsX1_init := goodIn_r _ [14, 15, 16, 17, 18, 19, 20, 113, 114, 115] (by decide +kernel) (by decide +kernel)
set_option maxRecDepth 20000 in
theorem gX2_keepPairs_X1_init : GoodIn wsX2_keepPairs (wsX1_init) := ggX2_keepPairs_X1_init
set_option maxRecDepth 20000 in
theorem ggX2_keepPairs_X2_keepPair : GoodIn wsX2_keepPairs wsX2_keepPair := goodIn_r _ [24, 25, 26, 27, 28, 29, 30, 31, 32, 33, 34, 35, 36, 37, 38, 39, 40, 41, 42, 43, 44, 45, 46, 47, 48, 49, 50, 51, 52, 53, 54, 55, 56, 57, 58, 59, 60, 61, 62, 63, 64, 65, 66, 67, 68, 69, 70, 71, 72, 73, 74, 75, 76, 77, 78, 79, 80, 81, 82, 83, 84, 85, 86, 87, 88, 89, 90, 91, 92, 93, 94, 95, 96, 97, 98, 99, 100, 101, 102, 103, 104, 105, 106, 107, 108, 109, 110, 111, 112, 116, 117, 118] (by decide +kernel) (by decide +kernel)
set_option maxRecDepth 20000 in
theorem gX2_keepPairs_X2_keepPair : GoodIn wsX2_keepPairs (wsV RX2 224 RX2 yX2_keepPair wsX2_keepPair) := goodIn_app (goodIn_of _ (by decide +kernel)) ggX2_keepPairs_X2_keepPair
theorem dX2_keepPairs_0 : decode cX2_keepPairs 0 = .ok (.aload 4, 2) := by decide +kernel
theorem dX2_keepPairs_2 : decode cX2_keepPairs 2 = .ok (.ifnonnull 4, 3) := by decide +kernel
theorem dX2_keepPairs_5 : decode cX2_keepPairs 5 = .ok (.return_, 1) := by decide +kernel
theorem dX2_keepPairs_6 : decode cX2_keepPairs 6 = .ok (.iconst 1, 1) := by decide +kernel
theorem dX2_keepPairs_7 : decode cX2_keepPairs 7 = .ok (.istore 5, 2) := by decide +kernel
theorem dX2_keepPairs_9 : decode cX2_keepPairs 9 = .ok (.iload 5, 2) := by decide +kernel
theorem dX2_keepPairs_11 : decode cX2_keepPairs 11 = .ok (.bipush 6, 2) := by decide +kernel
theorem dX2_keepPairs_13 : decode cX2_keepPairs 13 = .ok (.if_icmp .ge 46, 3) := by decide +kernel
theorem dX2_keepPairs_16 : decode cX2_keepPairs 16 = .ok (.aload_n 0, 1) := by decide +kernel
theorem dX2_keepPairs_17 : decode cX2_keepPairs 17 = .ok (.getfield 34, 3) := by decide +kernel
theorem dX2_keepPairs_20 : decode cX2_keepPairs 20 = .ok (.iload_n 1, 1) := by decide +kernel
theorem dX2_keepPairs_21 : decode cX2_keepPairs 21 = .ok (.iload 5, 2) := by decide +kernel
theorem dX2_keepPairs_23 : decode cX2_keepPairs 23 = .ok (.iload_n 2, 1) := by decide +kernel
theorem dX2_keepPairs_24 : decode cX2_keepPairs 24 = .ok (.iload_n 3, 1) := by decide +kernel
theorem dX2_keepPairs_25 : decode cX2_keepPairs 25 = .ok (.invokestatic 112, 3) := by decide +kernel
theorem dX2_keepPairs_28 : decode cX2_keepPairs 28 = .ok (.aaload, 1) := by decide +kernel
theorem dX2_keepPairs_29 : decode cX2_keepPairs 29 = .ok (.astore 6, 2) := by decide +kernel
theorem dX2_keepPairs_31 : decode cX2_keepPairs 31 = .ok (.aload 6, 2) := by decide +kernel
theorem dX2_keepPairs_33 : decode cX2_keepPairs 33 = .ok (.ifnull 20, 3) := by decide +kernel
theorem dX2_keepPairs_36 : decode cX2_keepPairs 36 = .ok (.aload_n 0, 1) := by decide +kernel
theorem dX2_keepPairs_37 : decode cX2_keepPairs 37 = .ok (.new 166, 3) := by decide +kernel
theorem dX2_keepPairs_40 : decode cX2_keepPairs 40 = .ok (.dup, 1) := by decide +kernel
theorem dX2_keepPairs_41 : decode cX2_keepPairs 41 = .ok (.iload 5, 2) := by decide +kernel
theorem dX2_keepPairs_43 : decode cX2_keepPairs 43 = .ok (.aload 4, 2) := by decide +kernel
theorem dX2_keepPairs_45 : decode cX2_keepPairs 45 = .ok (.aload 6, 2) := by decide +kernel
theorem dX2_keepPairs_47 : decode cX2_keepPairs 47 = .ok (.invokespecial 221, 3) := by decide +kernel
theorem dX2_keepPairs_50 : decode cX2_keepPairs 50 = .ok (.invokevirtual 224, 3) := by decide +kernel
theorem dX2_keepPairs_53 : decode cX2_keepPairs 53 = .ok (.iinc 5 1, 3) := by decide +kernel
theorem dX2_keepPairs_56 : decode cX2_keepPairs 56 = .ok (.goto (-47), 3) := by decide +kernel
theorem dX2_keepPairs_59 : decode cX2_keepPairs 59 = .ok (.return_, 1) := by decide +kernel
set_option maxRecDepth 20000 in
theorem ggX2_keepPair_Jx4a65c_size_8abf5 : GoodIn wsX2_keepPair wsJx4a65c_size_8abf5 := goodIn_r _ [6, 7, 89, 90, 91] (by decide +kernel) (by decide +kernel)
set_option maxRecDepth 20000 in
theorem gX2_keepPair_Jx4a65c_size_8abf5 : GoodIn wsX2_keepPair (wsV RX2 157 RJx4a65c yJx4a65c_size_8abf5 wsJx4a65c_size_8abf5) := goodIn_app (goodIn_of _ (by decide +kernel)) ggX2_keepPair_Jx4a65c_size_8abf5
set_option maxRecDepth 20000 in
theorem ggX2_keepPair_Jx4a65c_remove_915e3 : GoodIn wsX2_keepPair wsJx4a65c_remove_915e3 := goodIn_r _ [11, 7, 12, 13, 14, 15, 16, 17, 18, 19, 20, 21, 22, 23, 5, 24, 25, 26, 27, 28, 29, 30, 89, 90, 91] (by decide +kernel) (by decide +kernel)
set_option maxRecDepth 20000 in
theorem gX2_keepPair_Jx4a65c_remove_915e3 : GoodIn wsX2_keepPair (wsV RX2 228 RJx4a65c yJx4a65c_remove_915e3 wsJx4a65c_remove_915e3) := goodIn_app (goodIn_of _ (by decide +kernel)) ggX2_keepPair_Jx4a65c_remove_915e3
set_option maxRecDepth 20000 in
theorem ggX2_keepPair_Jx4a65c_add_9ea2d : GoodIn wsX2_keepPair wsJx4a65c_add_9ea2d := goodIn_r _ [34, 25, 26, 12, 7, 35, 36, 37, 5, 38, 39, 40, 41, 42, 43, 44, 45, 46, 47, 48, 49, 50, 51, 52, 53, 54, 55, 56, 57, 58, 59, 60, 61, 62, 63, 64, 65, 66, 67, 68, 69, 70, 71, 72, 73, 74, 75, 76, 77, 78, 28, 29, 30, 89, 90, 91] (by decide +kernel) (by decide +kernel)
set_option maxRecDepth 20000 in
theorem gX2_keepPair_Jx4a65c_add_9ea2d : GoodIn wsX2_keepPair (wsV RX2 232 RJx4a65c yJx4a65c_add_9ea2d wsJx4a65c_add_9ea2d) := goodIn_app (goodIn_of _ (by decide +kernel)) ggX2_keepPair_Jx4a65c_add_9ea2d
theorem dX2_keepPair_0 : decode cX2_keepPair 0 = .ok (.aload_n 0, 1) := by decide +kernel
theorem dX2_keepPair_1 : decode cX2_keepPair 1 = .ok (.getfield 47, 3) := by decide +kernel
theorem dX2_keepPair_4 : decode cX2_keepPair 4 = .ok (.invokevirtual 157, 3) := by decide +kernel
theorem dX2_keepPair_7 : decode cX2_keepPair 7 = .ok (.bipush 20, 2) := by decide +kernel
theorem dX2_keepPair_9 : decode cX2_keepPair 9 = .ok (.if_icmp .lt 12, 3) := by decide +kernel
theorem dX2_keepPair_12 : decode cX2_keepPair 12 = .ok (.aload_n 0, 1) := by decide +kernel
theorem dX2_keepPair_13 : decode cX2_keepPair 13 = .ok (.getfield 47, 3) := by decide +kernel
theorem dX2_keepPair_16 : decode cX2_keepPair 16 = .ok (.iconst 0, 1) := by decide +kernel
theorem dX2_keepPair_17 : decode cX2_keepPair 17 = .ok (.invokevirtual 228, 3) := by decide +kernel
theorem dX2_keepPair_20 : decode cX2_keepPair 20 = .ok (.pop, 1) := by decide +kernel
theorem dX2_keepPair_21 : decode cX2_keepPair 21 = .ok (.aload_n 0, 1) := by decide +kernel
theorem dX2_keepPair_22 : decode cX2_keepPair 22 = .ok (.getfield 47, 3) := by decide +kernel
theorem dX2_keepPair_25 : decode cX2_keepPair 25 = .ok (.aload_n 1, 1) := by decide +kernel
theorem dX2_keepPair_26 : decode cX2_keepPair 26 = .ok (.invokevirtual 232, 3) := by decide +kernel
theorem dX2_keepPair_29 : decode cX2_keepPair 29 = .ok (.pop, 1) := by decide +kernel
theorem dX2_keepPair_30 : decode cX2_keepPair 30 = .ok (.return_, 1) := by decide +kernel
set_option maxRecDepth 20000 in
theorem ggX2_findNear_Jx4a65c_size_8abf5 : GoodIn wsX2_findNear wsJx4a65c_size_8abf5 := goodIn_r _ [10, 11, 55, 56, 57] (by decide +kernel) (by decide +kernel)
set_option maxRecDepth 20000 in
theorem gX2_findNear_Jx4a65c_size_8abf5 : GoodIn wsX2_findNear (wsV RX2 157 RJx4a65c yJx4a65c_size_8abf5 wsJx4a65c_size_8abf5) := goodIn_app (goodIn_of _ (by decide +kernel)) ggX2_findNear_Jx4a65c_size_8abf5
set_option maxRecDepth 20000 in
theorem ggX2_findNear_Jx4a65c_get_915e3 : GoodIn wsX2_findNear wsJx4a65c_get_915e3 := goodIn_r _ [15, 11, 16, 17, 18, 19, 20, 21, 22, 23, 24, 25, 26, 9, 27, 28, 55, 56, 57] (by decide +kernel) (by decide +kernel)
set_option maxRecDepth 20000 in
theorem gX2_findNear_Jx4a65c_get_915e3 : GoodIn wsX2_findNear (wsV RX2 236 RJx4a65c yJx4a65c_get_915e3 wsJx4a65c_get_915e3) := goodIn_app (goodIn_of _ (by decide +kernel)) ggX2_findNear_Jx4a65c_get_915e3
set_option maxRecDepth 20000 in
theorem ggX2_findNear_X2_distance : GoodIn wsX2_findNear wsX2_distance := goodIn_r _ [33, 1, 34, 35, 36, 37, 38, 39, 40, 41, 42, 43, 44, 45, 46, 47, 48, 49, 50, 51] (by decide +kernel) (by decide +kernel)
set_option maxRecDepth 20000 in
theorem gX2_findNear_X2_distance : GoodIn wsX2_findNear (wsV RX2 171 RX2 yX2_distance wsX2_distance) := goodIn_app (goodIn_of _ (by decide +kernel)) ggX2_findNear_X2_distance
theorem dX2_findNear_0 : decode cX2_findNear 0 = .ok (.aload_n 1, 1) := by decide +kernel
theorem dX2_findNear_1 : decode cX2_findNear 1 = .ok (.ifnonnull 5, 3) := by decide +kernel
theorem dX2_findNear_4 : decode cX2_findNear 4 = .ok (.aconst_null, 1) := by decide +kernel
theorem dX2_findNear_5 : decode cX2_findNear 5 = .ok (.areturn, 1) := by decide +kernel
theorem dX2_findNear_6 : decode cX2_findNear 6 = .ok (.aconst_null, 1) := by decide +kernel
theorem dX2_findNear_7 : decode cX2_findNear 7 = .ok (.astore_n 3, 1) := by decide +kernel
theorem dX2_findNear_8 : decode cX2_findNear 8 = .ok (.aload_n 1, 1) := by decide +kernel
theorem dX2_findNear_9 : decode cX2_findNear 9 = .ok (.getfield 118, 3) := by decide +kernel
theorem dX2_findNear_12 : decode cX2_findNear 12 = .ok (.arraylength, 1) := by decide +kernel
theorem dX2_findNear_13 : decode cX2_findNear 13 = .ok (.iconst 2, 1) := by decide +kernel
theorem dX2_findNear_14 : decode cX2_findNear 14 = .ok (.idiv, 1) := by decide +kernel
theorem dX2_findNear_15 : decode cX2_findNear 15 = .ok (.istore 4, 2) := by decide +kernel
theorem dX2_findNear_17 : decode cX2_findNear 17 = .ok (.iconst 0, 1) := by decide +kernel
theorem dX2_findNear_18 : decode cX2_findNear 18 = .ok (.istore 5, 2) := by decide +kernel
theorem dX2_findNear_20 : decode cX2_findNear 20 = .ok (.iload 5, 2) := by decide +kernel
theorem dX2_findNear_22 : decode cX2_findNear 22 = .ok (.aload_n 0, 1) := by decide +kernel
theorem dX2_findNear_23 : decode cX2_findNear 23 = .ok (.getfield 47, 3) := by decide +kernel
theorem dX2_findNear_26 : decode cX2_findNear 26 = .ok (.invokevirtual 157, 3) := by decide +kernel
theorem dX2_findNear_29 : decode cX2_findNear 29 = .ok (.if_icmp .ge 58, 3) := by decide +kernel
theorem dX2_findNear_32 : decode cX2_findNear 32 = .ok (.aload_n 0, 1) := by decide +kernel
theorem dX2_findNear_33 : decode cX2_findNear 33 = .ok (.getfield 47, 3) := by decide +kernel
theorem dX2_findNear_36 : decode cX2_findNear 36 = .ok (.iload 5, 2) := by decide +kernel
theorem dX2_findNear_38 : decode cX2_findNear 38 = .ok (.invokevirtual 236, 3) := by decide +kernel
theorem dX2_findNear_41 : decode cX2_findNear 41 = .ok (.checkcast 166, 3) := by decide +kernel
theorem dX2_findNear_44 : decode cX2_findNear 44 = .ok (.astore 6, 2) := by decide +kernel
theorem dX2_findNear_46 : decode cX2_findNear 46 = .ok (.aload 6, 2) := by decide +kernel
theorem dX2_findNear_48 : decode cX2_findNear 48 = .ok (.getfield 239, 3) := by decide +kernel
theorem dX2_findNear_51 : decode cX2_findNear 51 = .ok (.iload_n 2, 1) := by decide +kernel
theorem dX2_findNear_52 : decode cX2_findNear 52 = .ok (.if_icmp .ne 29, 3) := by decide +kernel
theorem dX2_findNear_55 : decode cX2_findNear 55 = .ok (.aload_n 0, 1) := by decide +kernel
theorem dX2_findNear_56 : decode cX2_findNear 56 = .ok (.aload 6, 2) := by decide +kernel
theorem dX2_findNear_58 : decode cX2_findNear 58 = .ok (.getfield 165, 3) := by decide +kernel
theorem dX2_findNear_61 : decode cX2_findNear 61 = .ok (.aload_n 1, 1) := by decide +kernel
theorem dX2_findNear_62 : decode cX2_findNear 62 = .ok (.invokevirtual 171, 3) := by decide +kernel
theorem dX2_findNear_65 : decode cX2_findNear 65 = .ok (.istore 7, 2) := by decide +kernel
theorem dX2_findNear_67 : decode cX2_findNear 67 = .ok (.iload 7, 2) := by decide +kernel
theorem dX2_findNear_69 : decode cX2_findNear 69 = .ok (.iload 4, 2) := by decide +kernel
theorem dX2_findNear_71 : decode cX2_findNear 71 = .ok (.if_icmp .gt 10, 3) := by decide +kernel
theorem dX2_findNear_74 : decode cX2_findNear 74 = .ok (.iload 7, 2) := by decide +kernel
theorem dX2_findNear_76 : decode cX2_findNear 76 = .ok (.istore 4, 2) := by decide +kernel
theorem dX2_findNear_78 : decode cX2_findNear 78 = .ok (.aload 6, 2) := by decide +kernel
theorem dX2_findNear_80 : decode cX2_findNear 80 = .ok (.astore_n 3, 1) := by decide +kernel
theorem dX2_findNear_81 : decode cX2_findNear 81 = .ok (.iinc 5 1, 3) := by decide +kernel
theorem dX2_findNear_84 : decode cX2_findNear 84 = .ok (.goto (-64), 3) := by decide +kernel
theorem dX2_findNear_87 : decode cX2_findNear 87 = .ok (.aload_n 3, 1) := by decide +kernel
theorem dX2_findNear_88 : decode cX2_findNear 88 = .ok (.areturn, 1) := by decide +kernel
theorem dX2_distance_0 : decode cX2_distance 0 = .ok (.iconst 0, 1) := by decide +kernel
theorem dX2_distance_1 : decode cX2_distance 1 = .ok (.istore_n 3, 1) := by decide +kernel
theorem dX2_distance_2 : decode cX2_distance 2 = .ok (.iload_n 3, 1) := by decide +kernel
theorem dX2_distance_3 : decode cX2_distance 3 = .ok (.aload_n 2, 1) := by decide +kernel
theorem dX2_distance_4 : decode cX2_distance 4 = .ok (.getfield 118, 3) := by decide +kernel
theorem dX2_distance_7 : decode cX2_distance 7 = .ok (.arraylength, 1) := by decide +kernel
theorem dX2_distance_8 : decode cX2_distance 8 = .ok (.if_icmp .gt 16, 3) := by decide +kernel
theorem dX2_distance_11 : decode cX2_distance 11 = .ok (.aload_n 0, 1) := by decide +kernel
theorem dX2_distance_12 : decode cX2_distance 12 = .ok (.getfield 51, 3) := by decide +kernel
theorem dX2_distance_15 : decode cX2_distance 15 = .ok (.iload_n 3, 1) := by decide +kernel
theorem dX2_distance_16 : decode cX2_distance 16 = .ok (.iload_n 3, 1) := by decide +kernel
theorem dX2_distance_17 : decode cX2_distance 17 = .ok (.iastore, 1) := by decide +kernel
theorem dX2_distance_18 : decode cX2_distance 18 = .ok (.iinc 3 1, 3) := by decide +kernel
theorem dX2_distance_21 : decode cX2_distance 21 = .ok (.goto (-19), 3) := by decide +kernel
theorem dX2_distance_24 : decode cX2_distance 24 = .ok (.iconst 0, 1) := by decide +kernel
theorem dX2_distance_25 : decode cX2_distance 25 = .ok (.istore_n 3, 1) := by decide +kernel
theorem dX2_distance_26 : decode cX2_distance 26 = .ok (.iload_n 3, 1) := by decide +kernel
theorem dX2_distance_27 : decode cX2_distance 27 = .ok (.aload_n 1, 1) := by decide +kernel
theorem dX2_distance_28 : decode cX2_distance 28 = .ok (.getfield 118, 3) := by decide +kernel
theorem dX2_distance_31 : decode cX2_distance 31 = .ok (.arraylength, 1) := by decide +kernel
theorem dX2_distance_32 : decode cX2_distance 32 = .ok (.if_icmp .ge 110, 3) := by decide +kernel
theorem dX2_distance_35 : decode cX2_distance 35 = .ok (.aload_n 0, 1) := by decide +kernel
theorem dX2_distance_36 : decode cX2_distance 36 = .ok (.getfield 51, 3) := by decide +kernel
theorem dX2_distance_39 : decode cX2_distance 39 = .ok (.iconst 0, 1) := by decide +kernel
theorem dX2_distance_40 : decode cX2_distance 40 = .ok (.iaload, 1) := by decide +kernel
theorem dX2_distance_41 : decode cX2_distance 41 = .ok (.istore 4, 2) := by decide +kernel
theorem dX2_distance_43 : decode cX2_distance 43 = .ok (.aload_n 0, 1) := by decide +kernel
theorem dX2_distance_44 : decode cX2_distance 44 = .ok (.getfield 51, 3) := by decide +kernel
theorem dX2_distance_47 : decode cX2_distance 47 = .ok (.iconst 0, 1) := by decide +kernel
theorem dX2_distance_48 : decode cX2_distance 48 = .ok (.iload_n 3, 1) := by decide +kernel
theorem dX2_distance_49 : decode cX2_distance 49 = .ok (.iconst 1, 1) := by decide +kernel
theorem dX2_distance_50 : decode cX2_distance 50 = .ok (.iadd, 1) := by decide +kernel
theorem dX2_distance_51 : decode cX2_distance 51 = .ok (.iastore, 1) := by decide +kernel
theorem dX2_distance_52 : decode cX2_distance 52 = .ok (.iconst 0, 1) := by decide +kernel
theorem dX2_distance_53 : decode cX2_distance 53 = .ok (.istore 5, 2) := by decide +kernel
theorem dX2_distance_55 : decode cX2_distance 55 = .ok (.iload 5, 2) := by decide +kernel
theorem dX2_distance_57 : decode cX2_distance 57 = .ok (.aload_n 2, 1) := by decide +kernel
theorem dX2_distance_58 : decode cX2_distance 58 = .ok (.getfield 118, 3) := by decide +kernel
theorem dX2_distance_61 : decode cX2_distance 61 = .ok (.arraylength, 1) := by decide +kernel
theorem dX2_distance_62 : decode cX2_distance 62 = .ok (.if_icmp .ge 74, 3) := by decide +kernel
theorem dX2_distance_65 : decode cX2_distance 65 = .ok (.iload 4, 2) := by decide +kernel
theorem dX2_distance_67 : decode cX2_distance 67 = .ok (.aload_n 1, 1) := by decide +kernel
theorem dX2_distance_68 : decode cX2_distance 68 = .ok (.getfield 118, 3) := by decide +kernel
theorem dX2_distance_71 : decode cX2_distance 71 = .ok (.iload_n 3, 1) := by decide +kernel
theorem dX2_distance_72 : decode cX2_distance 72 = .ok (.iaload, 1) := by decide +kernel
theorem dX2_distance_73 : decode cX2_distance 73 = .ok (.aload_n 2, 1) := by decide +kernel
theorem dX2_distance_74 : decode cX2_distance 74 = .ok (.getfield 118, 3) := by decide +kernel
theorem dX2_distance_77 : decode cX2_distance 77 = .ok (.iload 5, 2) := by decide +kernel
theorem dX2_distance_79 : decode cX2_distance 79 = .ok (.iaload, 1) := by decide +kernel
theorem dX2_distance_80 : decode cX2_distance 80 = .ok (.if_icmp .ne 7, 3) := by decide +kernel
theorem dX2_distance_83 : decode cX2_distance 83 = .ok (.iconst 0, 1) := by decide +kernel
theorem dX2_distance_84 : decode cX2_distance 84 = .ok (.goto 4, 3) := by decide +kernel
theorem dX2_distance_87 : decode cX2_distance 87 = .ok (.iconst 1, 1) := by decide +kernel
theorem dX2_distance_88 : decode cX2_distance 88 = .ok (.iadd, 1) := by decide +kernel
theorem dX2_distance_89 : decode cX2_distance 89 = .ok (.istore 6, 2) := by decide +kernel
theorem dX2_distance_91 : decode cX2_distance 91 = .ok (.aload_n 0, 1) := by decide +kernel
theorem dX2_distance_92 : decode cX2_distance 92 = .ok (.getfield 51, 3) := by decide +kernel
theorem dX2_distance_95 : decode cX2_distance 95 = .ok (.iload 5, 2) := by decide +kernel
theorem dX2_distance_97 : decode cX2_distance 97 = .ok (.iconst 1, 1) := by decide +kernel
theorem dX2_distance_98 : decode cX2_distance 98 = .ok (.iadd, 1) := by decide +kernel
theorem dX2_distance_99 : decode cX2_distance 99 = .ok (.iaload, 1) := by decide +kernel
theorem dX2_distance_100 : decode cX2_distance 100 = .ok (.istore 4, 2) := by decide +kernel
theorem dX2_distance_102 : decode cX2_distance 102 = .ok (.aload_n 0, 1) := by decide +kernel
theorem dX2_distance_103 : decode cX2_distance 103 = .ok (.getfield 51, 3) := by decide +kernel
theorem dX2_distance_106 : decode cX2_distance 106 = .ok (.iload 5, 2) := by decide +kernel
theorem dX2_distance_108 : decode cX2_distance 108 = .ok (.iconst 1, 1) := by decide +kernel
theorem dX2_distance_109 : decode cX2_distance 109 = .ok (.iadd, 1) := by decide +kernel
theorem dX2_distance_110 : decode cX2_distance 110 = .ok (.iload 6, 2) := by decide +kernel
theorem dX2_distance_112 : decode cX2_distance 112 = .ok (.iconst 1, 1) := by decide +kernel
theorem dX2_distance_113 : decode cX2_distance 113 = .ok (.iload 4, 2) := by decide +kernel
theorem dX2_distance_115 : decode cX2_distance 115 = .ok (.aload_n 0, 1) := by decide +kernel
theorem dX2_distance_116 : decode cX2_distance 116 = .ok (.getfield 51, 3) := by decide +kernel
theorem dX2_distance_119 : decode cX2_distance 119 = .ok (.iload 5, 2) := by decide +kernel
theorem dX2_distance_121 : decode cX2_distance 121 = .ok (.iaload, 1) := by decide +kernel
theorem dX2_distance_122 : decode cX2_distance 122 = .ok (.invokestatic 242, 3) := by decide +kernel
theorem dX2_distance_125 : decode cX2_distance 125 = .ok (.iadd, 1) := by decide +kernel
theorem dX2_distance_126 : decode cX2_distance 126 = .ok (.invokestatic 242, 3) := by decide +kernel
theorem dX2_distance_129 : decode cX2_distance 129 = .ok (.iastore, 1) := by decide +kernel
theorem dX2_distance_130 : decode cX2_distance 130 = .ok (.iinc 5 1, 3) := by decide +kernel
theorem dX2_distance_133 : decode cX2_distance 133 = .ok (.goto (-78), 3) := by decide +kernel
theorem dX2_distance_136 : decode cX2_distance 136 = .ok (.iinc 3 1, 3) := by decide +kernel
theorem dX2_distance_139 : decode cX2_distance 139 = .ok (.goto (-113), 3) := by decide +kernel
theorem dX2_distance_142 : decode cX2_distance 142 = .ok (.aload_n 0, 1) := by decide +kernel
theorem dX2_distance_143 : decode cX2_distance 143 = .ok (.getfield 51, 3) := by decide +kernel
theorem dX2_distance_146 : decode cX2_distance 146 = .ok (.aload_n 2, 1) := by decide +kernel
theorem dX2_distance_147 : decode cX2_distance 147 = .ok (.getfield 118, 3) := by decide +kernel
theorem dX2_distance_150 : decode cX2_distance 150 = .ok (.arraylength, 1) := by decide +kernel
theorem dX2_distance_151 : decode cX2_distance 151 = .ok (.iaload, 1) := by decide +kernel
theorem dX2_distance_152 : decode cX2_distance 152 = .ok (.ireturn, 1) := by decide +kernel
theorem dX3_init_0 : decode cX3_init 0 = .ok (.aload_n 0, 1) := by decide +kernel
theorem dX3_init_1 : decode cX3_init 1 = .ok (.invokespecial 1, 3) := by decide +kernel
theorem dX3_init_4 : decode cX3_init 4 = .ok (.aload_n 0, 1) := by decide +kernel
theorem dX3_init_5 : decode cX3_init 5 = .ok (.bipush 6, 2) := by decide +kernel
theorem dX3_init_7 : decode cX3_init 7 = .ok (.newarray .int, 2) := by decide +kernel
theorem dX3_init_9 : decode cX3_init 9 = .ok (.putfield 7, 3) := by decide +kernel
theorem dX3_init_12 : decode cX3_init 12 = .ok (.aload_n 0, 1) := by decide +kernel
theorem dX3_init_13 : decode cX3_init 13 = .ok (.bipush 6, 2) := by decide +kernel
theorem dX3_init_15 : decode cX3_init 15 = .ok (.newarray .int, 2) := by decide +kernel
theorem dX3_init_17 : decode cX3_init 17 = .ok (.putfield 13, 3) := by decide +kernel
theorem dX3_init_20 : decode cX3_init 20 = .ok (.aload_n 0, 1) := by decide +kernel
theorem dX3_init_21 : decode cX3_init 21 = .ok (.bipush 6, 2) := by decide +kernel
theorem dX3_init_23 : decode cX3_init 23 = .ok (.newarray .int, 2) := by decide +kernel
theorem dX3_init_25 : decode cX3_init 25 = .ok (.putfield 16, 3) := by decide +kernel
theorem dX3_init_28 : decode cX3_init 28 = .ok (.aload_n 0, 1) := by decide +kernel
theorem dX3_init_29 : decode cX3_init 29 = .ok (.bipush 8, 2) := by decide +kernel
theorem dX3_init_31 : decode cX3_init 31 = .ok (.newarray .int, 2) := by decide +kernel
theorem dX3_init_33 : decode cX3_init 33 = .ok (.putfield 19, 3) := by decide +kernel
theorem dX3_init_36 : decode cX3_init 36 = .ok (.aload_n 0, 1) := by decide +kernel
theorem dX3_init_37 : decode cX3_init 37 = .ok (.sipush 540, 3) := by decide +kernel
theorem dX3_init_40 : decode cX3_init 40 = .ok (.newarray .int, 2) := by decide +kernel
theorem dX3_init_42 : decode cX3_init 42 = .ok (.putfield 22, 3) := by decide +kernel
theorem dX3_init_45 : decode cX3_init 45 = .ok (.aload_n 0, 1) := by decide +kernel
theorem dX3_init_46 : decode cX3_init 46 = .ok (.sipush 540, 3) := by decide +kernel
theorem dX3_init_49 : decode cX3_init 49 = .ok (.newarray .boolean, 2) := by decide +kernel
theorem dX3_init_51 : decode cX3_init 51 = .ok (.putfield 25, 3) := by decide +kernel
theorem dX3_init_54 : decode cX3_init 54 = .ok (.aload_n 0, 1) := by decide +kernel
theorem dX3_init_55 : decode cX3_init 55 = .ok (.sipush 4320, 3) := by decide +kernel
theorem dX3_init_58 : decode cX3_init 58 = .ok (.newarray .int, 2) := by decide +kernel
theorem dX3_init_60 : decode cX3_init 60 = .ok (.putfield 29, 3) := by decide +kernel
theorem dX3_init_63 : decode cX3_init 63 = .ok (.aload_n 0, 1) := by decide +kernel
theorem dX3_init_64 : decode cX3_init 64 = .ok (.bipush 10, 2) := by decide +kernel
theorem dX3_init_66 : decode cX3_init 66 = .ok (.newarray .int, 2) := by decide +kernel
theorem dX3_init_68 : decode cX3_init 68 = .ok (.putfield 32, 3) := by decide +kernel
theorem dX3_init_71 : decode cX3_init 71 = .ok (.aload_n 0, 1) := by decide +kernel
theorem dX3_init_72 : decode cX3_init 72 = .ok (.bipush 60, 2) := by decide +kernel
theorem dX3_init_74 : decode cX3_init 74 = .ok (.newarray .int, 2) := by decide +kernel
theorem dX3_init_76 : decode cX3_init 76 = .ok (.putfield 35, 3) := by decide +kernel
theorem dX3_init_79 : decode cX3_init 79 = .ok (.aload_n 0, 1) := by decide +kernel
theorem dX3_init_80 : decode cX3_init 80 = .ok (.bipush 20, 2) := by decide +kernel
theorem dX3_init_82 : decode cX3_init 82 = .ok (.newarray .int, 2) := by decide +kernel
theorem dX3_init_84 : decode cX3_init 84 = .ok (.putfield 38, 3) := by decide +kernel
theorem dX3_init_87 : decode cX3_init 87 = .ok (.aload_n 0, 1) := by decide +kernel
theorem dX3_init_88 : decode cX3_init 88 = .ok (.bipush 20, 2) := by decide +kernel
theorem dX3_init_90 : decode cX3_init 90 = .ok (.newarray .int, 2) := by decide +kernel
theorem dX3_init_92 : decode cX3_init 92 = .ok (.putfield 41, 3) := by decide +kernel
theorem dX3_init_95 : decode cX3_init 95 = .ok (.aload_n 0, 1) := by decide +kernel
theorem dX3_init_96 : decode cX3_init 96 = .ok (.bipush 20, 2) := by decide +kernel
theorem dX3_init_98 : decode cX3_init 98 = .ok (.newarray .int, 2) := by decide +kernel
theorem dX3_init_100 : decode cX3_init 100 = .ok (.putfield 44, 3) := by decide +kernel
theorem dX3_init_103 : decode cX3_init 103 = .ok (.aload_n 0, 1) := by decide +kernel
theorem dX3_init_104 : decode cX3_init 104 = .ok (.sipush 160, 3) := by decide +kernel
theorem dX3_init_107 : decode cX3_init 107 = .ok (.newarray .int, 2) := by decide +kernel
theorem dX3_init_109 : decode cX3_init 109 = .ok (.putfield 47, 3) := by decide +kernel
theorem dX3_init_112 : decode cX3_init 112 = .ok (.aload_n 0, 1) := by decide +kernel
theorem dX3_init_113 : decode cX3_init 113 = .ok (.sipush 160, 3) := by decide +kernel
theorem dX3_init_116 : decode cX3_init 116 = .ok (.newarray .int, 2) := by decide +kernel
theorem dX3_init_118 : decode cX3_init 118 = .ok (.putfield 50, 3) := by decide +kernel
theorem dX3_init_121 : decode cX3_init 121 = .ok (.aload_n 0, 1) := by decide +kernel
theorem dX3_init_122 : decode cX3_init 122 = .ok (.bipush 9, 2) := by decide +kernel
theorem dX3_init_124 : decode cX3_init 124 = .ok (.newarray .int, 2) := by decide +kernel
theorem dX3_init_126 : decode cX3_init 126 = .ok (.putfield 53, 3) := by decide +kernel
theorem dX3_init_129 : decode cX3_init 129 = .ok (.aload_n 0, 1) := by decide +kernel
theorem dX3_init_130 : decode cX3_init 130 = .ok (.bipush 9, 2) := by decide +kernel
theorem dX3_init_132 : decode cX3_init 132 = .ok (.newarray .int, 2) := by decide +kernel
theorem dX3_init_134 : decode cX3_init 134 = .ok (.putfield 56, 3) := by decide +kernel
theorem dX3_init_137 : decode cX3_init 137 = .ok (.iconst 0, 1) := by decide +kernel
theorem dX3_init_138 : decode cX3_init 138 = .ok (.istore_n 1, 1) := by decide +kernel
theorem dX3_init_139 : decode cX3_init 139 = .ok (.iload_n 1, 1) := by decide +kernel
theorem dX3_init_140 : decode cX3_init 140 = .ok (.bipush 6, 2) := by decide +kernel
theorem dX3_init_142 : decode cX3_init 142 = .ok (.if_icmp .ge 23, 3) := by decide +kernel
theorem dX3_init_145 : decode cX3_init 145 = .ok (.aload_n 0, 1) := by decide +kernel
theorem dX3_init_146 : decode cX3_init 146 = .ok (.getfield 13, 3) := by decide +kernel
theorem dX3_init_149 : decode cX3_init 149 = .ok (.iload_n 1, 1) := by decide +kernel
theorem dX3_init_150 : decode cX3_init 150 = .ok (.iconst 1, 1) := by decide +kernel
theorem dX3_init_151 : decode cX3_init 151 = .ok (.iastore, 1) := by decide +kernel
theorem dX3_init_152 : decode cX3_init 152 = .ok (.aload_n 0, 1) := by decide +kernel
theorem dX3_init_153 : decode cX3_init 153 = .ok (.getfield 16, 3) := by decide +kernel
theorem dX3_init_156 : decode cX3_init 156 = .ok (.iload_n 1, 1) := by decide +kernel
theorem dX3_init_157 : decode cX3_init 157 = .ok (.iconst 1, 1) := by decide +kernel
theorem dX3_init_158 : decode cX3_init 158 = .ok (.iastore, 1) := by decide +kernel
theorem dX3_init_159 : decode cX3_init 159 = .ok (.iinc 1 1, 3) := by decide +kernel
theorem dX3_init_162 : decode cX3_init 162 = .ok (.goto (-23), 3) := by decide +kernel
theorem dX3_init_165 : decode cX3_init 165 = .ok (.return_, 1) := by decide +kernel
theorem dX3_thrown_0 : decode cX3_thrown 0 = .ok (.aload_n 0, 1) := by decide +kernel
theorem dX3_thrown_1 : decode cX3_thrown 1 = .ok (.getfield 59, 3) := by decide +kernel
theorem dX3_thrown_4 : decode cX3_thrown 4 = .ok (.ireturn, 1) := by decide +kernel
theorem dX3_in_0 : decode cX3_in 0 = .ok (.iload_n 0, 1) := by decide +kernel
theorem dX3_in_1 : decode cX3_in 1 = .ok (.iload_n 1, 1) := by decide +kernel
theorem dX3_in_2 : decode cX3_in 2 = .ok (.if_icmp .lt 12, 3) := by decide +kernel
theorem dX3_in_5 : decode cX3_in 5 = .ok (.iload_n 0, 1) := by decide +kernel
theorem dX3_in_6 : decode cX3_in 6 = .ok (.iload_n 2, 1) := by decide +kernel
theorem dX3_in_7 : decode cX3_in 7 = .ok (.if_icmp .gt 7, 3) := by decide +kernel
theorem dX3_in_10 : decode cX3_in 10 = .ok (.iconst 1, 1) := by decide +kernel
theorem dX3_in_11 : decode cX3_in 11 = .ok (.goto 4, 3) := by decide +kernel
theorem dX3_in_14 : decode cX3_in 14 = .ok (.iconst 0, 1) := by decide +kernel
theorem dX3_in_15 : decode cX3_in 15 = .ok (.ireturn, 1) := by decide +kernel
theorem dX3_goes_0 : decode cX3_goes 0 = .ok (.aload_n 0, 1) := by decide +kernel
theorem dX3_goes_1 : decode cX3_goes 1 = .ok (.iload_n 1, 1) := by decide +kernel
theorem dX3_goes_2 : decode cX3_goes 2 = .ok (.ifCond .ne 7, 3) := by decide +kernel
theorem dX3_goes_5 : decode cX3_goes 5 = .ok (.iconst 1, 1) := by decide +kernel
theorem dX3_goes_6 : decode cX3_goes 6 = .ok (.goto 20, 3) := by decide +kernel
theorem dX3_goes_9 : decode cX3_goes 9 = .ok (.iload_n 2, 1) := by decide +kernel
theorem dX3_goes_10 : decode cX3_goes 10 = .ok (.ifCond .ne 7, 3) := by decide +kernel
theorem dX3_goes_13 : decode cX3_goes 13 = .ok (.iconst 2, 1) := by decide +kernel
theorem dX3_goes_14 : decode cX3_goes 14 = .ok (.goto 12, 3) := by decide +kernel
theorem dX3_goes_17 : decode cX3_goes 17 = .ok (.iload_n 3, 1) := by decide +kernel
theorem dX3_goes_18 : decode cX3_goes 18 = .ok (.ifCond .eq 7, 3) := by decide +kernel
theorem dX3_goes_21 : decode cX3_goes 21 = .ok (.iconst 0, 1) := by decide +kernel
theorem dX3_goes_22 : decode cX3_goes 22 = .ok (.goto 4, 3) := by decide +kernel
theorem dX3_goes_25 : decode cX3_goes 25 = .ok (.iconst 3, 1) := by decide +kernel
theorem dX3_goes_26 : decode cX3_goes 26 = .ok (.putfield 59, 3) := by decide +kernel
theorem dX3_goes_29 : decode cX3_goes 29 = .ok (.aload_n 0, 1) := by decide +kernel
theorem dX3_goes_30 : decode cX3_goes 30 = .ok (.getfield 59, 3) := by decide +kernel
theorem dX3_goes_33 : decode cX3_goes 33 = .ok (.ifCond .ne 7, 3) := by decide +kernel
theorem dX3_goes_36 : decode cX3_goes 36 = .ok (.iconst 1, 1) := by decide +kernel
theorem dX3_goes_37 : decode cX3_goes 37 = .ok (.goto 4, 3) := by decide +kernel
theorem dX3_goes_40 : decode cX3_goes 40 = .ok (.iconst 0, 1) := by decide +kernel
theorem dX3_goes_41 : decode cX3_goes 41 = .ok (.ireturn, 1) := by decide +kernel
set_option maxRecDepth 20000 in
theorem ggX3_isKey_X3_in : GoodIn wsX3_isKey wsX3_in := goodIn_r _ [4] (by decide +kernel) (by decide +kernel)
set_option maxRecDepth 20000 in
theorem gX3_isKey_X3_in : GoodIn wsX3_isKey (va_wsS RX3 63 yX3_in wsX3_in) := goodIn_app (goodIn_of _ (by decide +kernel)) ggX3_isKey_X3_in
theorem dX3_isKey_0 : decode cX3_isKey 0 = .ok (.iload_n 0, 1) := by decide +kernel
theorem dX3_isKey_1 : decode cX3_isKey 1 = .ok (.iconst 0, 1) := by decide +kernel
theorem dX3_isKey_2 : decode cX3_isKey 2 = .ok (.bipush 9, 2) := by decide +kernel
theorem dX3_isKey_4 : decode cX3_isKey 4 = .ok (.invokestatic 63, 3) := by decide +kernel
theorem dX3_isKey_7 : decode cX3_isKey 7 = .ok (.ireturn, 1) := by decide +kernel
set_option maxRecDepth 20000 in
theorem ggX3_isLanguage_X3_in : GoodIn wsX3_isLanguage wsX3_in := goodIn_r _ [4] (by decide +kernel) (by decide +kernel)
set_option maxRecDepth 20000 in
theorem gX3_isLanguage_X3_in : GoodIn wsX3_isLanguage (va_wsS RX3 63 yX3_in wsX3_in) := goodIn_app (goodIn_of _ (by decide +kernel)) ggX3_isLanguage_X3_in
theorem dX3_isLanguage_0 : decode cX3_isLanguage 0 = .ok (.iload_n 0, 1) := by decide +kernel
theorem dX3_isLanguage_1 : decode cX3_isLanguage 1 = .ok (.iconst 0, 1) := by decide +kernel
theorem dX3_isLanguage_2 : decode cX3_isLanguage 2 = .ok (.iconst 5, 1) := by decide +kernel
theorem dX3_isLanguage_3 : decode cX3_isLanguage 3 = .ok (.invokestatic 63, 3) := by decide +kernel
theorem dX3_isLanguage_6 : decode cX3_isLanguage 6 = .ok (.ireturn, 1) := by decide +kernel
set_option maxRecDepth 20000 in
theorem ggX3_isThird_X3_in : GoodIn wsX3_isThird wsX3_in := goodIn_r _ [4] (by decide +kernel) (by decide +kernel)
set_option maxRecDepth 20000 in
theorem gX3_isThird_X3_in : GoodIn wsX3_isThird (va_wsS RX3 63 yX3_in wsX3_in) := goodIn_app (goodIn_of _ (by decide +kernel)) ggX3_isThird_X3_in
theorem dX3_isThird_0 : decode cX3_isThird 0 = .ok (.iload_n 0, 1) := by decide +kernel
theorem dX3_isThird_1 : decode cX3_isThird 1 = .ok (.iconst 0, 1) := by decide +kernel
theorem dX3_isThird_2 : decode cX3_isThird 2 = .ok (.iconst 2, 1) := by decide +kernel
theorem dX3_isThird_3 : decode cX3_isThird 3 = .ok (.invokestatic 63, 3) := by decide +kernel
theorem dX3_isThird_6 : decode cX3_isThird 6 = .ok (.ireturn, 1) := by decide +kernel
set_option maxRecDepth 20000 in
theorem ggX3_isForm_X3_isKey : GoodIn wsX3_isForm wsX3_isKey := goodIn_r _ [4, 5, 6, 3, 7] (by decide +kernel) (by decide +kernel)
set_option maxRecDepth 20000 in
theorem gX3_isForm_X3_isKey : GoodIn wsX3_isForm (va_wsS RX3 67 yX3_isKey wsX3_isKey) := goodIn_app (goodIn_of _ (by decide +kernel)) ggX3_isForm_X3_isKey
set_option maxRecDepth 20000 in
theorem ggX3_isForm_X3_isLanguage : GoodIn wsX3_isForm wsX3_isLanguage := goodIn_r _ [10, 5, 6, 3, 7] (by decide +kernel) (by decide +kernel)
set_option maxRecDepth 20000 in
theorem gX3_isForm_X3_isLanguage : GoodIn wsX3_isForm (va_wsS RX3 71 yX3_isLanguage wsX3_isLanguage) := goodIn_app (goodIn_of _ (by decide +kernel)) ggX3_isForm_X3_isLanguage
set_option maxRecDepth 20000 in
theorem ggX3_isForm_X3_isThird : GoodIn wsX3_isForm wsX3_isThird := goodIn_r _ [13, 5, 6, 3, 7] (by decide +kernel) (by decide +kernel)
set_option maxRecDepth 20000 in
theorem gX3_isForm_X3_isThird : GoodIn wsX3_isForm (va_wsS RX3 74 yX3_isThird wsX3_isThird) := goodIn_app (goodIn_of _ (by decide +kernel)) ggX3_isForm_X3_isThird
theorem dX3_isForm_0 : decode cX3_isForm 0 = .ok (.iload_n 0, 1) := by decide +kernel
theorem dX3_isForm_1 : decode cX3_isForm 1 = .ok (.invokestatic 67, 3) := by decide +kernel
theorem dX3_isForm_4 : decode cX3_isForm 4 = .ok (.ifCond .eq 28, 3) := by decide +kernel
theorem dX3_isForm_7 : decode cX3_isForm 7 = .ok (.iload_n 1, 1) := by decide +kernel
theorem dX3_isForm_8 : decode cX3_isForm 8 = .ok (.invokestatic 71, 3) := by decide +kernel
theorem dX3_isForm_11 : decode cX3_isForm 11 = .ok (.ifCond .eq 21, 3) := by decide +kernel
theorem dX3_isForm_14 : decode cX3_isForm 14 = .ok (.iload_n 2, 1) := by decide +kernel
theorem dX3_isForm_15 : decode cX3_isForm 15 = .ok (.invokestatic 74, 3) := by decide +kernel
theorem dX3_isForm_18 : decode cX3_isForm 18 = .ok (.ifCond .eq 14, 3) := by decide +kernel
theorem dX3_isForm_21 : decode cX3_isForm 21 = .ok (.iload_n 3, 1) := by decide +kernel
theorem dX3_isForm_22 : decode cX3_isForm 22 = .ok (.invokestatic 74, 3) := by decide +kernel
theorem dX3_isForm_25 : decode cX3_isForm 25 = .ok (.ifCond .eq 7, 3) := by decide +kernel
theorem dX3_isForm_28 : decode cX3_isForm 28 = .ok (.iconst 1, 1) := by decide +kernel
theorem dX3_isForm_29 : decode cX3_isForm 29 = .ok (.goto 4, 3) := by decide +kernel
theorem dX3_isForm_32 : decode cX3_isForm 32 = .ok (.iconst 0, 1) := by decide +kernel
theorem dX3_isForm_33 : decode cX3_isForm 33 = .ok (.ireturn, 1) := by decide +kernel
theorem dX3_at_0 : decode cX3_at 0 = .ok (.bipush 9, 2) := by decide +kernel
theorem dX3_at_2 : decode cX3_at 2 = .ok (.bipush 6, 2) := by decide +kernel
theorem dX3_at_4 : decode cX3_at 4 = .ok (.iload_n 0, 1) := by decide +kernel
theorem dX3_at_5 : decode cX3_at 5 = .ok (.imul, 1) := by decide +kernel
theorem dX3_at_6 : decode cX3_at 6 = .ok (.iload_n 1, 1) := by decide +kernel
theorem dX3_at_7 : decode cX3_at 7 = .ok (.iadd, 1) := by decide +kernel
theorem dX3_at_8 : decode cX3_at 8 = .ok (.imul, 1) := by decide +kernel
theorem dX3_at_9 : decode cX3_at 9 = .ok (.iconst 3, 1) := by decide +kernel
theorem dX3_at_10 : decode cX3_at 10 = .ok (.iload_n 2, 1) := by decide +kernel
theorem dX3_at_11 : decode cX3_at 11 = .ok (.imul, 1) := by decide +kernel
theorem dX3_at_12 : decode cX3_at 12 = .ok (.iadd, 1) := by decide +kernel
theorem dX3_at_13 : decode cX3_at 13 = .ok (.iload_n 3, 1) := by decide +kernel
theorem dX3_at_14 : decode cX3_at 14 = .ok (.iadd, 1) := by decide +kernel
theorem dX3_at_15 : decode cX3_at 15 = .ok (.ireturn, 1) := by decide +kernel
theorem dX3_isInChain_0 : decode cX3_isInChain 0 = .ok (.iload_n 2, 1) := by decide +kernel
theorem dX3_isInChain_1 : decode cX3_isInChain 1 = .ok (.istore_n 3, 1) := by decide +kernel
theorem dX3_isInChain_2 : decode cX3_isInChain 2 = .ok (.iload_n 3, 1) := by decide +kernel
theorem dX3_isInChain_3 : decode cX3_isInChain 3 = .ok (.iload_n 1, 1) := by decide +kernel
theorem dX3_isInChain_4 : decode cX3_isInChain 4 = .ok (.if_icmp .eq 17, 3) := by decide +kernel
theorem dX3_isInChain_7 : decode cX3_isInChain 7 = .ok (.iload_n 3, 1) := by decide +kernel
theorem dX3_isInChain_8 : decode cX3_isInChain 8 = .ok (.ifCond .eq 13, 3) := by decide +kernel
theorem dX3_isInChain_11 : decode cX3_isInChain 11 = .ok (.aload_n 0, 1) := by decide +kernel
theorem dX3_isInChain_12 : decode cX3_isInChain 12 = .ok (.getfield 7, 3) := by decide +kernel
theorem dX3_isInChain_15 : decode cX3_isInChain 15 = .ok (.iload_n 3, 1) := by decide +kernel
theorem dX3_isInChain_16 : decode cX3_isInChain 16 = .ok (.iaload, 1) := by decide +kernel
theorem dX3_isInChain_17 : decode cX3_isInChain 17 = .ok (.istore_n 3, 1) := by decide +kernel
theorem dX3_isInChain_18 : decode cX3_isInChain 18 = .ok (.goto (-16), 3) := by decide +kernel
theorem dX3_isInChain_21 : decode cX3_isInChain 21 = .ok (.iload_n 3, 1) := by decide +kernel
theorem dX3_isInChain_22 : decode cX3_isInChain 22 = .ok (.iload_n 1, 1) := by decide +kernel
theorem dX3_isInChain_23 : decode cX3_isInChain 23 = .ok (.if_icmp .ne 7, 3) := by decide +kernel
theorem dX3_isInChain_26 : decode cX3_isInChain 26 = .ok (.iconst 1, 1) := by decide +kernel
theorem dX3_isInChain_27 : decode cX3_isInChain 27 = .ok (.goto 4, 3) := by decide +kernel
theorem dX3_isInChain_30 : decode cX3_isInChain 30 = .ok (.iconst 0, 1) := by decide +kernel
theorem dX3_isInChain_31 : decode cX3_isInChain 31 = .ok (.ireturn, 1) := by decide +kernel
set_option maxRecDepth 20000 in
theorem ggX3_setFallback_X3_in : GoodIn wsX3_setFallback wsX3_in := goodIn_r _ [5] (by decide +kernel) (by decide +kernel)
set_option maxRecDepth 20000 in
theorem gX3_setFallback_X3_in : GoodIn wsX3_setFallback (va_wsS RX3 63 yX3_in wsX3_in) := goodIn_app (goodIn_of _ (by decide +kernel)) ggX3_setFallback_X3_in
set_option maxRecDepth 20000 in
theorem ggX3_setFallback_X3_isLanguage : GoodIn wsX3_setFallback wsX3_isLanguage := goodIn_r _ [8, 2, 3, 4, 5] (by decide +kernel) (by decide +kernel)
set_option maxRecDepth 20000 in
theorem gX3_setFallback_X3_isLanguage : GoodIn wsX3_setFallback (va_wsS RX3 71 yX3_isLanguage wsX3_isLanguage) := goodIn_app (goodIn_of _ (by decide +kernel)) ggX3_setFallback_X3_isLanguage
set_option maxRecDepth 20000 in
theorem ggX3_setFallback_X3_isInChain : GoodIn wsX3_setFallback wsX3_isInChain := goodIn_r _ [12, 1, 18, 19, 20, 21, 22, 23, 24, 25, 26, 27, 28, 29, 30, 31, 32, 33, 34, 35, 36, 37, 38] (by decide +kernel) (by decide +kernel)
set_option maxRecDepth 20000 in
theorem gX3_setFallback_X3_isInChain : GoodIn wsX3_setFallback (wsV RX3 77 RX3 yX3_isInChain wsX3_isInChain) := goodIn_app (goodIn_of _ (by decide +kernel)) ggX3_setFallback_X3_isInChain
set_option maxRecDepth 20000 in
theorem ggX3_setFallback_X3_goes : GoodIn wsX3_setFallback wsX3_goes := goodIn_r _ [16, 17, 18, 19, 20, 21, 22, 23, 24, 25, 26, 27, 28, 29, 30, 31, 32, 33, 34, 35, 36, 37, 38] (by decide +kernel) (by decide +kernel)
set_option maxRecDepth 20000 in
theorem gX3_setFallback_X3_goes : GoodIn wsX3_setFallback (wsV RX3 81 RX3 yX3_goes wsX3_goes) := goodIn_app (goodIn_of _ (by decide +kernel)) ggX3_setFallback_X3_goes
theorem dX3_setFallback_0 : decode cX3_setFallback 0 = .ok (.iload_n 1, 1) := by decide +kernel
theorem dX3_setFallback_1 : decode cX3_setFallback 1 = .ok (.iconst 1, 1) := by decide +kernel
theorem dX3_setFallback_2 : decode cX3_setFallback 2 = .ok (.iconst 5, 1) := by decide +kernel
theorem dX3_setFallback_3 : decode cX3_setFallback 3 = .ok (.invokestatic 63, 3) := by decide +kernel
theorem dX3_setFallback_6 : decode cX3_setFallback 6 = .ok (.ifCond .eq 14, 3) := by decide +kernel
theorem dX3_setFallback_9 : decode cX3_setFallback 9 = .ok (.iload_n 2, 1) := by decide +kernel
theorem dX3_setFallback_10 : decode cX3_setFallback 10 = .ok (.invokestatic 71, 3) := by decide +kernel
theorem dX3_setFallback_13 : decode cX3_setFallback 13 = .ok (.ifCond .eq 7, 3) := by decide +kernel
theorem dX3_setFallback_16 : decode cX3_setFallback 16 = .ok (.iconst 1, 1) := by decide +kernel
theorem dX3_setFallback_17 : decode cX3_setFallback 17 = .ok (.goto 4, 3) := by decide +kernel
theorem dX3_setFallback_20 : decode cX3_setFallback 20 = .ok (.iconst 0, 1) := by decide +kernel
theorem dX3_setFallback_21 : decode cX3_setFallback 21 = .ok (.istore_n 3, 1) := by decide +kernel
theorem dX3_setFallback_22 : decode cX3_setFallback 22 = .ok (.aload_n 0, 1) := by decide +kernel
theorem dX3_setFallback_23 : decode cX3_setFallback 23 = .ok (.iload_n 3, 1) := by decide +kernel
theorem dX3_setFallback_24 : decode cX3_setFallback 24 = .ok (.iload_n 3, 1) := by decide +kernel
theorem dX3_setFallback_25 : decode cX3_setFallback 25 = .ok (.ifCond .eq 16, 3) := by decide +kernel
theorem dX3_setFallback_28 : decode cX3_setFallback 28 = .ok (.aload_n 0, 1) := by decide +kernel
theorem dX3_setFallback_29 : decode cX3_setFallback 29 = .ok (.iload_n 1, 1) := by decide +kernel
theorem dX3_setFallback_30 : decode cX3_setFallback 30 = .ok (.iload_n 2, 1) := by decide +kernel
theorem dX3_setFallback_31 : decode cX3_setFallback 31 = .ok (.invokevirtual 77, 3) := by decide +kernel
theorem dX3_setFallback_34 : decode cX3_setFallback 34 = .ok (.ifCond .ne 7, 3) := by decide +kernel
theorem dX3_setFallback_37 : decode cX3_setFallback 37 = .ok (.iconst 1, 1) := by decide +kernel
theorem dX3_setFallback_38 : decode cX3_setFallback 38 = .ok (.goto 4, 3) := by decide +kernel
theorem dX3_setFallback_41 : decode cX3_setFallback 41 = .ok (.iconst 0, 1) := by decide +kernel
theorem dX3_setFallback_42 : decode cX3_setFallback 42 = .ok (.iconst 1, 1) := by decide +kernel
theorem dX3_setFallback_43 : decode cX3_setFallback 43 = .ok (.invokevirtual 81, 3) := by decide +kernel
theorem dX3_setFallback_46 : decode cX3_setFallback 46 = .ok (.ifCond .ne 5, 3) := by decide +kernel
theorem dX3_setFallback_49 : decode cX3_setFallback 49 = .ok (.iconst 0, 1) := by decide +kernel
theorem dX3_setFallback_50 : decode cX3_setFallback 50 = .ok (.ireturn, 1) := by decide +kernel
theorem dX3_setFallback_51 : decode cX3_setFallback 51 = .ok (.aload_n 0, 1) := by decide +kernel
theorem dX3_setFallback_52 : decode cX3_setFallback 52 = .ok (.getfield 7, 3) := by decide +kernel
theorem dX3_setFallback_55 : decode cX3_setFallback 55 = .ok (.iload_n 1, 1) := by decide +kernel
theorem dX3_setFallback_56 : decode cX3_setFallback 56 = .ok (.iaload, 1) := by decide +kernel
theorem dX3_setFallback_57 : decode cX3_setFallback 57 = .ok (.istore 4, 2) := by decide +kernel
theorem dX3_setFallback_59 : decode cX3_setFallback 59 = .ok (.aload_n 0, 1) := by decide +kernel
theorem dX3_setFallback_60 : decode cX3_setFallback 60 = .ok (.getfield 7, 3) := by decide +kernel
theorem dX3_setFallback_63 : decode cX3_setFallback 63 = .ok (.iload_n 1, 1) := by decide +kernel
theorem dX3_setFallback_64 : decode cX3_setFallback 64 = .ok (.iload_n 2, 1) := by decide +kernel
theorem dX3_setFallback_65 : decode cX3_setFallback 65 = .ok (.iastore, 1) := by decide +kernel
theorem dX3_setFallback_66 : decode cX3_setFallback 66 = .ok (.iload 4, 2) := by decide +kernel
theorem dX3_setFallback_68 : decode cX3_setFallback 68 = .ok (.ireturn, 1) := by decide +kernel
set_option maxRecDepth 20000 in
theorem ggX3_setNumbers_X3_isLanguage : GoodIn wsX3_setNumbers wsX3_isLanguage := goodIn_r _ [6, 7, 8, 5, 9] (by decide +kernel) (by decide +kernel)
set_option maxRecDepth 20000 in
theorem gX3_setNumbers_X3_isLanguage : GoodIn wsX3_setNumbers (va_wsS RX3 71 yX3_isLanguage wsX3_isLanguage) := goodIn_app (goodIn_of _ (by decide +kernel)) ggX3_setNumbers_X3_isLanguage
set_option maxRecDepth 20000 in
theorem ggX3_setNumbers_X3_in : GoodIn wsX3_setNumbers wsX3_in := goodIn_r _ [9] (by decide +kernel) (by decide +kernel)
set_option maxRecDepth 20000 in
theorem gX3_setNumbers_X3_in : GoodIn wsX3_setNumbers (va_wsS RX3 63 yX3_in wsX3_in) := goodIn_app (goodIn_of _ (by decide +kernel)) ggX3_setNumbers_X3_in
set_option maxRecDepth 20000 in
theorem ggX3_setNumbers_X3_goes : GoodIn wsX3_setNumbers wsX3_goes := goodIn_r _ [13, 14, 15, 16, 17, 18, 19, 20, 21, 22, 23, 24, 25, 26, 27, 28, 29, 30, 31, 32, 33, 34, 35] (by decide +kernel) (by decide +kernel)
set_option maxRecDepth 20000 in
theorem gX3_setNumbers_X3_goes : GoodIn wsX3_setNumbers (wsV RX3 81 RX3 yX3_goes wsX3_goes) := goodIn_app (goodIn_of _ (by decide +kernel)) ggX3_setNumbers_X3_goes
theorem dX3_setNumbers_0 : decode cX3_setNumbers 0 = .ok (.aload_n 0, 1) := by decide +kernel
theorem dX3_setNumbers_1 : decode cX3_setNumbers 1 = .ok (.iload_n 1, 1) := by decide +kernel
theorem dX3_setNumbers_2 : decode cX3_setNumbers 2 = .ok (.invokestatic 71, 3) := by decide +kernel
theorem dX3_setNumbers_5 : decode cX3_setNumbers 5 = .ok (.iload_n 2, 1) := by decide +kernel
theorem dX3_setNumbers_6 : decode cX3_setNumbers 6 = .ok (.iconst 0, 1) := by decide +kernel
theorem dX3_setNumbers_7 : decode cX3_setNumbers 7 = .ok (.bipush 100, 2) := by decide +kernel
theorem dX3_setNumbers_9 : decode cX3_setNumbers 9 = .ok (.invokestatic 63, 3) := by decide +kernel
theorem dX3_setNumbers_12 : decode cX3_setNumbers 12 = .ok (.ifCond .eq 17, 3) := by decide +kernel
theorem dX3_setNumbers_15 : decode cX3_setNumbers 15 = .ok (.iload_n 3, 1) := by decide +kernel
theorem dX3_setNumbers_16 : decode cX3_setNumbers 16 = .ok (.iconst 0, 1) := by decide +kernel
theorem dX3_setNumbers_17 : decode cX3_setNumbers 17 = .ok (.bipush 100, 2) := by decide +kernel
theorem dX3_setNumbers_19 : decode cX3_setNumbers 19 = .ok (.invokestatic 63, 3) := by decide +kernel
theorem dX3_setNumbers_22 : decode cX3_setNumbers 22 = .ok (.ifCond .eq 7, 3) := by decide +kernel
theorem dX3_setNumbers_25 : decode cX3_setNumbers 25 = .ok (.iconst 1, 1) := by decide +kernel
theorem dX3_setNumbers_26 : decode cX3_setNumbers 26 = .ok (.goto 4, 3) := by decide +kernel
theorem dX3_setNumbers_29 : decode cX3_setNumbers 29 = .ok (.iconst 0, 1) := by decide +kernel
theorem dX3_setNumbers_30 : decode cX3_setNumbers 30 = .ok (.iconst 1, 1) := by decide +kernel
theorem dX3_setNumbers_31 : decode cX3_setNumbers 31 = .ok (.invokevirtual 81, 3) := by decide +kernel
theorem dX3_setNumbers_34 : decode cX3_setNumbers 34 = .ok (.ifCond .eq 17, 3) := by decide +kernel
theorem dX3_setNumbers_37 : decode cX3_setNumbers 37 = .ok (.aload_n 0, 1) := by decide +kernel
theorem dX3_setNumbers_38 : decode cX3_setNumbers 38 = .ok (.getfield 13, 3) := by decide +kernel
theorem dX3_setNumbers_41 : decode cX3_setNumbers 41 = .ok (.iload_n 1, 1) := by decide +kernel
theorem dX3_setNumbers_42 : decode cX3_setNumbers 42 = .ok (.iload_n 2, 1) := by decide +kernel
theorem dX3_setNumbers_43 : decode cX3_setNumbers 43 = .ok (.iastore, 1) := by decide +kernel
theorem dX3_setNumbers_44 : decode cX3_setNumbers 44 = .ok (.aload_n 0, 1) := by decide +kernel
theorem dX3_setNumbers_45 : decode cX3_setNumbers 45 = .ok (.getfield 16, 3) := by decide +kernel
theorem dX3_setNumbers_48 : decode cX3_setNumbers 48 = .ok (.iload_n 1, 1) := by decide +kernel
theorem dX3_setNumbers_49 : decode cX3_setNumbers 49 = .ok (.iload_n 3, 1) := by decide +kernel
theorem dX3_setNumbers_50 : decode cX3_setNumbers 50 = .ok (.iastore, 1) := by decide +kernel
theorem dX3_setNumbers_51 : decode cX3_setNumbers 51 = .ok (.return_, 1) := by decide +kernel
set_option maxRecDepth 20000 in
theorem ggX3_sign_X3_in : GoodIn wsX3_sign wsX3_in := goodIn_r _ [6] (by decide +kernel) (by decide +kernel)
set_option maxRecDepth 20000 in
theorem gX3_sign_X3_in : GoodIn wsX3_sign (va_wsS RX3 63 yX3_in wsX3_in) := goodIn_app (goodIn_of _ (by decide +kernel)) ggX3_sign_X3_in
set_option maxRecDepth 20000 in
theorem ggX3_sign_X3_goes : GoodIn wsX3_sign wsX3_goes := goodIn_r _ [10, 11, 12, 13, 14, 15, 16, 17, 18, 19, 20, 21, 22, 23, 24, 25, 26, 27, 28, 29, 30, 31, 32] (by decide +kernel) (by decide +kernel)
set_option maxRecDepth 20000 in
theorem gX3_sign_X3_goes : GoodIn wsX3_sign (wsV RX3 81 RX3 yX3_goes wsX3_goes) := goodIn_app (goodIn_of _ (by decide +kernel)) ggX3_sign_X3_goes
theorem dX3_sign_0 : decode cX3_sign 0 = .ok (.aload_n 0, 1) := by decide +kernel
theorem dX3_sign_1 : decode cX3_sign 1 = .ok (.iload_n 1, 1) := by decide +kernel
theorem dX3_sign_2 : decode cX3_sign 2 = .ok (.iconst 1, 1) := by decide +kernel
theorem dX3_sign_3 : decode cX3_sign 3 = .ok (.bipush 99, 2) := by decide +kernel
theorem dX3_sign_5 : decode cX3_sign 5 = .ok (.invokestatic 63, 3) := by decide +kernel
theorem dX3_sign_8 : decode cX3_sign 8 = .ok (.ifCond .ne 14, 3) := by decide +kernel
theorem dX3_sign_11 : decode cX3_sign 11 = .ok (.iload_n 1, 1) := by decide +kernel
theorem dX3_sign_12 : decode cX3_sign 12 = .ok (.bipush 101, 2) := by decide +kernel
theorem dX3_sign_14 : decode cX3_sign 14 = .ok (.bipush 104, 2) := by decide +kernel
theorem dX3_sign_16 : decode cX3_sign 16 = .ok (.invokestatic 63, 3) := by decide +kernel
theorem dX3_sign_19 : decode cX3_sign 19 = .ok (.ifCond .eq 7, 3) := by decide +kernel
theorem dX3_sign_22 : decode cX3_sign 22 = .ok (.iconst 1, 1) := by decide +kernel
theorem dX3_sign_23 : decode cX3_sign 23 = .ok (.goto 4, 3) := by decide +kernel
theorem dX3_sign_26 : decode cX3_sign 26 = .ok (.iconst 0, 1) := by decide +kernel
theorem dX3_sign_27 : decode cX3_sign 27 = .ok (.aload_n 0, 1) := by decide +kernel
theorem dX3_sign_28 : decode cX3_sign 28 = .ok (.getfield 85, 3) := by decide +kernel
theorem dX3_sign_31 : decode cX3_sign 31 = .ok (.bipush 8, 2) := by decide +kernel
theorem dX3_sign_33 : decode cX3_sign 33 = .ok (.if_icmp .ge 7, 3) := by decide +kernel
theorem dX3_sign_36 : decode cX3_sign 36 = .ok (.iconst 1, 1) := by decide +kernel
theorem dX3_sign_37 : decode cX3_sign 37 = .ok (.goto 4, 3) := by decide +kernel
theorem dX3_sign_40 : decode cX3_sign 40 = .ok (.iconst 0, 1) := by decide +kernel
theorem dX3_sign_41 : decode cX3_sign 41 = .ok (.iconst 1, 1) := by decide +kernel
theorem dX3_sign_42 : decode cX3_sign 42 = .ok (.invokevirtual 81, 3) := by decide +kernel
theorem dX3_sign_45 : decode cX3_sign 45 = .ok (.ifCond .ne 5, 3) := by decide +kernel
theorem dX3_sign_48 : decode cX3_sign 48 = .ok (.iconst 0, 1) := by decide +kernel
theorem dX3_sign_49 : decode cX3_sign 49 = .ok (.ireturn, 1) := by decide +kernel
theorem dX3_sign_50 : decode cX3_sign 50 = .ok (.aload_n 0, 1) := by decide +kernel
theorem dX3_sign_51 : decode cX3_sign 51 = .ok (.getfield 19, 3) := by decide +kernel
theorem dX3_sign_54 : decode cX3_sign 54 = .ok (.aload_n 0, 1) := by decide +kernel
theorem dX3_sign_55 : decode cX3_sign 55 = .ok (.getfield 85, 3) := by decide +kernel
theorem dX3_sign_58 : decode cX3_sign 58 = .ok (.iload_n 1, 1) := by decide +kernel
theorem dX3_sign_59 : decode cX3_sign 59 = .ok (.iastore, 1) := by decide +kernel
theorem dX3_sign_60 : decode cX3_sign 60 = .ok (.aload_n 0, 1) := by decide +kernel
theorem dX3_sign_61 : decode cX3_sign 61 = .ok (.dup, 1) := by decide +kernel
theorem dX3_sign_62 : decode cX3_sign 62 = .ok (.getfield 85, 3) := by decide +kernel
theorem dX3_sign_65 : decode cX3_sign 65 = .ok (.iconst 1, 1) := by decide +kernel
theorem dX3_sign_66 : decode cX3_sign 66 = .ok (.iadd, 1) := by decide +kernel
theorem dX3_sign_67 : decode cX3_sign 67 = .ok (.putfield 85, 3) := by decide +kernel
theorem dX3_sign_70 : decode cX3_sign 70 = .ok (.aload_n 0, 1) := by decide +kernel
theorem dX3_sign_71 : decode cX3_sign 71 = .ok (.getfield 85, 3) := by decide +kernel
theorem dX3_sign_74 : decode cX3_sign 74 = .ok (.ireturn, 1) := by decide +kernel
set_option maxRecDepth 20000 in
theorem ggX3_keeps_X3_forgets : GoodIn wsX3_keeps wsX3_forgets := goodIn_r _ [13, 2, 3, 4, 5, 6, 8, 14, 15, 16, 17, 18, 19, 20, 21, 22, 23, 24, 25, 26, 27, 28, 29, 30, 31, 32, 33, 34] (by decide +kernel) (by decide +kernel)
end
section
set_option maxRecDepth 20000 in
theorem gX3_keeps_X3_forgets : GoodIn wsX3_keeps (wsV RX3 91 RX3 yX3_forgets wsX3_forgets) := goodIn_app (goodIn_of _ (by decide +kernel)) ggX3_keeps_X3_forgets
theorem dX3_keeps_0 : decode cX3_keeps 0 = .ok (.bipush 54, 2) := by decide +kernel
theorem dX3_keeps_2 : decode cX3_keeps 2 = .ok (.iload_n 1, 1) := by decide +kernel
theorem dX3_keeps_3 : decode cX3_keeps 3 = .ok (.imul, 1) := by decide +kernel
theorem dX3_keeps_4 : decode cX3_keeps 4 = .ok (.iload_n 2, 1) := by decide +kernel
theorem dX3_keeps_5 : decode cX3_keeps 5 = .ok (.iadd, 1) := by decide +kernel
theorem dX3_keeps_6 : decode cX3_keeps 6 = .ok (.istore_n 3, 1) := by decide +kernel
theorem dX3_keeps_7 : decode cX3_keeps 7 = .ok (.iconst 1, 1) := by decide +kernel
theorem dX3_keeps_8 : decode cX3_keeps 8 = .ok (.istore 4, 2) := by decide +kernel
theorem dX3_keeps_10 : decode cX3_keeps 10 = .ok (.iload 4, 2) := by decide +kernel
theorem dX3_keeps_12 : decode cX3_keeps 12 = .ok (.bipush 6, 2) := by decide +kernel
theorem dX3_keeps_14 : decode cX3_keeps 14 = .ok (.if_icmp .ge 173, 3) := by decide +kernel
theorem dX3_keeps_17 : decode cX3_keeps 17 = .ok (.iload_n 3, 1) := by decide +kernel
theorem dX3_keeps_18 : decode cX3_keeps 18 = .ok (.bipush 9, 2) := by decide +kernel
theorem dX3_keeps_20 : decode cX3_keeps 20 = .ok (.iload 4, 2) := by decide +kernel
theorem dX3_keeps_22 : decode cX3_keeps 22 = .ok (.imul, 1) := by decide +kernel
theorem dX3_keeps_23 : decode cX3_keeps 23 = .ok (.iadd, 1) := by decide +kernel
theorem dX3_keeps_24 : decode cX3_keeps 24 = .ok (.istore 5, 2) := by decide +kernel
theorem dX3_keeps_26 : decode cX3_keeps 26 = .ok (.aload_n 0, 1) := by decide +kernel
theorem dX3_keeps_27 : decode cX3_keeps 27 = .ok (.getfield 22, 3) := by decide +kernel
theorem dX3_keeps_30 : decode cX3_keeps 30 = .ok (.iload_n 3, 1) := by decide +kernel
theorem dX3_keeps_31 : decode cX3_keeps 31 = .ok (.iaload, 1) := by decide +kernel
theorem dX3_keeps_32 : decode cX3_keeps 32 = .ok (.ifCond .le 149, 3) := by decide +kernel
theorem dX3_keeps_35 : decode cX3_keeps 35 = .ok (.aload_n 0, 1) := by decide +kernel
theorem dX3_keeps_36 : decode cX3_keeps 36 = .ok (.getfield 22, 3) := by decide +kernel
theorem dX3_keeps_39 : decode cX3_keeps 39 = .ok (.iload 5, 2) := by decide +kernel
theorem dX3_keeps_41 : decode cX3_keeps 41 = .ok (.iaload, 1) := by decide +kernel
theorem dX3_keeps_42 : decode cX3_keeps 42 = .ok (.ifCond .le 139, 3) := by decide +kernel
theorem dX3_keeps_45 : decode cX3_keeps 45 = .ok (.aload_n 0, 1) := by decide +kernel
theorem dX3_keeps_46 : decode cX3_keeps 46 = .ok (.getfield 88, 3) := by decide +kernel
theorem dX3_keeps_49 : decode cX3_keeps 49 = .ok (.bipush 20, 2) := by decide +kernel
theorem dX3_keeps_51 : decode cX3_keeps 51 = .ok (.if_icmp .ne 7, 3) := by decide +kernel
theorem dX3_keeps_54 : decode cX3_keeps 54 = .ok (.aload_n 0, 1) := by decide +kernel
theorem dX3_keeps_55 : decode cX3_keeps 55 = .ok (.invokevirtual 91, 3) := by decide +kernel
theorem dX3_keeps_58 : decode cX3_keeps 58 = .ok (.aload_n 0, 1) := by decide +kernel
theorem dX3_keeps_59 : decode cX3_keeps 59 = .ok (.getfield 38, 3) := by decide +kernel
theorem dX3_keeps_62 : decode cX3_keeps 62 = .ok (.aload_n 0, 1) := by decide +kernel
theorem dX3_keeps_63 : decode cX3_keeps 63 = .ok (.getfield 88, 3) := by decide +kernel
theorem dX3_keeps_66 : decode cX3_keeps 66 = .ok (.iload 4, 2) := by decide +kernel
theorem dX3_keeps_68 : decode cX3_keeps 68 = .ok (.iastore, 1) := by decide +kernel
theorem dX3_keeps_69 : decode cX3_keeps 69 = .ok (.aload_n 0, 1) := by decide +kernel
theorem dX3_keeps_70 : decode cX3_keeps 70 = .ok (.getfield 41, 3) := by decide +kernel
theorem dX3_keeps_73 : decode cX3_keeps 73 = .ok (.aload_n 0, 1) := by decide +kernel
theorem dX3_keeps_74 : decode cX3_keeps 74 = .ok (.getfield 88, 3) := by decide +kernel
theorem dX3_keeps_77 : decode cX3_keeps 77 = .ok (.aload_n 0, 1) := by decide +kernel
theorem dX3_keeps_78 : decode cX3_keeps 78 = .ok (.getfield 22, 3) := by decide +kernel
theorem dX3_keeps_81 : decode cX3_keeps 81 = .ok (.iload_n 3, 1) := by decide +kernel
theorem dX3_keeps_82 : decode cX3_keeps 82 = .ok (.iaload, 1) := by decide +kernel
theorem dX3_keeps_83 : decode cX3_keeps 83 = .ok (.iastore, 1) := by decide +kernel
theorem dX3_keeps_84 : decode cX3_keeps 84 = .ok (.aload_n 0, 1) := by decide +kernel
theorem dX3_keeps_85 : decode cX3_keeps 85 = .ok (.getfield 44, 3) := by decide +kernel
theorem dX3_keeps_88 : decode cX3_keeps 88 = .ok (.aload_n 0, 1) := by decide +kernel
theorem dX3_keeps_89 : decode cX3_keeps 89 = .ok (.getfield 88, 3) := by decide +kernel
theorem dX3_keeps_92 : decode cX3_keeps 92 = .ok (.aload_n 0, 1) := by decide +kernel
theorem dX3_keeps_93 : decode cX3_keeps 93 = .ok (.getfield 22, 3) := by decide +kernel
theorem dX3_keeps_96 : decode cX3_keeps 96 = .ok (.iload 5, 2) := by decide +kernel
theorem dX3_keeps_98 : decode cX3_keeps 98 = .ok (.iaload, 1) := by decide +kernel
theorem dX3_keeps_99 : decode cX3_keeps 99 = .ok (.iastore, 1) := by decide +kernel
theorem dX3_keeps_100 : decode cX3_keeps 100 = .ok (.iconst 0, 1) := by decide +kernel
theorem dX3_keeps_101 : decode cX3_keeps 101 = .ok (.istore 6, 2) := by decide +kernel
theorem dX3_keeps_103 : decode cX3_keeps 103 = .ok (.iload 6, 2) := by decide +kernel
theorem dX3_keeps_105 : decode cX3_keeps 105 = .ok (.bipush 8, 2) := by decide +kernel
theorem dX3_keeps_107 : decode cX3_keeps 107 = .ok (.if_icmp .ge 64, 3) := by decide +kernel
theorem dX3_keeps_110 : decode cX3_keeps 110 = .ok (.aload_n 0, 1) := by decide +kernel
theorem dX3_keeps_111 : decode cX3_keeps 111 = .ok (.getfield 47, 3) := by decide +kernel
theorem dX3_keeps_114 : decode cX3_keeps 114 = .ok (.bipush 8, 2) := by decide +kernel
theorem dX3_keeps_116 : decode cX3_keeps 116 = .ok (.aload_n 0, 1) := by decide +kernel
theorem dX3_keeps_117 : decode cX3_keeps 117 = .ok (.getfield 88, 3) := by decide +kernel
theorem dX3_keeps_120 : decode cX3_keeps 120 = .ok (.imul, 1) := by decide +kernel
theorem dX3_keeps_121 : decode cX3_keeps 121 = .ok (.iload 6, 2) := by decide +kernel
theorem dX3_keeps_123 : decode cX3_keeps 123 = .ok (.iadd, 1) := by decide +kernel
theorem dX3_keeps_124 : decode cX3_keeps 124 = .ok (.aload_n 0, 1) := by decide +kernel
theorem dX3_keeps_125 : decode cX3_keeps 125 = .ok (.getfield 29, 3) := by decide +kernel
theorem dX3_keeps_128 : decode cX3_keeps 128 = .ok (.bipush 8, 2) := by decide +kernel
theorem dX3_keeps_130 : decode cX3_keeps 130 = .ok (.iload_n 3, 1) := by decide +kernel
theorem dX3_keeps_131 : decode cX3_keeps 131 = .ok (.imul, 1) := by decide +kernel
theorem dX3_keeps_132 : decode cX3_keeps 132 = .ok (.iload 6, 2) := by decide +kernel
theorem dX3_keeps_134 : decode cX3_keeps 134 = .ok (.iadd, 1) := by decide +kernel
theorem dX3_keeps_135 : decode cX3_keeps 135 = .ok (.iaload, 1) := by decide +kernel
theorem dX3_keeps_136 : decode cX3_keeps 136 = .ok (.iastore, 1) := by decide +kernel
theorem dX3_keeps_137 : decode cX3_keeps 137 = .ok (.aload_n 0, 1) := by decide +kernel
theorem dX3_keeps_138 : decode cX3_keeps 138 = .ok (.getfield 50, 3) := by decide +kernel
theorem dX3_keeps_141 : decode cX3_keeps 141 = .ok (.bipush 8, 2) := by decide +kernel
theorem dX3_keeps_143 : decode cX3_keeps 143 = .ok (.aload_n 0, 1) := by decide +kernel
theorem dX3_keeps_144 : decode cX3_keeps 144 = .ok (.getfield 88, 3) := by decide +kernel
theorem dX3_keeps_147 : decode cX3_keeps 147 = .ok (.imul, 1) := by decide +kernel
theorem dX3_keeps_148 : decode cX3_keeps 148 = .ok (.iload 6, 2) := by decide +kernel
theorem dX3_keeps_150 : decode cX3_keeps 150 = .ok (.iadd, 1) := by decide +kernel
theorem dX3_keeps_151 : decode cX3_keeps 151 = .ok (.aload_n 0, 1) := by decide +kernel
theorem dX3_keeps_152 : decode cX3_keeps 152 = .ok (.getfield 29, 3) := by decide +kernel
theorem dX3_keeps_155 : decode cX3_keeps 155 = .ok (.bipush 8, 2) := by decide +kernel
theorem dX3_keeps_157 : decode cX3_keeps 157 = .ok (.iload 5, 2) := by decide +kernel
theorem dX3_keeps_159 : decode cX3_keeps 159 = .ok (.imul, 1) := by decide +kernel
theorem dX3_keeps_160 : decode cX3_keeps 160 = .ok (.iload 6, 2) := by decide +kernel
theorem dX3_keeps_162 : decode cX3_keeps 162 = .ok (.iadd, 1) := by decide +kernel
theorem dX3_keeps_163 : decode cX3_keeps 163 = .ok (.iaload, 1) := by decide +kernel
theorem dX3_keeps_164 : decode cX3_keeps 164 = .ok (.iastore, 1) := by decide +kernel
theorem dX3_keeps_165 : decode cX3_keeps 165 = .ok (.iinc 6 1, 3) := by decide +kernel
theorem dX3_keeps_168 : decode cX3_keeps 168 = .ok (.goto (-65), 3) := by decide +kernel
theorem dX3_keeps_171 : decode cX3_keeps 171 = .ok (.aload_n 0, 1) := by decide +kernel
theorem dX3_keeps_172 : decode cX3_keeps 172 = .ok (.dup, 1) := by decide +kernel
theorem dX3_keeps_173 : decode cX3_keeps 173 = .ok (.getfield 88, 3) := by decide +kernel
theorem dX3_keeps_176 : decode cX3_keeps 176 = .ok (.iconst 1, 1) := by decide +kernel
theorem dX3_keeps_177 : decode cX3_keeps 177 = .ok (.iadd, 1) := by decide +kernel
theorem dX3_keeps_178 : decode cX3_keeps 178 = .ok (.putfield 88, 3) := by decide +kernel
theorem dX3_keeps_181 : decode cX3_keeps 181 = .ok (.iinc 4 1, 3) := by decide +kernel
theorem dX3_keeps_184 : decode cX3_keeps 184 = .ok (.goto (-174), 3) := by decide +kernel
theorem dX3_keeps_187 : decode cX3_keeps 187 = .ok (.return_, 1) := by decide +kernel
theorem dX3_forgets_0 : decode cX3_forgets 0 = .ok (.iconst 0, 1) := by decide +kernel
theorem dX3_forgets_1 : decode cX3_forgets 1 = .ok (.istore_n 1, 1) := by decide +kernel
theorem dX3_forgets_2 : decode cX3_forgets 2 = .ok (.iload_n 1, 1) := by decide +kernel
theorem dX3_forgets_3 : decode cX3_forgets 3 = .ok (.iconst 1, 1) := by decide +kernel
theorem dX3_forgets_4 : decode cX3_forgets 4 = .ok (.iadd, 1) := by decide +kernel
theorem dX3_forgets_5 : decode cX3_forgets 5 = .ok (.aload_n 0, 1) := by decide +kernel
theorem dX3_forgets_6 : decode cX3_forgets 6 = .ok (.getfield 88, 3) := by decide +kernel
theorem dX3_forgets_9 : decode cX3_forgets 9 = .ok (.if_icmp .ge 51, 3) := by decide +kernel
theorem dX3_forgets_12 : decode cX3_forgets 12 = .ok (.aload_n 0, 1) := by decide +kernel
theorem dX3_forgets_13 : decode cX3_forgets 13 = .ok (.getfield 38, 3) := by decide +kernel
theorem dX3_forgets_16 : decode cX3_forgets 16 = .ok (.iload_n 1, 1) := by decide +kernel
theorem dX3_forgets_17 : decode cX3_forgets 17 = .ok (.aload_n 0, 1) := by decide +kernel
theorem dX3_forgets_18 : decode cX3_forgets 18 = .ok (.getfield 38, 3) := by decide +kernel
theorem dX3_forgets_21 : decode cX3_forgets 21 = .ok (.iload_n 1, 1) := by decide +kernel
theorem dX3_forgets_22 : decode cX3_forgets 22 = .ok (.iconst 1, 1) := by decide +kernel
theorem dX3_forgets_23 : decode cX3_forgets 23 = .ok (.iadd, 1) := by decide +kernel
theorem dX3_forgets_24 : decode cX3_forgets 24 = .ok (.iaload, 1) := by decide +kernel
theorem dX3_forgets_25 : decode cX3_forgets 25 = .ok (.iastore, 1) := by decide +kernel
theorem dX3_forgets_26 : decode cX3_forgets 26 = .ok (.aload_n 0, 1) := by decide +kernel
theorem dX3_forgets_27 : decode cX3_forgets 27 = .ok (.getfield 41, 3) := by decide +kernel
theorem dX3_forgets_30 : decode cX3_forgets 30 = .ok (.iload_n 1, 1) := by decide +kernel
theorem dX3_forgets_31 : decode cX3_forgets 31 = .ok (.aload_n 0, 1) := by decide +kernel
theorem dX3_forgets_32 : decode cX3_forgets 32 = .ok (.getfield 41, 3) := by decide +kernel
theorem dX3_forgets_35 : decode cX3_forgets 35 = .ok (.iload_n 1, 1) := by decide +kernel
theorem dX3_forgets_36 : decode cX3_forgets 36 = .ok (.iconst 1, 1) := by decide +kernel
theorem dX3_forgets_37 : decode cX3_forgets 37 = .ok (.iadd, 1) := by decide +kernel
theorem dX3_forgets_38 : decode cX3_forgets 38 = .ok (.iaload, 1) := by decide +kernel
theorem dX3_forgets_39 : decode cX3_forgets 39 = .ok (.iastore, 1) := by decide +kernel
theorem dX3_forgets_40 : decode cX3_forgets 40 = .ok (.aload_n 0, 1) := by decide +kernel
theorem dX3_forgets_41 : decode cX3_forgets 41 = .ok (.getfield 44, 3) := by decide +kernel
theorem dX3_forgets_44 : decode cX3_forgets 44 = .ok (.iload_n 1, 1) := by decide +kernel
theorem dX3_forgets_45 : decode cX3_forgets 45 = .ok (.aload_n 0, 1) := by decide +kernel
theorem dX3_forgets_46 : decode cX3_forgets 46 = .ok (.getfield 44, 3) := by decide +kernel
theorem dX3_forgets_49 : decode cX3_forgets 49 = .ok (.iload_n 1, 1) := by decide +kernel
theorem dX3_forgets_50 : decode cX3_forgets 50 = .ok (.iconst 1, 1) := by decide +kernel
theorem dX3_forgets_51 : decode cX3_forgets 51 = .ok (.iadd, 1) := by decide +kernel
theorem dX3_forgets_52 : decode cX3_forgets 52 = .ok (.iaload, 1) := by decide +kernel
theorem dX3_forgets_53 : decode cX3_forgets 53 = .ok (.iastore, 1) := by decide +kernel
theorem dX3_forgets_54 : decode cX3_forgets 54 = .ok (.iinc 1 1, 3) := by decide +kernel
theorem dX3_forgets_57 : decode cX3_forgets 57 = .ok (.goto (-55), 3) := by decide +kernel
theorem dX3_forgets_60 : decode cX3_forgets 60 = .ok (.iconst 0, 1) := by decide +kernel
theorem dX3_forgets_61 : decode cX3_forgets 61 = .ok (.istore_n 1, 1) := by decide +kernel
theorem dX3_forgets_62 : decode cX3_forgets 62 = .ok (.iload_n 1, 1) := by decide +kernel
theorem dX3_forgets_63 : decode cX3_forgets 63 = .ok (.bipush 8, 2) := by decide +kernel
theorem dX3_forgets_65 : decode cX3_forgets 65 = .ok (.iadd, 1) := by decide +kernel
theorem dX3_forgets_66 : decode cX3_forgets 66 = .ok (.bipush 8, 2) := by decide +kernel
theorem dX3_forgets_68 : decode cX3_forgets 68 = .ok (.aload_n 0, 1) := by decide +kernel
theorem dX3_forgets_69 : decode cX3_forgets 69 = .ok (.getfield 88, 3) := by decide +kernel
theorem dX3_forgets_72 : decode cX3_forgets 72 = .ok (.imul, 1) := by decide +kernel
theorem dX3_forgets_73 : decode cX3_forgets 73 = .ok (.if_icmp .ge 39, 3) := by decide +kernel
theorem dX3_forgets_76 : decode cX3_forgets 76 = .ok (.aload_n 0, 1) := by decide +kernel
theorem dX3_forgets_77 : decode cX3_forgets 77 = .ok (.getfield 47, 3) := by decide +kernel
theorem dX3_forgets_80 : decode cX3_forgets 80 = .ok (.iload_n 1, 1) := by decide +kernel
theorem dX3_forgets_81 : decode cX3_forgets 81 = .ok (.aload_n 0, 1) := by decide +kernel
theorem dX3_forgets_82 : decode cX3_forgets 82 = .ok (.getfield 47, 3) := by decide +kernel
theorem dX3_forgets_85 : decode cX3_forgets 85 = .ok (.iload_n 1, 1) := by decide +kernel
theorem dX3_forgets_86 : decode cX3_forgets 86 = .ok (.bipush 8, 2) := by decide +kernel
theorem dX3_forgets_88 : decode cX3_forgets 88 = .ok (.iadd, 1) := by decide +kernel
theorem dX3_forgets_89 : decode cX3_forgets 89 = .ok (.iaload, 1) := by decide +kernel
theorem dX3_forgets_90 : decode cX3_forgets 90 = .ok (.iastore, 1) := by decide +kernel
theorem dX3_forgets_91 : decode cX3_forgets 91 = .ok (.aload_n 0, 1) := by decide +kernel
theorem dX3_forgets_92 : decode cX3_forgets 92 = .ok (.getfield 50, 3) := by decide +kernel
theorem dX3_forgets_95 : decode cX3_forgets 95 = .ok (.iload_n 1, 1) := by decide +kernel
theorem dX3_forgets_96 : decode cX3_forgets 96 = .ok (.aload_n 0, 1) := by decide +kernel
theorem dX3_forgets_97 : decode cX3_forgets 97 = .ok (.getfield 50, 3) := by decide +kernel
theorem dX3_forgets_100 : decode cX3_forgets 100 = .ok (.iload_n 1, 1) := by decide +kernel
theorem dX3_forgets_101 : decode cX3_forgets 101 = .ok (.bipush 8, 2) := by decide +kernel
theorem dX3_forgets_103 : decode cX3_forgets 103 = .ok (.iadd, 1) := by decide +kernel
theorem dX3_forgets_104 : decode cX3_forgets 104 = .ok (.iaload, 1) := by decide +kernel
theorem dX3_forgets_105 : decode cX3_forgets 105 = .ok (.iastore, 1) := by decide +kernel
theorem dX3_forgets_106 : decode cX3_forgets 106 = .ok (.iinc 1 1, 3) := by decide +kernel
theorem dX3_forgets_109 : decode cX3_forgets 109 = .ok (.goto (-47), 3) := by decide +kernel
theorem dX3_forgets_112 : decode cX3_forgets 112 = .ok (.aload_n 0, 1) := by decide +kernel
theorem dX3_forgets_113 : decode cX3_forgets 113 = .ok (.dup, 1) := by decide +kernel
theorem dX3_forgets_114 : decode cX3_forgets 114 = .ok (.getfield 88, 3) := by decide +kernel
theorem dX3_forgets_117 : decode cX3_forgets 117 = .ok (.iconst 1, 1) := by decide +kernel
theorem dX3_forgets_118 : decode cX3_forgets 118 = .ok (.isub, 1) := by decide +kernel
theorem dX3_forgets_119 : decode cX3_forgets 119 = .ok (.putfield 88, 3) := by decide +kernel
theorem dX3_forgets_122 : decode cX3_forgets 122 = .ok (.return_, 1) := by decide +kernel
set_option maxRecDepth 20000 in
theorem ggX3_changes_X3_keeps : GoodIn wsX3_changes wsX3_keeps := goodIn_r _ [7, 8, 9, 10, 11, 12, 13, 14, 15, 16, 17, 18, 6, 19, 20, 21, 22, 23, 24, 25, 26, 27, 28, 29, 30, 31, 32, 33, 34, 35, 36, 37, 38, 39, 40] (by decide +kernel) (by decide +kernel)
set_option maxRecDepth 20000 in
theorem gX3_changes_X3_keeps : GoodIn wsX3_changes (wsV RX3 94 RX3 yX3_keeps wsX3_keeps) := goodIn_app (goodIn_of _ (by decide +kernel)) ggX3_changes_X3_keeps
theorem dX3_changes_0 : decode cX3_changes 0 = .ok (.iload_n 2, 1) := by decide +kernel
theorem dX3_changes_1 : decode cX3_changes 1 = .ok (.ifCond .ne 19, 3) := by decide +kernel
theorem dX3_changes_4 : decode cX3_changes 4 = .ok (.aload_n 0, 1) := by decide +kernel
theorem dX3_changes_5 : decode cX3_changes 5 = .ok (.iload_n 1, 1) := by decide +kernel
theorem dX3_changes_6 : decode cX3_changes 6 = .ok (.iload_n 3, 1) := by decide +kernel
theorem dX3_changes_7 : decode cX3_changes 7 = .ok (.invokevirtual 94, 3) := by decide +kernel
theorem dX3_changes_10 : decode cX3_changes 10 = .ok (.aload_n 0, 1) := by decide +kernel
theorem dX3_changes_11 : decode cX3_changes 11 = .ok (.getfield 32, 3) := by decide +kernel
theorem dX3_changes_14 : decode cX3_changes 14 = .ok (.iload_n 1, 1) := by decide +kernel
theorem dX3_changes_15 : decode cX3_changes 15 = .ok (.dup2, 1) := by decide +kernel
theorem dX3_changes_16 : decode cX3_changes 16 = .ok (.iaload, 1) := by decide +kernel
theorem dX3_changes_17 : decode cX3_changes 17 = .ok (.iconst 1, 1) := by decide +kernel
theorem dX3_changes_18 : decode cX3_changes 18 = .ok (.iadd, 1) := by decide +kernel
theorem dX3_changes_19 : decode cX3_changes 19 = .ok (.iastore, 1) := by decide +kernel
theorem dX3_changes_20 : decode cX3_changes 20 = .ok (.aload_n 0, 1) := by decide +kernel
theorem dX3_changes_21 : decode cX3_changes 21 = .ok (.getfield 35, 3) := by decide +kernel
theorem dX3_changes_24 : decode cX3_changes 24 = .ok (.bipush 6, 2) := by decide +kernel
theorem dX3_changes_26 : decode cX3_changes 26 = .ok (.iload_n 1, 1) := by decide +kernel
theorem dX3_changes_27 : decode cX3_changes 27 = .ok (.imul, 1) := by decide +kernel
theorem dX3_changes_28 : decode cX3_changes 28 = .ok (.iload_n 2, 1) := by decide +kernel
theorem dX3_changes_29 : decode cX3_changes 29 = .ok (.iadd, 1) := by decide +kernel
theorem dX3_changes_30 : decode cX3_changes 30 = .ok (.aload_n 0, 1) := by decide +kernel
theorem dX3_changes_31 : decode cX3_changes 31 = .ok (.getfield 32, 3) := by decide +kernel
theorem dX3_changes_34 : decode cX3_changes 34 = .ok (.iload_n 1, 1) := by decide +kernel
theorem dX3_changes_35 : decode cX3_changes 35 = .ok (.iaload, 1) := by decide +kernel
theorem dX3_changes_36 : decode cX3_changes 36 = .ok (.iastore, 1) := by decide +kernel
theorem dX3_changes_37 : decode cX3_changes 37 = .ok (.return_, 1) := by decide +kernel
set_option maxRecDepth 20000 in
theorem ggX3_set_X3_isForm : GoodIn wsX3_set wsX3_isForm := goodIn_r _ [10, 11, 12, 9, 13, 14, 15, 16, 17, 18, 19, 20, 21, 22] (by decide +kernel) (by decide +kernel)
set_option maxRecDepth 20000 in
theorem gX3_set_X3_isForm : GoodIn wsX3_set (va_wsS RX3 98 yX3_isForm wsX3_isForm) := goodIn_app (goodIn_of _ (by decide +kernel)) ggX3_set_X3_isForm
set_option maxRecDepth 20000 in
theorem ggX3_set_X3_goes : GoodIn wsX3_set wsX3_goes := goodIn_r _ [26, 27, 50, 51, 52, 53, 54, 55, 56, 57, 58, 59, 60, 61, 62, 63, 64, 65, 66, 67, 68, 69, 70] (by decide +kernel) (by decide +kernel)
set_option maxRecDepth 20000 in
theorem gX3_set_X3_goes : GoodIn wsX3_set (wsV RX3 81 RX3 yX3_goes wsX3_goes) := goodIn_app (goodIn_of _ (by decide +kernel)) ggX3_set_X3_goes
set_option maxRecDepth 20000 in
theorem ggX3_set_X3_at : GoodIn wsX3_set wsX3_at := goodIn_r _ [30] (by decide +kernel) (by decide +kernel)
set_option maxRecDepth 20000 in
theorem gX3_set_X3_at : GoodIn wsX3_set (va_wsS RX3 102 yX3_at wsX3_at) := goodIn_app (goodIn_of _ (by decide +kernel)) ggX3_set_X3_at
set_option maxRecDepth 20000 in
theorem ggX3_set_X3_changes : GoodIn wsX3_set wsX3_changes := goodIn_r _ [34, 6, 35, 36, 37, 38, 9, 39, 4, 40, 41, 42, 43, 44, 2, 45, 46, 47, 48, 49, 50, 51, 52, 53, 54, 55, 56, 57, 58, 59, 60, 61, 62, 63, 64, 65, 66, 67, 68, 69, 70] (by decide +kernel) (by decide +kernel)
set_option maxRecDepth 20000 in
theorem gX3_set_X3_changes : GoodIn wsX3_set (wsV RX3 106 RX3 yX3_changes wsX3_changes) := goodIn_app (goodIn_of _ (by decide +kernel)) ggX3_set_X3_changes
theorem dX3_set_0 : decode cX3_set 0 = .ok (.aload_n 0, 1) := by decide +kernel
theorem dX3_set_1 : decode cX3_set 1 = .ok (.iload_n 1, 1) := by decide +kernel
theorem dX3_set_2 : decode cX3_set 2 = .ok (.iload_n 2, 1) := by decide +kernel
theorem dX3_set_3 : decode cX3_set 3 = .ok (.iload_n 3, 1) := by decide +kernel
theorem dX3_set_4 : decode cX3_set 4 = .ok (.iload 4, 2) := by decide +kernel
theorem dX3_set_6 : decode cX3_set 6 = .ok (.invokestatic 98, 3) := by decide +kernel
theorem dX3_set_9 : decode cX3_set 9 = .ok (.aload_n 0, 1) := by decide +kernel
theorem dX3_set_10 : decode cX3_set 10 = .ok (.getfield 85, 3) := by decide +kernel
theorem dX3_set_13 : decode cX3_set 13 = .ok (.ifCond .le 7, 3) := by decide +kernel
theorem dX3_set_16 : decode cX3_set 16 = .ok (.iconst 1, 1) := by decide +kernel
theorem dX3_set_17 : decode cX3_set 17 = .ok (.goto 4, 3) := by decide +kernel
theorem dX3_set_20 : decode cX3_set 20 = .ok (.iconst 0, 1) := by decide +kernel
theorem dX3_set_21 : decode cX3_set 21 = .ok (.iconst 1, 1) := by decide +kernel
theorem dX3_set_22 : decode cX3_set 22 = .ok (.invokevirtual 81, 3) := by decide +kernel
theorem dX3_set_25 : decode cX3_set 25 = .ok (.ifCond .ne 5, 3) := by decide +kernel
theorem dX3_set_28 : decode cX3_set 28 = .ok (.iconst 0, 1) := by decide +kernel
theorem dX3_set_29 : decode cX3_set 29 = .ok (.ireturn, 1) := by decide +kernel
theorem dX3_set_30 : decode cX3_set 30 = .ok (.iload_n 1, 1) := by decide +kernel
theorem dX3_set_31 : decode cX3_set 31 = .ok (.iload_n 2, 1) := by decide +kernel
theorem dX3_set_32 : decode cX3_set 32 = .ok (.iload_n 3, 1) := by decide +kernel
theorem dX3_set_33 : decode cX3_set 33 = .ok (.iload 4, 2) := by decide +kernel
theorem dX3_set_35 : decode cX3_set 35 = .ok (.invokestatic 102, 3) := by decide +kernel
theorem dX3_set_38 : decode cX3_set 38 = .ok (.istore 6, 2) := by decide +kernel
theorem dX3_set_40 : decode cX3_set 40 = .ok (.aload_n 0, 1) := by decide +kernel
theorem dX3_set_41 : decode cX3_set 41 = .ok (.iload_n 1, 1) := by decide +kernel
theorem dX3_set_42 : decode cX3_set 42 = .ok (.iload_n 2, 1) := by decide +kernel
theorem dX3_set_43 : decode cX3_set 43 = .ok (.iconst 3, 1) := by decide +kernel
theorem dX3_set_44 : decode cX3_set 44 = .ok (.iload_n 3, 1) := by decide +kernel
theorem dX3_set_45 : decode cX3_set 45 = .ok (.imul, 1) := by decide +kernel
theorem dX3_set_46 : decode cX3_set 46 = .ok (.iload 4, 2) := by decide +kernel
theorem dX3_set_48 : decode cX3_set 48 = .ok (.iadd, 1) := by decide +kernel
theorem dX3_set_49 : decode cX3_set 49 = .ok (.invokevirtual 106, 3) := by decide +kernel
theorem dX3_set_52 : decode cX3_set 52 = .ok (.iconst 0, 1) := by decide +kernel
theorem dX3_set_53 : decode cX3_set 53 = .ok (.istore 7, 2) := by decide +kernel
theorem dX3_set_55 : decode cX3_set 55 = .ok (.iload 7, 2) := by decide +kernel
theorem dX3_set_57 : decode cX3_set 57 = .ok (.bipush 8, 2) := by decide +kernel
theorem dX3_set_59 : decode cX3_set 59 = .ok (.if_icmp .ge 42, 3) := by decide +kernel
theorem dX3_set_62 : decode cX3_set 62 = .ok (.aload_n 0, 1) := by decide +kernel
theorem dX3_set_63 : decode cX3_set 63 = .ok (.getfield 29, 3) := by decide +kernel
theorem dX3_set_66 : decode cX3_set 66 = .ok (.bipush 8, 2) := by decide +kernel
theorem dX3_set_68 : decode cX3_set 68 = .ok (.iload 6, 2) := by decide +kernel
theorem dX3_set_70 : decode cX3_set 70 = .ok (.imul, 1) := by decide +kernel
theorem dX3_set_71 : decode cX3_set 71 = .ok (.iload 7, 2) := by decide +kernel
theorem dX3_set_73 : decode cX3_set 73 = .ok (.iadd, 1) := by decide +kernel
theorem dX3_set_74 : decode cX3_set 74 = .ok (.iload 7, 2) := by decide +kernel
theorem dX3_set_76 : decode cX3_set 76 = .ok (.aload_n 0, 1) := by decide +kernel
theorem dX3_set_77 : decode cX3_set 77 = .ok (.getfield 85, 3) := by decide +kernel
theorem dX3_set_80 : decode cX3_set 80 = .ok (.if_icmp .ge 13, 3) := by decide +kernel
theorem dX3_set_83 : decode cX3_set 83 = .ok (.aload_n 0, 1) := by decide +kernel
theorem dX3_set_84 : decode cX3_set 84 = .ok (.getfield 19, 3) := by decide +kernel
theorem dX3_set_87 : decode cX3_set 87 = .ok (.iload 7, 2) := by decide +kernel
theorem dX3_set_89 : decode cX3_set 89 = .ok (.iaload, 1) := by decide +kernel
theorem dX3_set_90 : decode cX3_set 90 = .ok (.goto 4, 3) := by decide +kernel
theorem dX3_set_93 : decode cX3_set 93 = .ok (.iconst 0, 1) := by decide +kernel
theorem dX3_set_94 : decode cX3_set 94 = .ok (.iastore, 1) := by decide +kernel
theorem dX3_set_95 : decode cX3_set 95 = .ok (.iinc 7 1, 3) := by decide +kernel
theorem dX3_set_98 : decode cX3_set 98 = .ok (.goto (-43), 3) := by decide +kernel
theorem dX3_set_101 : decode cX3_set 101 = .ok (.aload_n 0, 1) := by decide +kernel
theorem dX3_set_102 : decode cX3_set 102 = .ok (.getfield 22, 3) := by decide +kernel
theorem dX3_set_105 : decode cX3_set 105 = .ok (.iload 6, 2) := by decide +kernel
theorem dX3_set_107 : decode cX3_set 107 = .ok (.aload_n 0, 1) := by decide +kernel
theorem dX3_set_108 : decode cX3_set 108 = .ok (.getfield 85, 3) := by decide +kernel
theorem dX3_set_111 : decode cX3_set 111 = .ok (.iastore, 1) := by decide +kernel
theorem dX3_set_112 : decode cX3_set 112 = .ok (.aload_n 0, 1) := by decide +kernel
theorem dX3_set_113 : decode cX3_set 113 = .ok (.getfield 25, 3) := by decide +kernel
theorem dX3_set_116 : decode cX3_set 116 = .ok (.iload 6, 2) := by decide +kernel
theorem dX3_set_118 : decode cX3_set 118 = .ok (.iload 5, 2) := by decide +kernel
theorem dX3_set_120 : decode cX3_set 120 = .ok (.bastore, 1) := by decide +kernel
theorem dX3_set_121 : decode cX3_set 121 = .ok (.aload_n 0, 1) := by decide +kernel
theorem dX3_set_122 : decode cX3_set 122 = .ok (.iconst 0, 1) := by decide +kernel
theorem dX3_set_123 : decode cX3_set 123 = .ok (.putfield 85, 3) := by decide +kernel
theorem dX3_set_126 : decode cX3_set 126 = .ok (.aload_n 0, 1) := by decide +kernel
theorem dX3_set_127 : decode cX3_set 127 = .ok (.getfield 32, 3) := by decide +kernel
theorem dX3_set_130 : decode cX3_set 130 = .ok (.iload_n 1, 1) := by decide +kernel
theorem dX3_set_131 : decode cX3_set 131 = .ok (.iaload, 1) := by decide +kernel
theorem dX3_set_132 : decode cX3_set 132 = .ok (.ireturn, 1) := by decide +kernel
set_option maxRecDepth 20000 in
theorem ggX3_remove_X3_isForm : GoodIn wsX3_remove wsX3_isForm := goodIn_r _ [5, 6, 7, 4, 8, 9, 10, 11, 12, 13, 14, 15, 16, 17] (by decide +kernel) (by decide +kernel)
set_option maxRecDepth 20000 in
theorem gX3_remove_X3_isForm : GoodIn wsX3_remove (va_wsS RX3 98 yX3_isForm wsX3_isForm) := goodIn_app (goodIn_of _ (by decide +kernel)) ggX3_remove_X3_isForm
set_option maxRecDepth 20000 in
theorem ggX3_remove_X3_at : GoodIn wsX3_remove wsX3_at := goodIn_r _ [20] (by decide +kernel) (by decide +kernel)
set_option maxRecDepth 20000 in
theorem gX3_remove_X3_at : GoodIn wsX3_remove (va_wsS RX3 102 yX3_at wsX3_at) := goodIn_app (goodIn_of _ (by decide +kernel)) ggX3_remove_X3_at
set_option maxRecDepth 20000 in
theorem ggX3_remove_X3_goes : GoodIn wsX3_remove wsX3_goes := goodIn_r _ [24, 25, 47, 48, 49, 50, 51, 52, 53, 54, 55, 56, 57, 58, 59, 60, 61, 62, 63, 64, 65, 66, 67] (by decide +kernel) (by decide +kernel)
set_option maxRecDepth 20000 in
theorem gX3_remove_X3_goes : GoodIn wsX3_remove (wsV RX3 81 RX3 yX3_goes wsX3_goes) := goodIn_app (goodIn_of _ (by decide +kernel)) ggX3_remove_X3_goes
set_option maxRecDepth 20000 in
theorem ggX3_remove_X3_changes : GoodIn wsX3_remove wsX3_changes := goodIn_r _ [29, 30, 31, 32, 33, 34, 4, 35, 1, 36, 37, 38, 39, 40, 41, 42, 43, 44, 45, 46, 47, 48, 49, 50, 51, 52, 53, 54, 55, 56, 57, 58, 59, 60, 61, 62, 63, 64, 65, 66, 67] (by decide +kernel) (by decide +kernel)
set_option maxRecDepth 20000 in
theorem gX3_remove_X3_changes : GoodIn wsX3_remove (wsV RX3 106 RX3 yX3_changes wsX3_changes) := goodIn_app (goodIn_of _ (by decide +kernel)) ggX3_remove_X3_changes
theorem dX3_remove_0 : decode cX3_remove 0 = .ok (.iload_n 1, 1) := by decide +kernel
theorem dX3_remove_1 : decode cX3_remove 1 = .ok (.iload_n 2, 1) := by decide +kernel
theorem dX3_remove_2 : decode cX3_remove 2 = .ok (.iload_n 3, 1) := by decide +kernel
theorem dX3_remove_3 : decode cX3_remove 3 = .ok (.iload 4, 2) := by decide +kernel
theorem dX3_remove_5 : decode cX3_remove 5 = .ok (.invokestatic 98, 3) := by decide +kernel
theorem dX3_remove_8 : decode cX3_remove 8 = .ok (.istore 5, 2) := by decide +kernel
theorem dX3_remove_10 : decode cX3_remove 10 = .ok (.aload_n 0, 1) := by decide +kernel
theorem dX3_remove_11 : decode cX3_remove 11 = .ok (.iload 5, 2) := by decide +kernel
theorem dX3_remove_13 : decode cX3_remove 13 = .ok (.iload 5, 2) := by decide +kernel
theorem dX3_remove_15 : decode cX3_remove 15 = .ok (.ifCond .eq 23, 3) := by decide +kernel
theorem dX3_remove_18 : decode cX3_remove 18 = .ok (.aload_n 0, 1) := by decide +kernel
theorem dX3_remove_19 : decode cX3_remove 19 = .ok (.getfield 22, 3) := by decide +kernel
theorem dX3_remove_22 : decode cX3_remove 22 = .ok (.iload_n 1, 1) := by decide +kernel
theorem dX3_remove_23 : decode cX3_remove 23 = .ok (.iload_n 2, 1) := by decide +kernel
theorem dX3_remove_24 : decode cX3_remove 24 = .ok (.iload_n 3, 1) := by decide +kernel
theorem dX3_remove_25 : decode cX3_remove 25 = .ok (.iload 4, 2) := by decide +kernel
theorem dX3_remove_27 : decode cX3_remove 27 = .ok (.invokestatic 102, 3) := by decide +kernel
theorem dX3_remove_30 : decode cX3_remove 30 = .ok (.iaload, 1) := by decide +kernel
theorem dX3_remove_31 : decode cX3_remove 31 = .ok (.ifCond .le 7, 3) := by decide +kernel
theorem dX3_remove_34 : decode cX3_remove 34 = .ok (.iconst 1, 1) := by decide +kernel
theorem dX3_remove_35 : decode cX3_remove 35 = .ok (.goto 4, 3) := by decide +kernel
theorem dX3_remove_38 : decode cX3_remove 38 = .ok (.iconst 0, 1) := by decide +kernel
theorem dX3_remove_39 : decode cX3_remove 39 = .ok (.iconst 1, 1) := by decide +kernel
theorem dX3_remove_40 : decode cX3_remove 40 = .ok (.invokevirtual 81, 3) := by decide +kernel
theorem dX3_remove_43 : decode cX3_remove 43 = .ok (.ifCond .ne 5, 3) := by decide +kernel
theorem dX3_remove_46 : decode cX3_remove 46 = .ok (.iconst 0, 1) := by decide +kernel
theorem dX3_remove_47 : decode cX3_remove 47 = .ok (.ireturn, 1) := by decide +kernel
theorem dX3_remove_48 : decode cX3_remove 48 = .ok (.iload_n 1, 1) := by decide +kernel
theorem dX3_remove_49 : decode cX3_remove 49 = .ok (.iload_n 2, 1) := by decide +kernel
theorem dX3_remove_50 : decode cX3_remove 50 = .ok (.iload_n 3, 1) := by decide +kernel
theorem dX3_remove_51 : decode cX3_remove 51 = .ok (.iload 4, 2) := by decide +kernel
theorem dX3_remove_53 : decode cX3_remove 53 = .ok (.invokestatic 102, 3) := by decide +kernel
theorem dX3_remove_56 : decode cX3_remove 56 = .ok (.istore 6, 2) := by decide +kernel
theorem dX3_remove_58 : decode cX3_remove 58 = .ok (.aload_n 0, 1) := by decide +kernel
theorem dX3_remove_59 : decode cX3_remove 59 = .ok (.getfield 22, 3) := by decide +kernel
theorem dX3_remove_62 : decode cX3_remove 62 = .ok (.iload 6, 2) := by decide +kernel
theorem dX3_remove_64 : decode cX3_remove 64 = .ok (.iaload, 1) := by decide +kernel
theorem dX3_remove_65 : decode cX3_remove 65 = .ok (.istore 7, 2) := by decide +kernel
theorem dX3_remove_67 : decode cX3_remove 67 = .ok (.aload_n 0, 1) := by decide +kernel
theorem dX3_remove_68 : decode cX3_remove 68 = .ok (.iload_n 1, 1) := by decide +kernel
theorem dX3_remove_69 : decode cX3_remove 69 = .ok (.iload_n 2, 1) := by decide +kernel
theorem dX3_remove_70 : decode cX3_remove 70 = .ok (.iconst 3, 1) := by decide +kernel
theorem dX3_remove_71 : decode cX3_remove 71 = .ok (.iload_n 3, 1) := by decide +kernel
theorem dX3_remove_72 : decode cX3_remove 72 = .ok (.imul, 1) := by decide +kernel
theorem dX3_remove_73 : decode cX3_remove 73 = .ok (.iload 4, 2) := by decide +kernel
theorem dX3_remove_75 : decode cX3_remove 75 = .ok (.iadd, 1) := by decide +kernel
theorem dX3_remove_76 : decode cX3_remove 76 = .ok (.invokevirtual 106, 3) := by decide +kernel
theorem dX3_remove_79 : decode cX3_remove 79 = .ok (.aload_n 0, 1) := by decide +kernel
theorem dX3_remove_80 : decode cX3_remove 80 = .ok (.getfield 22, 3) := by decide +kernel
theorem dX3_remove_83 : decode cX3_remove 83 = .ok (.iload 6, 2) := by decide +kernel
theorem dX3_remove_85 : decode cX3_remove 85 = .ok (.iconst 0, 1) := by decide +kernel
theorem dX3_remove_86 : decode cX3_remove 86 = .ok (.iastore, 1) := by decide +kernel
theorem dX3_remove_87 : decode cX3_remove 87 = .ok (.iload 7, 2) := by decide +kernel
theorem dX3_remove_89 : decode cX3_remove 89 = .ok (.ireturn, 1) := by decide +kernel
theorem dX3_draft_0 : decode cX3_draft 0 = .ok (.aload_n 0, 1) := by decide +kernel
theorem dX3_draft_1 : decode cX3_draft 1 = .ok (.iconst 0, 1) := by decide +kernel
theorem dX3_draft_2 : decode cX3_draft 2 = .ok (.putfield 59, 3) := by decide +kernel
theorem dX3_draft_5 : decode cX3_draft 5 = .ok (.aload_n 0, 1) := by decide +kernel
theorem dX3_draft_6 : decode cX3_draft 6 = .ok (.getfield 85, 3) := by decide +kernel
theorem dX3_draft_9 : decode cX3_draft 9 = .ok (.ireturn, 1) := by decide +kernel
theorem dX3_kind_0 : decode cX3_kind 0 = .ok (.iload_n 2, 1) := by decide +kernel
theorem dX3_kind_1 : decode cX3_kind 1 = .ok (.ifCond .ne 7, 3) := by decide +kernel
theorem dX3_kind_4 : decode cX3_kind 4 = .ok (.iconst 2, 1) := by decide +kernel
theorem dX3_kind_5 : decode cX3_kind 5 = .ok (.goto 32, 3) := by decide +kernel
theorem dX3_kind_8 : decode cX3_kind 8 = .ok (.iload_n 2, 1) := by decide +kernel
theorem dX3_kind_9 : decode cX3_kind 9 = .ok (.aload_n 0, 1) := by decide +kernel
theorem dX3_kind_10 : decode cX3_kind 10 = .ok (.getfield 13, 3) := by decide +kernel
theorem dX3_kind_13 : decode cX3_kind 13 = .ok (.iload_n 1, 1) := by decide +kernel
theorem dX3_kind_14 : decode cX3_kind 14 = .ok (.iaload, 1) := by decide +kernel
theorem dX3_kind_15 : decode cX3_kind 15 = .ok (.if_icmp .gt 7, 3) := by decide +kernel
theorem dX3_kind_18 : decode cX3_kind 18 = .ok (.iconst 0, 1) := by decide +kernel
theorem dX3_kind_19 : decode cX3_kind 19 = .ok (.goto 18, 3) := by decide +kernel
theorem dX3_kind_22 : decode cX3_kind 22 = .ok (.iload_n 2, 1) := by decide +kernel
theorem dX3_kind_23 : decode cX3_kind 23 = .ok (.aload_n 0, 1) := by decide +kernel
theorem dX3_kind_24 : decode cX3_kind 24 = .ok (.getfield 16, 3) := by decide +kernel
theorem dX3_kind_27 : decode cX3_kind 27 = .ok (.iload_n 1, 1) := by decide +kernel
theorem dX3_kind_28 : decode cX3_kind 28 = .ok (.iaload, 1) := by decide +kernel
theorem dX3_kind_29 : decode cX3_kind 29 = .ok (.if_icmp .gt 7, 3) := by decide +kernel
theorem dX3_kind_32 : decode cX3_kind 32 = .ok (.iconst 1, 1) := by decide +kernel
theorem dX3_kind_33 : decode cX3_kind 33 = .ok (.goto 4, 3) := by decide +kernel
theorem dX3_kind_36 : decode cX3_kind 36 = .ok (.iconst 2, 1) := by decide +kernel
theorem dX3_kind_37 : decode cX3_kind 37 = .ok (.ireturn, 1) := by decide +kernel
set_option maxRecDepth 20000 in
theorem ggX3_kindOf_X3_isLanguage : GoodIn wsX3_kindOf wsX3_isLanguage := goodIn_r _ [4, 5, 6, 3, 7] (by decide +kernel) (by decide +kernel)
set_option maxRecDepth 20000 in
theorem gX3_kindOf_X3_isLanguage : GoodIn wsX3_kindOf (va_wsS RX3 71 yX3_isLanguage wsX3_isLanguage) := goodIn_app (goodIn_of _ (by decide +kernel)) ggX3_kindOf_X3_isLanguage
set_option maxRecDepth 20000 in
theorem ggX3_kindOf_X3_goes : GoodIn wsX3_kindOf wsX3_goes := goodIn_r _ [11, 12, 19, 20, 21, 22, 23, 24, 25, 26, 27, 28, 29, 30, 31, 32, 33, 34, 35, 36, 37, 38, 39] (by decide +kernel) (by decide +kernel)
set_option maxRecDepth 20000 in
theorem gX3_kindOf_X3_goes : GoodIn wsX3_kindOf (wsV RX3 81 RX3 yX3_goes wsX3_goes) := goodIn_app (goodIn_of _ (by decide +kernel)) ggX3_kindOf_X3_goes
set_option maxRecDepth 20000 in
theorem ggX3_kindOf_X3_kind : GoodIn wsX3_kindOf wsX3_kind := goodIn_r _ [16, 17, 18, 19, 20, 21, 22, 23, 24, 25, 26, 27, 28, 29, 30, 31, 32, 33, 34, 35, 36, 37, 38, 39] (by decide +kernel) (by decide +kernel)
set_option maxRecDepth 20000 in
theorem gX3_kindOf_X3_kind : GoodIn wsX3_kindOf (wsV RX3 110 RX3 yX3_kind wsX3_kind) := goodIn_app (goodIn_of _ (by decide +kernel)) ggX3_kindOf_X3_kind
theorem dX3_kindOf_0 : decode cX3_kindOf 0 = .ok (.aload_n 0, 1) := by decide +kernel
theorem dX3_kindOf_1 : decode cX3_kindOf 1 = .ok (.iload_n 1, 1) := by decide +kernel
theorem dX3_kindOf_2 : decode cX3_kindOf 2 = .ok (.invokestatic 71, 3) := by decide +kernel
theorem dX3_kindOf_5 : decode cX3_kindOf 5 = .ok (.iload_n 2, 1) := by decide +kernel
theorem dX3_kindOf_6 : decode cX3_kindOf 6 = .ok (.ifCond .lt 7, 3) := by decide +kernel
theorem dX3_kindOf_9 : decode cX3_kindOf 9 = .ok (.iconst 1, 1) := by decide +kernel
theorem dX3_kindOf_10 : decode cX3_kindOf 10 = .ok (.goto 4, 3) := by decide +kernel
theorem dX3_kindOf_13 : decode cX3_kindOf 13 = .ok (.iconst 0, 1) := by decide +kernel
theorem dX3_kindOf_14 : decode cX3_kindOf 14 = .ok (.iconst 1, 1) := by decide +kernel
theorem dX3_kindOf_15 : decode cX3_kindOf 15 = .ok (.invokevirtual 81, 3) := by decide +kernel
theorem dX3_kindOf_18 : decode cX3_kindOf 18 = .ok (.ifCond .eq 12, 3) := by decide +kernel
theorem dX3_kindOf_21 : decode cX3_kindOf 21 = .ok (.aload_n 0, 1) := by decide +kernel
theorem dX3_kindOf_22 : decode cX3_kindOf 22 = .ok (.iload_n 1, 1) := by decide +kernel
theorem dX3_kindOf_23 : decode cX3_kindOf 23 = .ok (.iload_n 2, 1) := by decide +kernel
theorem dX3_kindOf_24 : decode cX3_kindOf 24 = .ok (.invokevirtual 110, 3) := by decide +kernel
theorem dX3_kindOf_27 : decode cX3_kindOf 27 = .ok (.goto 4, 3) := by decide +kernel
theorem dX3_kindOf_30 : decode cX3_kindOf 30 = .ok (.iconst 0, 1) := by decide +kernel
theorem dX3_kindOf_31 : decode cX3_kindOf 31 = .ok (.ireturn, 1) := by decide +kernel
theorem dX3_count_0 : decode cX3_count 0 = .ok (.iconst 0, 1) := by decide +kernel
theorem dX3_count_1 : decode cX3_count 1 = .ok (.istore_n 3, 1) := by decide +kernel
theorem dX3_count_2 : decode cX3_count 2 = .ok (.iconst 0, 1) := by decide +kernel
theorem dX3_count_3 : decode cX3_count 3 = .ok (.istore 4, 2) := by decide +kernel
theorem dX3_count_5 : decode cX3_count 5 = .ok (.iload 4, 2) := by decide +kernel
theorem dX3_count_7 : decode cX3_count 7 = .ok (.bipush 9, 2) := by decide +kernel
theorem dX3_count_9 : decode cX3_count 9 = .ok (.if_icmp .ge 37, 3) := by decide +kernel
theorem dX3_count_12 : decode cX3_count 12 = .ok (.iload_n 3, 1) := by decide +kernel
theorem dX3_count_13 : decode cX3_count 13 = .ok (.aload_n 0, 1) := by decide +kernel
theorem dX3_count_14 : decode cX3_count 14 = .ok (.getfield 22, 3) := by decide +kernel
theorem dX3_count_17 : decode cX3_count 17 = .ok (.bipush 9, 2) := by decide +kernel
theorem dX3_count_19 : decode cX3_count 19 = .ok (.bipush 6, 2) := by decide +kernel
theorem dX3_count_21 : decode cX3_count 21 = .ok (.iload_n 1, 1) := by decide +kernel
theorem dX3_count_22 : decode cX3_count 22 = .ok (.imul, 1) := by decide +kernel
theorem dX3_count_23 : decode cX3_count 23 = .ok (.iload_n 2, 1) := by decide +kernel
theorem dX3_count_24 : decode cX3_count 24 = .ok (.iadd, 1) := by decide +kernel
theorem dX3_count_25 : decode cX3_count 25 = .ok (.imul, 1) := by decide +kernel
theorem dX3_count_26 : decode cX3_count 26 = .ok (.iload 4, 2) := by decide +kernel
theorem dX3_count_28 : decode cX3_count 28 = .ok (.iadd, 1) := by decide +kernel
theorem dX3_count_29 : decode cX3_count 29 = .ok (.iaload, 1) := by decide +kernel
theorem dX3_count_30 : decode cX3_count 30 = .ok (.ifCond .le 7, 3) := by decide +kernel
theorem dX3_count_33 : decode cX3_count 33 = .ok (.iconst 1, 1) := by decide +kernel
theorem dX3_count_34 : decode cX3_count 34 = .ok (.goto 4, 3) := by decide +kernel
theorem dX3_count_37 : decode cX3_count 37 = .ok (.iconst 0, 1) := by decide +kernel
theorem dX3_count_38 : decode cX3_count 38 = .ok (.iadd, 1) := by decide +kernel
theorem dX3_count_39 : decode cX3_count 39 = .ok (.istore_n 3, 1) := by decide +kernel
theorem dX3_count_40 : decode cX3_count 40 = .ok (.iinc 4 1, 3) := by decide +kernel
theorem dX3_count_43 : decode cX3_count 43 = .ok (.goto (-38), 3) := by decide +kernel
theorem dX3_count_46 : decode cX3_count 46 = .ok (.iload_n 3, 1) := by decide +kernel
theorem dX3_count_47 : decode cX3_count 47 = .ok (.ireturn, 1) := by decide +kernel
set_option maxRecDepth 20000 in
theorem ggX3_forms_X3_isKey : GoodIn wsX3_forms wsX3_isKey := goodIn_r _ [4, 5, 6, 3, 7] (by decide +kernel) (by decide +kernel)
set_option maxRecDepth 20000 in
theorem gX3_forms_X3_isKey : GoodIn wsX3_forms (va_wsS RX3 67 yX3_isKey wsX3_isKey) := goodIn_app (goodIn_of _ (by decide +kernel)) ggX3_forms_X3_isKey
set_option maxRecDepth 20000 in
theorem ggX3_forms_X3_isLanguage : GoodIn wsX3_forms wsX3_isLanguage := goodIn_r _ [10, 5, 6, 3, 7] (by decide +kernel) (by decide +kernel)
set_option maxRecDepth 20000 in
theorem gX3_forms_X3_isLanguage : GoodIn wsX3_forms (va_wsS RX3 71 yX3_isLanguage wsX3_isLanguage) := goodIn_app (goodIn_of _ (by decide +kernel)) ggX3_forms_X3_isLanguage
set_option maxRecDepth 20000 in
theorem ggX3_forms_X3_goes : GoodIn wsX3_forms wsX3_goes := goodIn_r _ [14, 15, 21, 22, 23, 24, 25, 26, 27, 28, 29, 30, 31, 32, 33, 34, 35, 36, 37, 38, 39, 40, 41] (by decide +kernel) (by decide +kernel)
set_option maxRecDepth 20000 in
theorem gX3_forms_X3_goes : GoodIn wsX3_forms (wsV RX3 81 RX3 yX3_goes wsX3_goes) := goodIn_app (goodIn_of _ (by decide +kernel)) ggX3_forms_X3_goes
set_option maxRecDepth 20000 in
theorem ggX3_forms_X3_count : GoodIn wsX3_forms wsX3_count := goodIn_r _ [19, 20, 21, 22, 23, 24, 25, 26, 27, 28, 29, 30, 31, 32, 33, 34, 35, 36, 37, 38, 39, 40, 41] (by decide +kernel) (by decide +kernel)
set_option maxRecDepth 20000 in
theorem gX3_forms_X3_count : GoodIn wsX3_forms (wsV RX3 114 RX3 yX3_count wsX3_count) := goodIn_app (goodIn_of _ (by decide +kernel)) ggX3_forms_X3_count
theorem dX3_forms_0 : decode cX3_forms 0 = .ok (.aload_n 0, 1) := by decide +kernel
theorem dX3_forms_1 : decode cX3_forms 1 = .ok (.iload_n 1, 1) := by decide +kernel
theorem dX3_forms_2 : decode cX3_forms 2 = .ok (.invokestatic 67, 3) := by decide +kernel
theorem dX3_forms_5 : decode cX3_forms 5 = .ok (.ifCond .eq 14, 3) := by decide +kernel
theorem dX3_forms_8 : decode cX3_forms 8 = .ok (.iload_n 2, 1) := by decide +kernel
theorem dX3_forms_9 : decode cX3_forms 9 = .ok (.invokestatic 71, 3) := by decide +kernel
theorem dX3_forms_12 : decode cX3_forms 12 = .ok (.ifCond .eq 7, 3) := by decide +kernel
theorem dX3_forms_15 : decode cX3_forms 15 = .ok (.iconst 1, 1) := by decide +kernel
theorem dX3_forms_16 : decode cX3_forms 16 = .ok (.goto 4, 3) := by decide +kernel
theorem dX3_forms_19 : decode cX3_forms 19 = .ok (.iconst 0, 1) := by decide +kernel
theorem dX3_forms_20 : decode cX3_forms 20 = .ok (.iconst 1, 1) := by decide +kernel
theorem dX3_forms_21 : decode cX3_forms 21 = .ok (.iconst 1, 1) := by decide +kernel
theorem dX3_forms_22 : decode cX3_forms 22 = .ok (.invokevirtual 81, 3) := by decide +kernel
theorem dX3_forms_25 : decode cX3_forms 25 = .ok (.ifCond .eq 12, 3) := by decide +kernel
theorem dX3_forms_28 : decode cX3_forms 28 = .ok (.aload_n 0, 1) := by decide +kernel
theorem dX3_forms_29 : decode cX3_forms 29 = .ok (.iload_n 1, 1) := by decide +kernel
theorem dX3_forms_30 : decode cX3_forms 30 = .ok (.iload_n 2, 1) := by decide +kernel
theorem dX3_forms_31 : decode cX3_forms 31 = .ok (.invokevirtual 114, 3) := by decide +kernel
theorem dX3_forms_34 : decode cX3_forms 34 = .ok (.goto 4, 3) := by decide +kernel
theorem dX3_forms_37 : decode cX3_forms 37 = .ok (.iconst 0, 1) := by decide +kernel
theorem dX3_forms_38 : decode cX3_forms 38 = .ok (.ireturn, 1) := by decide +kernel
set_option maxRecDepth 20000 in
theorem ggX3_version_X3_isKey : GoodIn wsX3_version wsX3_isKey := goodIn_r _ [5, 6, 7, 4, 8] (by decide +kernel) (by decide +kernel)
set_option maxRecDepth 20000 in
theorem gX3_version_X3_isKey : GoodIn wsX3_version (va_wsS RX3 67 yX3_isKey wsX3_isKey) := goodIn_app (goodIn_of _ (by decide +kernel)) ggX3_version_X3_isKey
set_option maxRecDepth 20000 in
theorem ggX3_version_X3_goes : GoodIn wsX3_version wsX3_goes := goodIn_r _ [12, 13, 14, 15, 16, 17, 18, 19, 20, 21, 22, 23, 24, 25, 26, 27, 28, 29, 30, 31, 32, 33, 34] (by decide +kernel) (by decide +kernel)
set_option maxRecDepth 20000 in
theorem gX3_version_X3_goes : GoodIn wsX3_version (wsV RX3 81 RX3 yX3_goes wsX3_goes) := goodIn_app (goodIn_of _ (by decide +kernel)) ggX3_version_X3_goes
theorem dX3_version_0 : decode cX3_version 0 = .ok (.aload_n 0, 1) := by decide +kernel
theorem dX3_version_1 : decode cX3_version 1 = .ok (.iload_n 1, 1) := by decide +kernel
theorem dX3_version_2 : decode cX3_version 2 = .ok (.invokestatic 67, 3) := by decide +kernel
theorem dX3_version_5 : decode cX3_version 5 = .ok (.iconst 1, 1) := by decide +kernel
theorem dX3_version_6 : decode cX3_version 6 = .ok (.iconst 1, 1) := by decide +kernel
theorem dX3_version_7 : decode cX3_version 7 = .ok (.invokevirtual 81, 3) := by decide +kernel
theorem dX3_version_10 : decode cX3_version 10 = .ok (.ifCond .eq 12, 3) := by decide +kernel
theorem dX3_version_13 : decode cX3_version 13 = .ok (.aload_n 0, 1) := by decide +kernel
theorem dX3_version_14 : decode cX3_version 14 = .ok (.getfield 32, 3) := by decide +kernel
theorem dX3_version_17 : decode cX3_version 17 = .ok (.iload_n 1, 1) := by decide +kernel
theorem dX3_version_18 : decode cX3_version 18 = .ok (.iaload, 1) := by decide +kernel
theorem dX3_version_19 : decode cX3_version 19 = .ok (.goto 4, 3) := by decide +kernel
theorem dX3_version_22 : decode cX3_version 22 = .ok (.iconst 0, 1) := by decide +kernel
theorem dX3_version_23 : decode cX3_version 23 = .ok (.ireturn, 1) := by decide +kernel
set_option maxRecDepth 20000 in
theorem ggX3_staleBy_X3_isKey : GoodIn wsX3_staleBy wsX3_isKey := goodIn_r _ [6, 7, 8, 5, 9] (by decide +kernel) (by decide +kernel)
set_option maxRecDepth 20000 in
theorem gX3_staleBy_X3_isKey : GoodIn wsX3_staleBy (va_wsS RX3 67 yX3_isKey wsX3_isKey) := goodIn_app (goodIn_of _ (by decide +kernel)) ggX3_staleBy_X3_isKey
set_option maxRecDepth 20000 in
theorem ggX3_staleBy_X3_isLanguage : GoodIn wsX3_staleBy wsX3_isLanguage := goodIn_r _ [12, 7, 8, 5, 9] (by decide +kernel) (by decide +kernel)
set_option maxRecDepth 20000 in
theorem gX3_staleBy_X3_isLanguage : GoodIn wsX3_staleBy (va_wsS RX3 71 yX3_isLanguage wsX3_isLanguage) := goodIn_app (goodIn_of _ (by decide +kernel)) ggX3_staleBy_X3_isLanguage
set_option maxRecDepth 20000 in
theorem ggX3_staleBy_X3_goes : GoodIn wsX3_staleBy wsX3_goes := goodIn_r _ [16, 17, 23, 24, 25, 26, 27, 28, 29, 30, 31, 32, 33, 34, 35, 36, 37, 38, 39, 40, 41, 42, 43] (by decide +kernel) (by decide +kernel)
set_option maxRecDepth 20000 in
theorem gX3_staleBy_X3_goes : GoodIn wsX3_staleBy (wsV RX3 81 RX3 yX3_goes wsX3_goes) := goodIn_app (goodIn_of _ (by decide +kernel)) ggX3_staleBy_X3_goes
set_option maxRecDepth 20000 in
theorem ggX3_staleBy_X3_count : GoodIn wsX3_staleBy wsX3_count := goodIn_r _ [21, 22, 23, 24, 25, 26, 27, 28, 29, 30, 31, 32, 33, 34, 35, 36, 37, 38, 39, 40, 41, 42, 43] (by decide +kernel) (by decide +kernel)
set_option maxRecDepth 20000 in
theorem gX3_staleBy_X3_count : GoodIn wsX3_staleBy (wsV RX3 114 RX3 yX3_count wsX3_count) := goodIn_app (goodIn_of _ (by decide +kernel)) ggX3_staleBy_X3_count
theorem dX3_staleBy_0 : decode cX3_staleBy 0 = .ok (.aload_n 0, 1) := by decide +kernel
theorem dX3_staleBy_1 : decode cX3_staleBy 1 = .ok (.iload_n 1, 1) := by decide +kernel
theorem dX3_staleBy_2 : decode cX3_staleBy 2 = .ok (.invokestatic 67, 3) := by decide +kernel
theorem dX3_staleBy_5 : decode cX3_staleBy 5 = .ok (.ifCond .eq 14, 3) := by decide +kernel
theorem dX3_staleBy_8 : decode cX3_staleBy 8 = .ok (.iload_n 2, 1) := by decide +kernel
theorem dX3_staleBy_9 : decode cX3_staleBy 9 = .ok (.invokestatic 71, 3) := by decide +kernel
theorem dX3_staleBy_12 : decode cX3_staleBy 12 = .ok (.ifCond .eq 7, 3) := by decide +kernel
theorem dX3_staleBy_15 : decode cX3_staleBy 15 = .ok (.iconst 1, 1) := by decide +kernel
theorem dX3_staleBy_16 : decode cX3_staleBy 16 = .ok (.goto 4, 3) := by decide +kernel
theorem dX3_staleBy_19 : decode cX3_staleBy 19 = .ok (.iconst 0, 1) := by decide +kernel
theorem dX3_staleBy_20 : decode cX3_staleBy 20 = .ok (.iconst 1, 1) := by decide +kernel
theorem dX3_staleBy_21 : decode cX3_staleBy 21 = .ok (.iconst 1, 1) := by decide +kernel
theorem dX3_staleBy_22 : decode cX3_staleBy 22 = .ok (.invokevirtual 81, 3) := by decide +kernel
theorem dX3_staleBy_25 : decode cX3_staleBy 25 = .ok (.ifCond .ne 5, 3) := by decide +kernel
theorem dX3_staleBy_28 : decode cX3_staleBy 28 = .ok (.iconst 0, 1) := by decide +kernel
theorem dX3_staleBy_29 : decode cX3_staleBy 29 = .ok (.ireturn, 1) := by decide +kernel
theorem dX3_staleBy_30 : decode cX3_staleBy 30 = .ok (.aload_n 0, 1) := by decide +kernel
theorem dX3_staleBy_31 : decode cX3_staleBy 31 = .ok (.iload_n 1, 1) := by decide +kernel
theorem dX3_staleBy_32 : decode cX3_staleBy 32 = .ok (.iload_n 2, 1) := by decide +kernel
theorem dX3_staleBy_33 : decode cX3_staleBy 33 = .ok (.invokevirtual 114, 3) := by decide +kernel
theorem dX3_staleBy_36 : decode cX3_staleBy 36 = .ok (.ifCond .ne 7, 3) := by decide +kernel
theorem dX3_staleBy_39 : decode cX3_staleBy 39 = .ok (.iconst (-1), 1) := by decide +kernel
theorem dX3_staleBy_40 : decode cX3_staleBy 40 = .ok (.goto 21, 3) := by decide +kernel
theorem dX3_staleBy_43 : decode cX3_staleBy 43 = .ok (.aload_n 0, 1) := by decide +kernel
theorem dX3_staleBy_44 : decode cX3_staleBy 44 = .ok (.getfield 32, 3) := by decide +kernel
theorem dX3_staleBy_47 : decode cX3_staleBy 47 = .ok (.iload_n 1, 1) := by decide +kernel
theorem dX3_staleBy_48 : decode cX3_staleBy 48 = .ok (.iaload, 1) := by decide +kernel
theorem dX3_staleBy_49 : decode cX3_staleBy 49 = .ok (.aload_n 0, 1) := by decide +kernel
theorem dX3_staleBy_50 : decode cX3_staleBy 50 = .ok (.getfield 35, 3) := by decide +kernel
theorem dX3_staleBy_53 : decode cX3_staleBy 53 = .ok (.bipush 6, 2) := by decide +kernel
theorem dX3_staleBy_55 : decode cX3_staleBy 55 = .ok (.iload_n 1, 1) := by decide +kernel
theorem dX3_staleBy_56 : decode cX3_staleBy 56 = .ok (.imul, 1) := by decide +kernel
theorem dX3_staleBy_57 : decode cX3_staleBy 57 = .ok (.iload_n 2, 1) := by decide +kernel
theorem dX3_staleBy_58 : decode cX3_staleBy 58 = .ok (.iadd, 1) := by decide +kernel
theorem dX3_staleBy_59 : decode cX3_staleBy 59 = .ok (.iaload, 1) := by decide +kernel
theorem dX3_staleBy_60 : decode cX3_staleBy 60 = .ok (.isub, 1) := by decide +kernel
theorem dX3_staleBy_61 : decode cX3_staleBy 61 = .ok (.ireturn, 1) := by decide +kernel
set_option maxRecDepth 20000 in
theorem ggX3_missing_X3_isLanguage : GoodIn wsX3_missing wsX3_isLanguage := goodIn_r _ [4, 5, 6, 3, 7] (by decide +kernel) (by decide +kernel)
set_option maxRecDepth 20000 in
theorem gX3_missing_X3_isLanguage : GoodIn wsX3_missing (va_wsS RX3 71 yX3_isLanguage wsX3_isLanguage) := goodIn_app (goodIn_of _ (by decide +kernel)) ggX3_missing_X3_isLanguage
set_option maxRecDepth 20000 in
theorem ggX3_missing_X3_goes : GoodIn wsX3_missing wsX3_goes := goodIn_r _ [11, 12, 18, 19, 20, 21, 22, 23, 24, 25, 26, 27, 28, 29, 30, 31, 32, 33, 34, 35, 36, 37, 38] (by decide +kernel) (by decide +kernel)
set_option maxRecDepth 20000 in
theorem gX3_missing_X3_goes : GoodIn wsX3_missing (wsV RX3 81 RX3 yX3_goes wsX3_goes) := goodIn_app (goodIn_of _ (by decide +kernel)) ggX3_missing_X3_goes
set_option maxRecDepth 20000 in
theorem ggX3_missing_X3_count : GoodIn wsX3_missing wsX3_count := goodIn_r _ [16, 17, 18, 19, 20, 21, 22, 23, 24, 25, 26, 27, 28, 29, 30, 31, 32, 33, 34, 35, 36, 37, 38] (by decide +kernel) (by decide +kernel)
set_option maxRecDepth 20000 in
theorem gX3_missing_X3_count : GoodIn wsX3_missing (wsV RX3 114 RX3 yX3_count wsX3_count) := goodIn_app (goodIn_of _ (by decide +kernel)) ggX3_missing_X3_count
theorem dX3_missing_0 : decode cX3_missing 0 = .ok (.iconst 0, 1) := by decide +kernel
theorem dX3_missing_1 : decode cX3_missing 1 = .ok (.istore_n 2, 1) := by decide +kernel
theorem dX3_missing_2 : decode cX3_missing 2 = .ok (.aload_n 0, 1) := by decide +kernel
theorem dX3_missing_3 : decode cX3_missing 3 = .ok (.iload_n 1, 1) := by decide +kernel
theorem dX3_missing_4 : decode cX3_missing 4 = .ok (.invokestatic 71, 3) := by decide +kernel
theorem dX3_missing_7 : decode cX3_missing 7 = .ok (.iconst 1, 1) := by decide +kernel
theorem dX3_missing_8 : decode cX3_missing 8 = .ok (.iconst 1, 1) := by decide +kernel
theorem dX3_missing_9 : decode cX3_missing 9 = .ok (.invokevirtual 81, 3) := by decide +kernel
theorem dX3_missing_12 : decode cX3_missing 12 = .ok (.istore_n 3, 1) := by decide +kernel
theorem dX3_missing_13 : decode cX3_missing 13 = .ok (.iconst 0, 1) := by decide +kernel
theorem dX3_missing_14 : decode cX3_missing 14 = .ok (.istore 4, 2) := by decide +kernel
theorem dX3_missing_16 : decode cX3_missing 16 = .ok (.iload 4, 2) := by decide +kernel
theorem dX3_missing_18 : decode cX3_missing 18 = .ok (.bipush 10, 2) := by decide +kernel
theorem dX3_missing_20 : decode cX3_missing 20 = .ok (.if_icmp .ge 41, 3) := by decide +kernel
theorem dX3_missing_23 : decode cX3_missing 23 = .ok (.iload_n 3, 1) := by decide +kernel
theorem dX3_missing_24 : decode cX3_missing 24 = .ok (.ifCond .eq 37, 3) := by decide +kernel
theorem dX3_missing_27 : decode cX3_missing 27 = .ok (.iload_n 2, 1) := by decide +kernel
theorem dX3_missing_28 : decode cX3_missing 28 = .ok (.aload_n 0, 1) := by decide +kernel
theorem dX3_missing_29 : decode cX3_missing 29 = .ok (.iload 4, 2) := by decide +kernel
theorem dX3_missing_31 : decode cX3_missing 31 = .ok (.iconst 0, 1) := by decide +kernel
theorem dX3_missing_32 : decode cX3_missing 32 = .ok (.invokevirtual 114, 3) := by decide +kernel
theorem dX3_missing_35 : decode cX3_missing 35 = .ok (.ifCond .le 17, 3) := by decide +kernel
theorem dX3_missing_38 : decode cX3_missing 38 = .ok (.aload_n 0, 1) := by decide +kernel
theorem dX3_missing_39 : decode cX3_missing 39 = .ok (.iload 4, 2) := by decide +kernel
theorem dX3_missing_41 : decode cX3_missing 41 = .ok (.iload_n 1, 1) := by decide +kernel
theorem dX3_missing_42 : decode cX3_missing 42 = .ok (.invokevirtual 114, 3) := by decide +kernel
theorem dX3_missing_45 : decode cX3_missing 45 = .ok (.ifCond .ne 7, 3) := by decide +kernel
theorem dX3_missing_48 : decode cX3_missing 48 = .ok (.iconst 1, 1) := by decide +kernel
theorem dX3_missing_49 : decode cX3_missing 49 = .ok (.goto 4, 3) := by decide +kernel
theorem dX3_missing_52 : decode cX3_missing 52 = .ok (.iconst 0, 1) := by decide +kernel
theorem dX3_missing_53 : decode cX3_missing 53 = .ok (.iadd, 1) := by decide +kernel
theorem dX3_missing_54 : decode cX3_missing 54 = .ok (.istore_n 2, 1) := by decide +kernel
theorem dX3_missing_55 : decode cX3_missing 55 = .ok (.iinc 4 1, 3) := by decide +kernel
theorem dX3_missing_58 : decode cX3_missing 58 = .ok (.goto (-42), 3) := by decide +kernel
theorem dX3_missing_61 : decode cX3_missing 61 = .ok (.iload_n 2, 1) := by decide +kernel
theorem dX3_missing_62 : decode cX3_missing 62 = .ok (.ireturn, 1) := by decide +kernel
theorem dX3_has_0 : decode cX3_has 0 = .ok (.iconst 0, 1) := by decide +kernel
theorem dX3_has_1 : decode cX3_has 1 = .ok (.istore_n 3, 1) := by decide +kernel
theorem dX3_has_2 : decode cX3_has 2 = .ok (.iconst 0, 1) := by decide +kernel
theorem dX3_has_3 : decode cX3_has 3 = .ok (.istore 4, 2) := by decide +kernel
theorem dX3_has_5 : decode cX3_has 5 = .ok (.iload 4, 2) := by decide +kernel
theorem dX3_has_7 : decode cX3_has 7 = .ok (.aload_n 0, 1) := by decide +kernel
theorem dX3_has_8 : decode cX3_has 8 = .ok (.getfield 22, 3) := by decide +kernel
theorem dX3_has_11 : decode cX3_has 11 = .ok (.iload_n 1, 1) := by decide +kernel
theorem dX3_has_12 : decode cX3_has 12 = .ok (.iaload, 1) := by decide +kernel
theorem dX3_has_13 : decode cX3_has 13 = .ok (.if_icmp .ge 35, 3) := by decide +kernel
theorem dX3_has_16 : decode cX3_has 16 = .ok (.iload_n 3, 1) := by decide +kernel
theorem dX3_has_17 : decode cX3_has 17 = .ok (.ifCond .ne 19, 3) := by decide +kernel
theorem dX3_has_20 : decode cX3_has 20 = .ok (.aload_n 0, 1) := by decide +kernel
theorem dX3_has_21 : decode cX3_has 21 = .ok (.getfield 29, 3) := by decide +kernel
theorem dX3_has_24 : decode cX3_has 24 = .ok (.bipush 8, 2) := by decide +kernel
theorem dX3_has_26 : decode cX3_has 26 = .ok (.iload_n 1, 1) := by decide +kernel
theorem dX3_has_27 : decode cX3_has 27 = .ok (.imul, 1) := by decide +kernel
theorem dX3_has_28 : decode cX3_has 28 = .ok (.iload 4, 2) := by decide +kernel
theorem dX3_has_30 : decode cX3_has 30 = .ok (.iadd, 1) := by decide +kernel
theorem dX3_has_31 : decode cX3_has 31 = .ok (.iaload, 1) := by decide +kernel
theorem dX3_has_32 : decode cX3_has 32 = .ok (.iload_n 2, 1) := by decide +kernel
end
section
theorem dX3_has_33 : decode cX3_has 33 = .ok (.if_icmp .ne 7, 3) := by decide +kernel
theorem dX3_has_36 : decode cX3_has 36 = .ok (.iconst 1, 1) := by decide +kernel
theorem dX3_has_37 : decode cX3_has 37 = .ok (.goto 4, 3) := by decide +kernel
theorem dX3_has_40 : decode cX3_has 40 = .ok (.iconst 0, 1) := by decide +kernel
theorem dX3_has_41 : decode cX3_has 41 = .ok (.istore_n 3, 1) := by decide +kernel
theorem dX3_has_42 : decode cX3_has 42 = .ok (.iinc 4 1, 3) := by decide +kernel
theorem dX3_has_45 : decode cX3_has 45 = .ok (.goto (-40), 3) := by decide +kernel
theorem dX3_has_48 : decode cX3_has 48 = .ok (.iload_n 3, 1) := by decide +kernel
theorem dX3_has_49 : decode cX3_has 49 = .ok (.ireturn, 1) := by decide +kernel
set_option maxRecDepth 20000 in
theorem ggX3_isFit_X3_has : GoodIn wsX3_isFit wsX3_has := goodIn_r _ [7, 1, 8, 9, 10, 11, 12, 13, 14, 15, 16, 17, 18, 19, 20, 21, 22, 23, 24, 25, 26, 27, 28, 29] (by decide +kernel) (by decide +kernel)
set_option maxRecDepth 20000 in
theorem gX3_isFit_X3_has : GoodIn wsX3_isFit (wsV RX3 117 RX3 yX3_has wsX3_has) := goodIn_app (goodIn_of _ (by decide +kernel)) ggX3_isFit_X3_has
theorem dX3_isFit_0 : decode cX3_isFit 0 = .ok (.aload_n 0, 1) := by decide +kernel
theorem dX3_isFit_1 : decode cX3_isFit 1 = .ok (.getfield 22, 3) := by decide +kernel
theorem dX3_isFit_4 : decode cX3_isFit 4 = .ok (.iload_n 2, 1) := by decide +kernel
theorem dX3_isFit_5 : decode cX3_isFit 5 = .ok (.iaload, 1) := by decide +kernel
theorem dX3_isFit_6 : decode cX3_isFit 6 = .ok (.ifCond .le 7, 3) := by decide +kernel
theorem dX3_isFit_9 : decode cX3_isFit 9 = .ok (.iconst 1, 1) := by decide +kernel
theorem dX3_isFit_10 : decode cX3_isFit 10 = .ok (.goto 4, 3) := by decide +kernel
theorem dX3_isFit_13 : decode cX3_isFit 13 = .ok (.iconst 0, 1) := by decide +kernel
theorem dX3_isFit_14 : decode cX3_isFit 14 = .ok (.istore_n 3, 1) := by decide +kernel
theorem dX3_isFit_15 : decode cX3_isFit 15 = .ok (.bipush 101, 2) := by decide +kernel
theorem dX3_isFit_17 : decode cX3_isFit 17 = .ok (.istore 4, 2) := by decide +kernel
theorem dX3_isFit_19 : decode cX3_isFit 19 = .ok (.iload 4, 2) := by decide +kernel
theorem dX3_isFit_21 : decode cX3_isFit 21 = .ok (.bipush 104, 2) := by decide +kernel
theorem dX3_isFit_23 : decode cX3_isFit 23 = .ok (.if_icmp .gt 98, 3) := by decide +kernel
theorem dX3_isFit_26 : decode cX3_isFit 26 = .ok (.iconst 0, 1) := by decide +kernel
theorem dX3_isFit_27 : decode cX3_isFit 27 = .ok (.istore 5, 2) := by decide +kernel
theorem dX3_isFit_29 : decode cX3_isFit 29 = .ok (.iconst 0, 1) := by decide +kernel
theorem dX3_isFit_30 : decode cX3_isFit 30 = .ok (.istore 6, 2) := by decide +kernel
theorem dX3_isFit_32 : decode cX3_isFit 32 = .ok (.iload 6, 2) := by decide +kernel
theorem dX3_isFit_34 : decode cX3_isFit 34 = .ok (.bipush 9, 2) := by decide +kernel
theorem dX3_isFit_36 : decode cX3_isFit 36 = .ok (.if_icmp .ge 37, 3) := by decide +kernel
theorem dX3_isFit_39 : decode cX3_isFit 39 = .ok (.iload 5, 2) := by decide +kernel
theorem dX3_isFit_41 : decode cX3_isFit 41 = .ok (.ifCond .ne 19, 3) := by decide +kernel
theorem dX3_isFit_44 : decode cX3_isFit 44 = .ok (.aload_n 0, 1) := by decide +kernel
theorem dX3_isFit_45 : decode cX3_isFit 45 = .ok (.bipush 54, 2) := by decide +kernel
theorem dX3_isFit_47 : decode cX3_isFit 47 = .ok (.iload_n 1, 1) := by decide +kernel
theorem dX3_isFit_48 : decode cX3_isFit 48 = .ok (.imul, 1) := by decide +kernel
theorem dX3_isFit_49 : decode cX3_isFit 49 = .ok (.iload 6, 2) := by decide +kernel
theorem dX3_isFit_51 : decode cX3_isFit 51 = .ok (.iadd, 1) := by decide +kernel
theorem dX3_isFit_52 : decode cX3_isFit 52 = .ok (.iload 4, 2) := by decide +kernel
theorem dX3_isFit_54 : decode cX3_isFit 54 = .ok (.invokevirtual 117, 3) := by decide +kernel
theorem dX3_isFit_57 : decode cX3_isFit 57 = .ok (.ifCond .eq 7, 3) := by decide +kernel
theorem dX3_isFit_60 : decode cX3_isFit 60 = .ok (.iconst 1, 1) := by decide +kernel
theorem dX3_isFit_61 : decode cX3_isFit 61 = .ok (.goto 4, 3) := by decide +kernel
theorem dX3_isFit_64 : decode cX3_isFit 64 = .ok (.iconst 0, 1) := by decide +kernel
theorem dX3_isFit_65 : decode cX3_isFit 65 = .ok (.istore 5, 2) := by decide +kernel
theorem dX3_isFit_67 : decode cX3_isFit 67 = .ok (.iinc 6 1, 3) := by decide +kernel
theorem dX3_isFit_70 : decode cX3_isFit 70 = .ok (.goto (-38), 3) := by decide +kernel
theorem dX3_isFit_73 : decode cX3_isFit 73 = .ok (.iload_n 3, 1) := by decide +kernel
theorem dX3_isFit_74 : decode cX3_isFit 74 = .ok (.ifCond .eq 39, 3) := by decide +kernel
theorem dX3_isFit_77 : decode cX3_isFit 77 = .ok (.aload_n 0, 1) := by decide +kernel
theorem dX3_isFit_78 : decode cX3_isFit 78 = .ok (.iload_n 2, 1) := by decide +kernel
theorem dX3_isFit_79 : decode cX3_isFit 79 = .ok (.iload 4, 2) := by decide +kernel
theorem dX3_isFit_81 : decode cX3_isFit 81 = .ok (.invokevirtual 117, 3) := by decide +kernel
theorem dX3_isFit_84 : decode cX3_isFit 84 = .ok (.ifCond .eq 11, 3) := by decide +kernel
theorem dX3_isFit_87 : decode cX3_isFit 87 = .ok (.iload 5, 2) := by decide +kernel
theorem dX3_isFit_89 : decode cX3_isFit 89 = .ok (.ifCond .eq 24, 3) := by decide +kernel
theorem dX3_isFit_92 : decode cX3_isFit 92 = .ok (.goto 17, 3) := by decide +kernel
theorem dX3_isFit_95 : decode cX3_isFit 95 = .ok (.iload 5, 2) := by decide +kernel
theorem dX3_isFit_97 : decode cX3_isFit 97 = .ok (.ifCond .eq 12, 3) := by decide +kernel
theorem dX3_isFit_100 : decode cX3_isFit 100 = .ok (.aload_n 0, 1) := by decide +kernel
theorem dX3_isFit_101 : decode cX3_isFit 101 = .ok (.getfield 25, 3) := by decide +kernel
theorem dX3_isFit_104 : decode cX3_isFit 104 = .ok (.iload_n 2, 1) := by decide +kernel
theorem dX3_isFit_105 : decode cX3_isFit 105 = .ok (.baload, 1) := by decide +kernel
theorem dX3_isFit_106 : decode cX3_isFit 106 = .ok (.ifCond .eq 7, 3) := by decide +kernel
theorem dX3_isFit_109 : decode cX3_isFit 109 = .ok (.iconst 1, 1) := by decide +kernel
theorem dX3_isFit_110 : decode cX3_isFit 110 = .ok (.goto 4, 3) := by decide +kernel
theorem dX3_isFit_113 : decode cX3_isFit 113 = .ok (.iconst 0, 1) := by decide +kernel
theorem dX3_isFit_114 : decode cX3_isFit 114 = .ok (.istore_n 3, 1) := by decide +kernel
theorem dX3_isFit_115 : decode cX3_isFit 115 = .ok (.iinc 4 1, 3) := by decide +kernel
theorem dX3_isFit_118 : decode cX3_isFit 118 = .ok (.goto (-99), 3) := by decide +kernel
theorem dX3_isFit_121 : decode cX3_isFit 121 = .ok (.iload_n 3, 1) := by decide +kernel
theorem dX3_isFit_122 : decode cX3_isFit 122 = .ok (.ireturn, 1) := by decide +kernel
set_option maxRecDepth 20000 in
theorem ggX3_fits_X3_isForm : GoodIn wsX3_fits wsX3_isForm := goodIn_r _ [4, 5, 6, 3, 7, 8, 9, 10, 11, 12, 13, 14, 15, 16] (by decide +kernel) (by decide +kernel)
set_option maxRecDepth 20000 in
theorem gX3_fits_X3_isForm : GoodIn wsX3_fits (va_wsS RX3 98 yX3_isForm wsX3_isForm) := goodIn_app (goodIn_of _ (by decide +kernel)) ggX3_fits_X3_isForm
set_option maxRecDepth 20000 in
theorem ggX3_fits_X3_goes : GoodIn wsX3_fits wsX3_goes := goodIn_r _ [20, 21, 36, 37, 38, 39, 40, 41, 42, 43, 44, 45, 46, 47, 48, 49, 50, 51, 52, 53, 54, 55, 56] (by decide +kernel) (by decide +kernel)
set_option maxRecDepth 20000 in
theorem gX3_fits_X3_goes : GoodIn wsX3_fits (wsV RX3 81 RX3 yX3_goes wsX3_goes) := goodIn_app (goodIn_of _ (by decide +kernel)) ggX3_fits_X3_goes
set_option maxRecDepth 20000 in
theorem ggX3_fits_X3_at : GoodIn wsX3_fits wsX3_at := goodIn_r _ [24] (by decide +kernel) (by decide +kernel)
set_option maxRecDepth 20000 in
theorem gX3_fits_X3_at : GoodIn wsX3_fits (va_wsS RX3 102 yX3_at wsX3_at) := goodIn_app (goodIn_of _ (by decide +kernel)) ggX3_fits_X3_at
set_option maxRecDepth 20000 in
theorem ggX3_fits_X3_isFit : GoodIn wsX3_fits wsX3_isFit := goodIn_r _ [28, 29, 30, 31, 32, 33, 3, 34, 35, 36, 37, 38, 39, 40, 41, 42, 43, 44, 45, 46, 47, 48, 49, 50, 51, 52, 53, 54, 55, 56] (by decide +kernel) (by decide +kernel)
set_option maxRecDepth 20000 in
theorem gX3_fits_X3_isFit : GoodIn wsX3_fits (wsV RX3 120 RX3 yX3_isFit wsX3_isFit) := goodIn_app (goodIn_of _ (by decide +kernel)) ggX3_fits_X3_isFit
theorem dX3_fits_0 : decode cX3_fits 0 = .ok (.aload_n 0, 1) := by decide +kernel
theorem dX3_fits_1 : decode cX3_fits 1 = .ok (.iload_n 1, 1) := by decide +kernel
theorem dX3_fits_2 : decode cX3_fits 2 = .ok (.iload_n 2, 1) := by decide +kernel
theorem dX3_fits_3 : decode cX3_fits 3 = .ok (.iload_n 3, 1) := by decide +kernel
theorem dX3_fits_4 : decode cX3_fits 4 = .ok (.iload 4, 2) := by decide +kernel
theorem dX3_fits_6 : decode cX3_fits 6 = .ok (.invokestatic 98, 3) := by decide +kernel
theorem dX3_fits_9 : decode cX3_fits 9 = .ok (.iconst 1, 1) := by decide +kernel
theorem dX3_fits_10 : decode cX3_fits 10 = .ok (.iconst 1, 1) := by decide +kernel
theorem dX3_fits_11 : decode cX3_fits 11 = .ok (.invokevirtual 81, 3) := by decide +kernel
theorem dX3_fits_14 : decode cX3_fits 14 = .ok (.istore 5, 2) := by decide +kernel
theorem dX3_fits_16 : decode cX3_fits 16 = .ok (.iload 5, 2) := by decide +kernel
theorem dX3_fits_18 : decode cX3_fits 18 = .ok (.ifCond .eq 23, 3) := by decide +kernel
theorem dX3_fits_21 : decode cX3_fits 21 = .ok (.aload_n 0, 1) := by decide +kernel
theorem dX3_fits_22 : decode cX3_fits 22 = .ok (.iload_n 1, 1) := by decide +kernel
theorem dX3_fits_23 : decode cX3_fits 23 = .ok (.iload_n 1, 1) := by decide +kernel
theorem dX3_fits_24 : decode cX3_fits 24 = .ok (.iload_n 2, 1) := by decide +kernel
theorem dX3_fits_25 : decode cX3_fits 25 = .ok (.iload_n 3, 1) := by decide +kernel
theorem dX3_fits_26 : decode cX3_fits 26 = .ok (.iload 4, 2) := by decide +kernel
theorem dX3_fits_28 : decode cX3_fits 28 = .ok (.invokestatic 102, 3) := by decide +kernel
theorem dX3_fits_31 : decode cX3_fits 31 = .ok (.invokevirtual 120, 3) := by decide +kernel
theorem dX3_fits_34 : decode cX3_fits 34 = .ok (.ifCond .eq 7, 3) := by decide +kernel
theorem dX3_fits_37 : decode cX3_fits 37 = .ok (.iconst 1, 1) := by decide +kernel
theorem dX3_fits_38 : decode cX3_fits 38 = .ok (.goto 4, 3) := by decide +kernel
theorem dX3_fits_41 : decode cX3_fits 41 = .ok (.iconst 0, 1) := by decide +kernel
theorem dX3_fits_42 : decode cX3_fits 42 = .ok (.ireturn, 1) := by decide +kernel
set_option maxRecDepth 20000 in
theorem ggX3_tells_X3_kind : GoodIn wsX3_tells wsX3_kind := goodIn_r _ [8, 9, 10, 25, 26, 27, 28, 29, 30, 31, 32, 33, 34, 35, 36, 37, 38, 39, 40, 41, 42, 43, 44, 45] (by decide +kernel) (by decide +kernel)
set_option maxRecDepth 20000 in
theorem gX3_tells_X3_kind : GoodIn wsX3_tells (wsV RX3 110 RX3 yX3_kind wsX3_kind) := goodIn_app (goodIn_of _ (by decide +kernel)) ggX3_tells_X3_kind
set_option maxRecDepth 20000 in
theorem ggX3_tells_X3_at : GoodIn wsX3_tells wsX3_at := goodIn_r _ [13] (by decide +kernel) (by decide +kernel)
set_option maxRecDepth 20000 in
theorem gX3_tells_X3_at : GoodIn wsX3_tells (va_wsS RX3 102 yX3_at wsX3_at) := goodIn_app (goodIn_of _ (by decide +kernel)) ggX3_tells_X3_at
set_option maxRecDepth 20000 in
theorem ggX3_tells_X3_isFit : GoodIn wsX3_tells wsX3_isFit := goodIn_r _ [17, 18, 19, 20, 21, 22, 7, 23, 24, 25, 26, 27, 28, 29, 30, 31, 32, 33, 34, 35, 36, 37, 38, 39, 40, 41, 42, 43, 44, 45] (by decide +kernel) (by decide +kernel)
set_option maxRecDepth 20000 in
theorem gX3_tells_X3_isFit : GoodIn wsX3_tells (wsV RX3 120 RX3 yX3_isFit wsX3_isFit) := goodIn_app (goodIn_of _ (by decide +kernel)) ggX3_tells_X3_isFit
theorem dX3_tells_0 : decode cX3_tells 0 = .ok (.aload_n 0, 1) := by decide +kernel
theorem dX3_tells_1 : decode cX3_tells 1 = .ok (.iconst (-1), 1) := by decide +kernel
theorem dX3_tells_2 : decode cX3_tells 2 = .ok (.putfield 123, 3) := by decide +kernel
theorem dX3_tells_5 : decode cX3_tells 5 = .ok (.aload_n 0, 1) := by decide +kernel
theorem dX3_tells_6 : decode cX3_tells 6 = .ok (.iload_n 2, 1) := by decide +kernel
theorem dX3_tells_7 : decode cX3_tells 7 = .ok (.putfield 126, 3) := by decide +kernel
theorem dX3_tells_10 : decode cX3_tells 10 = .ok (.iconst 1, 1) := by decide +kernel
theorem dX3_tells_11 : decode cX3_tells 11 = .ok (.istore 5, 2) := by decide +kernel
theorem dX3_tells_13 : decode cX3_tells 13 = .ok (.iload 5, 2) := by decide +kernel
theorem dX3_tells_15 : decode cX3_tells 15 = .ok (.ifCond .eq 142, 3) := by decide +kernel
theorem dX3_tells_18 : decode cX3_tells 18 = .ok (.aload_n 0, 1) := by decide +kernel
theorem dX3_tells_19 : decode cX3_tells 19 = .ok (.aload_n 0, 1) := by decide +kernel
theorem dX3_tells_20 : decode cX3_tells 20 = .ok (.getfield 126, 3) := by decide +kernel
theorem dX3_tells_23 : decode cX3_tells 23 = .ok (.iload_n 3, 1) := by decide +kernel
theorem dX3_tells_24 : decode cX3_tells 24 = .ok (.invokevirtual 110, 3) := by decide +kernel
theorem dX3_tells_27 : decode cX3_tells 27 = .ok (.istore 6, 2) := by decide +kernel
theorem dX3_tells_29 : decode cX3_tells 29 = .ok (.iconst 0, 1) := by decide +kernel
theorem dX3_tells_30 : decode cX3_tells 30 = .ok (.istore 7, 2) := by decide +kernel
theorem dX3_tells_32 : decode cX3_tells 32 = .ok (.iload 7, 2) := by decide +kernel
theorem dX3_tells_34 : decode cX3_tells 34 = .ok (.iconst 4, 1) := by decide +kernel
theorem dX3_tells_35 : decode cX3_tells 35 = .ok (.if_icmp .ge 72, 3) := by decide +kernel
theorem dX3_tells_38 : decode cX3_tells 38 = .ok (.aload_n 0, 1) := by decide +kernel
theorem dX3_tells_39 : decode cX3_tells 39 = .ok (.getfield 123, 3) := by decide +kernel
theorem dX3_tells_42 : decode cX3_tells 42 = .ok (.iconst (-1), 1) := by decide +kernel
theorem dX3_tells_43 : decode cX3_tells 43 = .ok (.if_icmp .ne 64, 3) := by decide +kernel
theorem dX3_tells_46 : decode cX3_tells 46 = .ok (.iload_n 1, 1) := by decide +kernel
theorem dX3_tells_47 : decode cX3_tells 47 = .ok (.aload_n 0, 1) := by decide +kernel
theorem dX3_tells_48 : decode cX3_tells 48 = .ok (.getfield 126, 3) := by decide +kernel
theorem dX3_tells_51 : decode cX3_tells 51 = .ok (.iload 7, 2) := by decide +kernel
theorem dX3_tells_53 : decode cX3_tells 53 = .ok (.iconst 2, 1) := by decide +kernel
theorem dX3_tells_54 : decode cX3_tells 54 = .ok (.if_icmp .ge 8, 3) := by decide +kernel
theorem dX3_tells_57 : decode cX3_tells 57 = .ok (.iload 6, 2) := by decide +kernel
theorem dX3_tells_59 : decode cX3_tells 59 = .ok (.goto 4, 3) := by decide +kernel
theorem dX3_tells_62 : decode cX3_tells 62 = .ok (.iconst 2, 1) := by decide +kernel
theorem dX3_tells_63 : decode cX3_tells 63 = .ok (.iload 7, 2) := by decide +kernel
theorem dX3_tells_65 : decode cX3_tells 65 = .ok (.iconst 2, 1) := by decide +kernel
theorem dX3_tells_66 : decode cX3_tells 66 = .ok (.irem, 1) := by decide +kernel
theorem dX3_tells_67 : decode cX3_tells 67 = .ok (.ifCond .ne 8, 3) := by decide +kernel
theorem dX3_tells_70 : decode cX3_tells 70 = .ok (.iload 4, 2) := by decide +kernel
theorem dX3_tells_72 : decode cX3_tells 72 = .ok (.goto 4, 3) := by decide +kernel
theorem dX3_tells_75 : decode cX3_tells 75 = .ok (.iconst 0, 1) := by decide +kernel
theorem dX3_tells_76 : decode cX3_tells 76 = .ok (.invokestatic 102, 3) := by decide +kernel
theorem dX3_tells_79 : decode cX3_tells 79 = .ok (.istore 8, 2) := by decide +kernel
theorem dX3_tells_81 : decode cX3_tells 81 = .ok (.aload_n 0, 1) := by decide +kernel
theorem dX3_tells_82 : decode cX3_tells 82 = .ok (.aload_n 0, 1) := by decide +kernel
theorem dX3_tells_83 : decode cX3_tells 83 = .ok (.iload_n 1, 1) := by decide +kernel
theorem dX3_tells_84 : decode cX3_tells 84 = .ok (.iload 8, 2) := by decide +kernel
theorem dX3_tells_86 : decode cX3_tells 86 = .ok (.invokevirtual 120, 3) := by decide +kernel
theorem dX3_tells_89 : decode cX3_tells 89 = .ok (.ifCond .eq 8, 3) := by decide +kernel
theorem dX3_tells_92 : decode cX3_tells 92 = .ok (.iload 8, 2) := by decide +kernel
theorem dX3_tells_94 : decode cX3_tells 94 = .ok (.goto 4, 3) := by decide +kernel
theorem dX3_tells_97 : decode cX3_tells 97 = .ok (.iconst (-1), 1) := by decide +kernel
theorem dX3_tells_98 : decode cX3_tells 98 = .ok (.putfield 123, 3) := by decide +kernel
theorem dX3_tells_101 : decode cX3_tells 101 = .ok (.iinc 7 1, 3) := by decide +kernel
theorem dX3_tells_104 : decode cX3_tells 104 = .ok (.goto (-72), 3) := by decide +kernel
theorem dX3_tells_107 : decode cX3_tells 107 = .ok (.aload_n 0, 1) := by decide +kernel
theorem dX3_tells_108 : decode cX3_tells 108 = .ok (.getfield 123, 3) := by decide +kernel
theorem dX3_tells_111 : decode cX3_tells 111 = .ok (.iconst (-1), 1) := by decide +kernel
theorem dX3_tells_112 : decode cX3_tells 112 = .ok (.if_icmp .ne 14, 3) := by decide +kernel
theorem dX3_tells_115 : decode cX3_tells 115 = .ok (.aload_n 0, 1) := by decide +kernel
theorem dX3_tells_116 : decode cX3_tells 116 = .ok (.getfield 126, 3) := by decide +kernel
theorem dX3_tells_119 : decode cX3_tells 119 = .ok (.ifCond .eq 7, 3) := by decide +kernel
theorem dX3_tells_122 : decode cX3_tells 122 = .ok (.iconst 1, 1) := by decide +kernel
theorem dX3_tells_123 : decode cX3_tells 123 = .ok (.goto 4, 3) := by decide +kernel
theorem dX3_tells_126 : decode cX3_tells 126 = .ok (.iconst 0, 1) := by decide +kernel
theorem dX3_tells_127 : decode cX3_tells 127 = .ok (.istore 5, 2) := by decide +kernel
theorem dX3_tells_129 : decode cX3_tells 129 = .ok (.aload_n 0, 1) := by decide +kernel
theorem dX3_tells_130 : decode cX3_tells 130 = .ok (.iload 5, 2) := by decide +kernel
theorem dX3_tells_132 : decode cX3_tells 132 = .ok (.ifCond .eq 15, 3) := by decide +kernel
theorem dX3_tells_135 : decode cX3_tells 135 = .ok (.aload_n 0, 1) := by decide +kernel
theorem dX3_tells_136 : decode cX3_tells 136 = .ok (.getfield 7, 3) := by decide +kernel
theorem dX3_tells_139 : decode cX3_tells 139 = .ok (.aload_n 0, 1) := by decide +kernel
theorem dX3_tells_140 : decode cX3_tells 140 = .ok (.getfield 126, 3) := by decide +kernel
theorem dX3_tells_143 : decode cX3_tells 143 = .ok (.iaload, 1) := by decide +kernel
theorem dX3_tells_144 : decode cX3_tells 144 = .ok (.goto 7, 3) := by decide +kernel
theorem dX3_tells_147 : decode cX3_tells 147 = .ok (.aload_n 0, 1) := by decide +kernel
theorem dX3_tells_148 : decode cX3_tells 148 = .ok (.getfield 126, 3) := by decide +kernel
theorem dX3_tells_151 : decode cX3_tells 151 = .ok (.putfield 126, 3) := by decide +kernel
theorem dX3_tells_154 : decode cX3_tells 154 = .ok (.goto (-141), 3) := by decide +kernel
theorem dX3_tells_157 : decode cX3_tells 157 = .ok (.return_, 1) := by decide +kernel
set_option maxRecDepth 20000 in
theorem ggX3_isAsked_X3_isKey : GoodIn wsX3_isAsked wsX3_isKey := goodIn_r _ [4, 5, 6, 3, 7] (by decide +kernel) (by decide +kernel)
set_option maxRecDepth 20000 in
theorem gX3_isAsked_X3_isKey : GoodIn wsX3_isAsked (va_wsS RX3 67 yX3_isKey wsX3_isKey) := goodIn_app (goodIn_of _ (by decide +kernel)) ggX3_isAsked_X3_isKey
set_option maxRecDepth 20000 in
theorem ggX3_isAsked_X3_isLanguage : GoodIn wsX3_isAsked wsX3_isLanguage := goodIn_r _ [10, 5, 6, 3, 7] (by decide +kernel) (by decide +kernel)
set_option maxRecDepth 20000 in
theorem gX3_isAsked_X3_isLanguage : GoodIn wsX3_isAsked (va_wsS RX3 71 yX3_isLanguage wsX3_isLanguage) := goodIn_app (goodIn_of _ (by decide +kernel)) ggX3_isAsked_X3_isLanguage
set_option maxRecDepth 20000 in
theorem ggX3_isAsked_X3_isThird : GoodIn wsX3_isAsked wsX3_isThird := goodIn_r _ [13, 5, 6, 3, 7] (by decide +kernel) (by decide +kernel)
set_option maxRecDepth 20000 in
theorem gX3_isAsked_X3_isThird : GoodIn wsX3_isAsked (va_wsS RX3 74 yX3_isThird wsX3_isThird) := goodIn_app (goodIn_of _ (by decide +kernel)) ggX3_isAsked_X3_isThird
set_option maxRecDepth 20000 in
theorem ggX3_isAsked_X3_goes : GoodIn wsX3_isAsked wsX3_goes := goodIn_r _ [17, 18, 46, 47, 48, 49, 50, 51, 52, 53, 54, 55, 56, 57, 58, 59, 60, 61, 62, 63, 64, 65, 66] (by decide +kernel) (by decide +kernel)
set_option maxRecDepth 20000 in
theorem gX3_isAsked_X3_goes : GoodIn wsX3_isAsked (wsV RX3 81 RX3 yX3_goes wsX3_goes) := goodIn_app (goodIn_of _ (by decide +kernel)) ggX3_isAsked_X3_goes
set_option maxRecDepth 20000 in
theorem ggX3_isAsked_X3_tells : GoodIn wsX3_isAsked wsX3_tells := goodIn_r _ [22, 23, 24, 25, 26, 27, 28, 3, 29, 30, 31, 32, 33, 34, 35, 36, 37, 38, 39, 40, 41, 42, 43, 44, 45, 46, 47, 48, 49, 50, 51, 52, 53, 54, 55, 56, 57, 58, 59, 60, 61, 62, 63, 64, 65, 66] (by decide +kernel) (by decide +kernel)
set_option maxRecDepth 20000 in
theorem gX3_isAsked_X3_tells : GoodIn wsX3_isAsked (wsV RX3 129 RX3 yX3_tells wsX3_tells) := goodIn_app (goodIn_of _ (by decide +kernel)) ggX3_isAsked_X3_tells
theorem dX3_isAsked_0 : decode cX3_isAsked 0 = .ok (.aload_n 0, 1) := by decide +kernel
theorem dX3_isAsked_1 : decode cX3_isAsked 1 = .ok (.iload_n 1, 1) := by decide +kernel
theorem dX3_isAsked_2 : decode cX3_isAsked 2 = .ok (.invokestatic 67, 3) := by decide +kernel
theorem dX3_isAsked_5 : decode cX3_isAsked 5 = .ok (.ifCond .eq 22, 3) := by decide +kernel
theorem dX3_isAsked_8 : decode cX3_isAsked 8 = .ok (.iload_n 2, 1) := by decide +kernel
theorem dX3_isAsked_9 : decode cX3_isAsked 9 = .ok (.invokestatic 71, 3) := by decide +kernel
theorem dX3_isAsked_12 : decode cX3_isAsked 12 = .ok (.ifCond .eq 15, 3) := by decide +kernel
theorem dX3_isAsked_15 : decode cX3_isAsked 15 = .ok (.iload 4, 2) := by decide +kernel
theorem dX3_isAsked_17 : decode cX3_isAsked 17 = .ok (.invokestatic 74, 3) := by decide +kernel
theorem dX3_isAsked_20 : decode cX3_isAsked 20 = .ok (.ifCond .eq 7, 3) := by decide +kernel
theorem dX3_isAsked_23 : decode cX3_isAsked 23 = .ok (.iconst 1, 1) := by decide +kernel
theorem dX3_isAsked_24 : decode cX3_isAsked 24 = .ok (.goto 4, 3) := by decide +kernel
theorem dX3_isAsked_27 : decode cX3_isAsked 27 = .ok (.iconst 0, 1) := by decide +kernel
theorem dX3_isAsked_28 : decode cX3_isAsked 28 = .ok (.iload_n 3, 1) := by decide +kernel
theorem dX3_isAsked_29 : decode cX3_isAsked 29 = .ok (.ifCond .lt 7, 3) := by decide +kernel
theorem dX3_isAsked_32 : decode cX3_isAsked 32 = .ok (.iconst 1, 1) := by decide +kernel
theorem dX3_isAsked_33 : decode cX3_isAsked 33 = .ok (.goto 4, 3) := by decide +kernel
theorem dX3_isAsked_36 : decode cX3_isAsked 36 = .ok (.iconst 0, 1) := by decide +kernel
theorem dX3_isAsked_37 : decode cX3_isAsked 37 = .ok (.iconst 1, 1) := by decide +kernel
theorem dX3_isAsked_38 : decode cX3_isAsked 38 = .ok (.invokevirtual 81, 3) := by decide +kernel
theorem dX3_isAsked_41 : decode cX3_isAsked 41 = .ok (.istore 5, 2) := by decide +kernel
theorem dX3_isAsked_43 : decode cX3_isAsked 43 = .ok (.iload 5, 2) := by decide +kernel
theorem dX3_isAsked_45 : decode cX3_isAsked 45 = .ok (.ifCond .eq 12, 3) := by decide +kernel
theorem dX3_isAsked_48 : decode cX3_isAsked 48 = .ok (.aload_n 0, 1) := by decide +kernel
theorem dX3_isAsked_49 : decode cX3_isAsked 49 = .ok (.iload_n 1, 1) := by decide +kernel
theorem dX3_isAsked_50 : decode cX3_isAsked 50 = .ok (.iload_n 2, 1) := by decide +kernel
theorem dX3_isAsked_51 : decode cX3_isAsked 51 = .ok (.iload_n 3, 1) := by decide +kernel
theorem dX3_isAsked_52 : decode cX3_isAsked 52 = .ok (.iload 4, 2) := by decide +kernel
theorem dX3_isAsked_54 : decode cX3_isAsked 54 = .ok (.invokevirtual 129, 3) := by decide +kernel
theorem dX3_isAsked_57 : decode cX3_isAsked 57 = .ok (.iload 5, 2) := by decide +kernel
theorem dX3_isAsked_59 : decode cX3_isAsked 59 = .ok (.ireturn, 1) := by decide +kernel
set_option maxRecDepth 20000 in
theorem ggX3_toldBy_X3_isAsked : GoodIn wsX3_toldBy wsX3_isAsked := goodIn_r _ [7, 8, 9, 6, 10, 11, 12, 13, 14, 15, 16, 17, 18, 19, 20, 21, 22, 23, 24, 25, 26, 27, 28, 1, 2, 29, 30, 31, 32, 33, 34, 35, 36, 37, 38, 39, 40, 41, 42, 43, 44, 45, 46, 47, 48, 49, 50, 51, 52, 53, 54, 55, 56, 57, 58, 59, 60, 61, 62, 63, 64, 65, 66, 67, 68, 69, 70] (by decide +kernel) (by decide +kernel)
set_option maxRecDepth 20000 in
theorem gX3_toldBy_X3_isAsked : GoodIn wsX3_toldBy (wsV RX3 133 RX3 yX3_isAsked wsX3_isAsked) := goodIn_app (goodIn_of _ (by decide +kernel)) ggX3_toldBy_X3_isAsked
theorem dX3_toldBy_0 : decode cX3_toldBy 0 = .ok (.aload_n 0, 1) := by decide +kernel
theorem dX3_toldBy_1 : decode cX3_toldBy 1 = .ok (.iload_n 1, 1) := by decide +kernel
theorem dX3_toldBy_2 : decode cX3_toldBy 2 = .ok (.iload_n 2, 1) := by decide +kernel
theorem dX3_toldBy_3 : decode cX3_toldBy 3 = .ok (.iload_n 3, 1) := by decide +kernel
theorem dX3_toldBy_4 : decode cX3_toldBy 4 = .ok (.iload 4, 2) := by decide +kernel
theorem dX3_toldBy_6 : decode cX3_toldBy 6 = .ok (.invokevirtual 133, 3) := by decide +kernel
theorem dX3_toldBy_9 : decode cX3_toldBy 9 = .ok (.ifCond .eq 22, 3) := by decide +kernel
theorem dX3_toldBy_12 : decode cX3_toldBy 12 = .ok (.aload_n 0, 1) := by decide +kernel
theorem dX3_toldBy_13 : decode cX3_toldBy 13 = .ok (.getfield 123, 3) := by decide +kernel
theorem dX3_toldBy_16 : decode cX3_toldBy 16 = .ok (.iconst (-1), 1) := by decide +kernel
theorem dX3_toldBy_17 : decode cX3_toldBy 17 = .ok (.if_icmp .ne 7, 3) := by decide +kernel
theorem dX3_toldBy_20 : decode cX3_toldBy 20 = .ok (.iconst (-1), 1) := by decide +kernel
theorem dX3_toldBy_21 : decode cX3_toldBy 21 = .ok (.goto 11, 3) := by decide +kernel
theorem dX3_toldBy_24 : decode cX3_toldBy 24 = .ok (.aload_n 0, 1) := by decide +kernel
theorem dX3_toldBy_25 : decode cX3_toldBy 25 = .ok (.getfield 126, 3) := by decide +kernel
theorem dX3_toldBy_28 : decode cX3_toldBy 28 = .ok (.goto 4, 3) := by decide +kernel
theorem dX3_toldBy_31 : decode cX3_toldBy 31 = .ok (.iconst 0, 1) := by decide +kernel
theorem dX3_toldBy_32 : decode cX3_toldBy 32 = .ok (.ireturn, 1) := by decide +kernel
set_option maxRecDepth 20000 in
theorem ggX3_toldByLooking_X3_toldBy : GoodIn wsX3_toldByLooking wsX3_toldBy := goodIn_r _ [5, 6, 7, 8, 9, 10, 4, 11, 12, 13, 14, 15, 16, 17, 18, 19, 20, 21, 22, 23, 24, 25, 26, 27, 28, 29, 30, 31, 32, 33, 34, 35, 36, 37, 38, 39, 40, 41, 42, 43, 44, 45, 46, 47, 48, 49, 50, 51, 52, 53, 54, 55, 56, 57, 58, 59, 60, 61, 62, 63, 64, 65, 66, 67, 68, 69, 70, 71, 72, 73, 74] (by decide +kernel) (by decide +kernel)
set_option maxRecDepth 20000 in
theorem gX3_toldByLooking_X3_toldBy : GoodIn wsX3_toldByLooking (wsV RX3 136 RX3 yX3_toldBy wsX3_toldBy) := goodIn_app (goodIn_of _ (by decide +kernel)) ggX3_toldByLooking_X3_toldBy
theorem dX3_toldByLooking_0 : decode cX3_toldByLooking 0 = .ok (.aload_n 0, 1) := by decide +kernel
theorem dX3_toldByLooking_1 : decode cX3_toldByLooking 1 = .ok (.iload_n 1, 1) := by decide +kernel
theorem dX3_toldByLooking_2 : decode cX3_toldByLooking 2 = .ok (.iload_n 2, 1) := by decide +kernel
theorem dX3_toldByLooking_3 : decode cX3_toldByLooking 3 = .ok (.iload_n 3, 1) := by decide +kernel
theorem dX3_toldByLooking_4 : decode cX3_toldByLooking 4 = .ok (.iload 4, 2) := by decide +kernel
theorem dX3_toldByLooking_6 : decode cX3_toldByLooking 6 = .ok (.invokevirtual 136, 3) := by decide +kernel
theorem dX3_toldByLooking_9 : decode cX3_toldByLooking 9 = .ok (.ireturn, 1) := by decide +kernel
set_option maxRecDepth 20000 in
theorem ggX3_toldForm_X3_isAsked : GoodIn wsX3_toldForm wsX3_isAsked := goodIn_r _ [6, 7, 8, 5, 9, 10, 11, 12, 13, 14, 15, 16, 17, 18, 19, 20, 21, 22, 23, 24, 25, 26, 27, 1, 28, 29, 30, 31, 32, 33, 34, 35, 36, 37, 38, 39, 40, 41, 42, 43, 44, 45, 46, 47, 48, 49, 50, 51, 52, 53, 54, 55, 56, 57, 58, 59, 60, 61, 62, 63, 64, 65, 66, 67, 68, 69, 70] (by decide +kernel) (by decide +kernel)
set_option maxRecDepth 20000 in
theorem gX3_toldForm_X3_isAsked : GoodIn wsX3_toldForm (wsV RX3 133 RX3 yX3_isAsked wsX3_isAsked) := goodIn_app (goodIn_of _ (by decide +kernel)) ggX3_toldForm_X3_isAsked
theorem dX3_toldForm_0 : decode cX3_toldForm 0 = .ok (.aload_n 0, 1) := by decide +kernel
theorem dX3_toldForm_1 : decode cX3_toldForm 1 = .ok (.iload_n 1, 1) := by decide +kernel
theorem dX3_toldForm_2 : decode cX3_toldForm 2 = .ok (.iload_n 2, 1) := by decide +kernel
theorem dX3_toldForm_3 : decode cX3_toldForm 3 = .ok (.iload_n 3, 1) := by decide +kernel
theorem dX3_toldForm_4 : decode cX3_toldForm 4 = .ok (.iload 4, 2) := by decide +kernel
theorem dX3_toldForm_6 : decode cX3_toldForm 6 = .ok (.invokevirtual 133, 3) := by decide +kernel
theorem dX3_toldForm_9 : decode cX3_toldForm 9 = .ok (.ifCond .eq 25, 3) := by decide +kernel
theorem dX3_toldForm_12 : decode cX3_toldForm 12 = .ok (.aload_n 0, 1) := by decide +kernel
theorem dX3_toldForm_13 : decode cX3_toldForm 13 = .ok (.getfield 123, 3) := by decide +kernel
theorem dX3_toldForm_16 : decode cX3_toldForm 16 = .ok (.iconst (-1), 1) := by decide +kernel
theorem dX3_toldForm_17 : decode cX3_toldForm 17 = .ok (.if_icmp .ne 7, 3) := by decide +kernel
theorem dX3_toldForm_20 : decode cX3_toldForm 20 = .ok (.iconst (-1), 1) := by decide +kernel
theorem dX3_toldForm_21 : decode cX3_toldForm 21 = .ok (.goto 14, 3) := by decide +kernel
theorem dX3_toldForm_24 : decode cX3_toldForm 24 = .ok (.aload_n 0, 1) := by decide +kernel
theorem dX3_toldForm_25 : decode cX3_toldForm 25 = .ok (.getfield 123, 3) := by decide +kernel
theorem dX3_toldForm_28 : decode cX3_toldForm 28 = .ok (.bipush 9, 2) := by decide +kernel
theorem dX3_toldForm_30 : decode cX3_toldForm 30 = .ok (.irem, 1) := by decide +kernel
theorem dX3_toldForm_31 : decode cX3_toldForm 31 = .ok (.goto 4, 3) := by decide +kernel
theorem dX3_toldForm_34 : decode cX3_toldForm 34 = .ok (.iconst 0, 1) := by decide +kernel
theorem dX3_toldForm_35 : decode cX3_toldForm 35 = .ok (.ireturn, 1) := by decide +kernel
set_option maxRecDepth 20000 in
theorem ggX3_toldSign_X3_isAsked : GoodIn wsX3_toldSign wsX3_isAsked := goodIn_r _ [8, 9, 10, 7, 11, 12, 13, 14, 15, 16, 17, 18, 19, 20, 21, 22, 23, 24, 25, 26, 27, 28, 29, 1, 30, 31, 32, 33, 34, 35, 36, 37, 38, 39, 40, 41, 42, 43, 44, 2, 45, 46, 47, 48, 49, 3, 50, 51, 52, 53, 54, 55, 56, 57, 58, 59, 60, 61, 62, 63, 64, 65, 66, 67, 68, 69, 70] (by decide +kernel) (by decide +kernel)
set_option maxRecDepth 20000 in
theorem gX3_toldSign_X3_isAsked : GoodIn wsX3_toldSign (wsV RX3 133 RX3 yX3_isAsked wsX3_isAsked) := goodIn_app (goodIn_of _ (by decide +kernel)) ggX3_toldSign_X3_isAsked
set_option maxRecDepth 20000 in
theorem ggX3_toldSign_X3_in : GoodIn wsX3_toldSign wsX3_in := goodIn_r _ [14] (by decide +kernel) (by decide +kernel)
set_option maxRecDepth 20000 in
theorem gX3_toldSign_X3_in : GoodIn wsX3_toldSign (va_wsS RX3 63 yX3_in wsX3_in) := goodIn_app (goodIn_of _ (by decide +kernel)) ggX3_toldSign_X3_in
set_option maxRecDepth 20000 in
theorem ggX3_toldSign_X3_goes : GoodIn wsX3_toldSign wsX3_goes := goodIn_r _ [24, 25, 50, 51, 52, 53, 54, 55, 56, 57, 58, 59, 60, 61, 62, 63, 64, 65, 66, 67, 68, 69, 70] (by decide +kernel) (by decide +kernel)
set_option maxRecDepth 20000 in
theorem gX3_toldSign_X3_goes : GoodIn wsX3_toldSign (wsV RX3 81 RX3 yX3_goes wsX3_goes) := goodIn_app (goodIn_of _ (by decide +kernel)) ggX3_toldSign_X3_goes
theorem dX3_toldSign_0 : decode cX3_toldSign 0 = .ok (.aload_n 0, 1) := by decide +kernel
theorem dX3_toldSign_1 : decode cX3_toldSign 1 = .ok (.iload_n 1, 1) := by decide +kernel
theorem dX3_toldSign_2 : decode cX3_toldSign 2 = .ok (.iload_n 2, 1) := by decide +kernel
theorem dX3_toldSign_3 : decode cX3_toldSign 3 = .ok (.iload_n 3, 1) := by decide +kernel
theorem dX3_toldSign_4 : decode cX3_toldSign 4 = .ok (.iload 4, 2) := by decide +kernel
theorem dX3_toldSign_6 : decode cX3_toldSign 6 = .ok (.invokevirtual 133, 3) := by decide +kernel
theorem dX3_toldSign_9 : decode cX3_toldSign 9 = .ok (.ifCond .ne 5, 3) := by decide +kernel
theorem dX3_toldSign_12 : decode cX3_toldSign 12 = .ok (.iconst 0, 1) := by decide +kernel
theorem dX3_toldSign_13 : decode cX3_toldSign 13 = .ok (.ireturn, 1) := by decide +kernel
theorem dX3_toldSign_14 : decode cX3_toldSign 14 = .ok (.aload_n 0, 1) := by decide +kernel
theorem dX3_toldSign_15 : decode cX3_toldSign 15 = .ok (.getfield 123, 3) := by decide +kernel
theorem dX3_toldSign_18 : decode cX3_toldSign 18 = .ok (.iconst (-1), 1) := by decide +kernel
theorem dX3_toldSign_19 : decode cX3_toldSign 19 = .ok (.if_icmp .eq 27, 3) := by decide +kernel
theorem dX3_toldSign_22 : decode cX3_toldSign 22 = .ok (.iload 5, 2) := by decide +kernel
theorem dX3_toldSign_24 : decode cX3_toldSign 24 = .ok (.iconst 0, 1) := by decide +kernel
theorem dX3_toldSign_25 : decode cX3_toldSign 25 = .ok (.aload_n 0, 1) := by decide +kernel
theorem dX3_toldSign_26 : decode cX3_toldSign 26 = .ok (.getfield 22, 3) := by decide +kernel
theorem dX3_toldSign_29 : decode cX3_toldSign 29 = .ok (.aload_n 0, 1) := by decide +kernel
theorem dX3_toldSign_30 : decode cX3_toldSign 30 = .ok (.getfield 123, 3) := by decide +kernel
theorem dX3_toldSign_33 : decode cX3_toldSign 33 = .ok (.iaload, 1) := by decide +kernel
theorem dX3_toldSign_34 : decode cX3_toldSign 34 = .ok (.iconst 1, 1) := by decide +kernel
theorem dX3_toldSign_35 : decode cX3_toldSign 35 = .ok (.isub, 1) := by decide +kernel
theorem dX3_toldSign_36 : decode cX3_toldSign 36 = .ok (.invokestatic 63, 3) := by decide +kernel
theorem dX3_toldSign_39 : decode cX3_toldSign 39 = .ok (.ifCond .eq 7, 3) := by decide +kernel
theorem dX3_toldSign_42 : decode cX3_toldSign 42 = .ok (.iconst 1, 1) := by decide +kernel
theorem dX3_toldSign_43 : decode cX3_toldSign 43 = .ok (.goto 4, 3) := by decide +kernel
theorem dX3_toldSign_46 : decode cX3_toldSign 46 = .ok (.iconst 0, 1) := by decide +kernel
theorem dX3_toldSign_47 : decode cX3_toldSign 47 = .ok (.istore 6, 2) := by decide +kernel
theorem dX3_toldSign_49 : decode cX3_toldSign 49 = .ok (.aload_n 0, 1) := by decide +kernel
theorem dX3_toldSign_50 : decode cX3_toldSign 50 = .ok (.iload 6, 2) := by decide +kernel
theorem dX3_toldSign_52 : decode cX3_toldSign 52 = .ok (.iconst 1, 1) := by decide +kernel
theorem dX3_toldSign_53 : decode cX3_toldSign 53 = .ok (.iconst 1, 1) := by decide +kernel
theorem dX3_toldSign_54 : decode cX3_toldSign 54 = .ok (.invokevirtual 81, 3) := by decide +kernel
theorem dX3_toldSign_57 : decode cX3_toldSign 57 = .ok (.ifCond .eq 21, 3) := by decide +kernel
theorem dX3_toldSign_60 : decode cX3_toldSign 60 = .ok (.aload_n 0, 1) := by decide +kernel
theorem dX3_toldSign_61 : decode cX3_toldSign 61 = .ok (.getfield 29, 3) := by decide +kernel
theorem dX3_toldSign_64 : decode cX3_toldSign 64 = .ok (.bipush 8, 2) := by decide +kernel
theorem dX3_toldSign_66 : decode cX3_toldSign 66 = .ok (.aload_n 0, 1) := by decide +kernel
theorem dX3_toldSign_67 : decode cX3_toldSign 67 = .ok (.getfield 123, 3) := by decide +kernel
theorem dX3_toldSign_70 : decode cX3_toldSign 70 = .ok (.imul, 1) := by decide +kernel
theorem dX3_toldSign_71 : decode cX3_toldSign 71 = .ok (.iload 5, 2) := by decide +kernel
theorem dX3_toldSign_73 : decode cX3_toldSign 73 = .ok (.iadd, 1) := by decide +kernel
theorem dX3_toldSign_74 : decode cX3_toldSign 74 = .ok (.iaload, 1) := by decide +kernel
theorem dX3_toldSign_75 : decode cX3_toldSign 75 = .ok (.goto 4, 3) := by decide +kernel
theorem dX3_toldSign_78 : decode cX3_toldSign 78 = .ok (.iconst 0, 1) := by decide +kernel
theorem dX3_toldSign_79 : decode cX3_toldSign 79 = .ok (.ireturn, 1) := by decide +kernel
theorem dX3_pairs_0 : decode cX3_pairs 0 = .ok (.aload_n 0, 1) := by decide +kernel
theorem dX3_pairs_1 : decode cX3_pairs 1 = .ok (.iconst 0, 1) := by decide +kernel
theorem dX3_pairs_2 : decode cX3_pairs 2 = .ok (.putfield 59, 3) := by decide +kernel
theorem dX3_pairs_5 : decode cX3_pairs 5 = .ok (.aload_n 0, 1) := by decide +kernel
theorem dX3_pairs_6 : decode cX3_pairs 6 = .ok (.getfield 88, 3) := by decide +kernel
theorem dX3_pairs_9 : decode cX3_pairs 9 = .ok (.ireturn, 1) := by decide +kernel
theorem dX3_distance_0 : decode cX3_distance 0 = .ok (.iconst 0, 1) := by decide +kernel
theorem dX3_distance_1 : decode cX3_distance 1 = .ok (.istore_n 3, 1) := by decide +kernel
theorem dX3_distance_2 : decode cX3_distance 2 = .ok (.iload_n 3, 1) := by decide +kernel
theorem dX3_distance_3 : decode cX3_distance 3 = .ok (.aload_n 0, 1) := by decide +kernel
theorem dX3_distance_4 : decode cX3_distance 4 = .ok (.getfield 22, 3) := by decide +kernel
theorem dX3_distance_7 : decode cX3_distance 7 = .ok (.iload_n 2, 1) := by decide +kernel
theorem dX3_distance_8 : decode cX3_distance 8 = .ok (.iaload, 1) := by decide +kernel
theorem dX3_distance_9 : decode cX3_distance 9 = .ok (.if_icmp .gt 16, 3) := by decide +kernel
theorem dX3_distance_12 : decode cX3_distance 12 = .ok (.aload_n 0, 1) := by decide +kernel
theorem dX3_distance_13 : decode cX3_distance 13 = .ok (.getfield 56, 3) := by decide +kernel
theorem dX3_distance_16 : decode cX3_distance 16 = .ok (.iload_n 3, 1) := by decide +kernel
theorem dX3_distance_17 : decode cX3_distance 17 = .ok (.iload_n 3, 1) := by decide +kernel
theorem dX3_distance_18 : decode cX3_distance 18 = .ok (.iastore, 1) := by decide +kernel
theorem dX3_distance_19 : decode cX3_distance 19 = .ok (.iinc 3 1, 3) := by decide +kernel
theorem dX3_distance_22 : decode cX3_distance 22 = .ok (.goto (-20), 3) := by decide +kernel
theorem dX3_distance_25 : decode cX3_distance 25 = .ok (.iconst 1, 1) := by decide +kernel
theorem dX3_distance_26 : decode cX3_distance 26 = .ok (.istore_n 3, 1) := by decide +kernel
theorem dX3_distance_27 : decode cX3_distance 27 = .ok (.iload_n 3, 1) := by decide +kernel
theorem dX3_distance_28 : decode cX3_distance 28 = .ok (.aload_n 0, 1) := by decide +kernel
theorem dX3_distance_29 : decode cX3_distance 29 = .ok (.getfield 41, 3) := by decide +kernel
theorem dX3_distance_32 : decode cX3_distance 32 = .ok (.iload_n 1, 1) := by decide +kernel
theorem dX3_distance_33 : decode cX3_distance 33 = .ok (.iaload, 1) := by decide +kernel
theorem dX3_distance_34 : decode cX3_distance 34 = .ok (.if_icmp .gt 186, 3) := by decide +kernel
theorem dX3_distance_37 : decode cX3_distance 37 = .ok (.iconst 0, 1) := by decide +kernel
theorem dX3_distance_38 : decode cX3_distance 38 = .ok (.istore 4, 2) := by decide +kernel
theorem dX3_distance_40 : decode cX3_distance 40 = .ok (.iload 4, 2) := by decide +kernel
theorem dX3_distance_42 : decode cX3_distance 42 = .ok (.aload_n 0, 1) := by decide +kernel
theorem dX3_distance_43 : decode cX3_distance 43 = .ok (.getfield 22, 3) := by decide +kernel
theorem dX3_distance_46 : decode cX3_distance 46 = .ok (.iload_n 2, 1) := by decide +kernel
theorem dX3_distance_47 : decode cX3_distance 47 = .ok (.iaload, 1) := by decide +kernel
theorem dX3_distance_48 : decode cX3_distance 48 = .ok (.if_icmp .gt 23, 3) := by decide +kernel
theorem dX3_distance_51 : decode cX3_distance 51 = .ok (.aload_n 0, 1) := by decide +kernel
theorem dX3_distance_52 : decode cX3_distance 52 = .ok (.getfield 53, 3) := by decide +kernel
theorem dX3_distance_55 : decode cX3_distance 55 = .ok (.iload 4, 2) := by decide +kernel
theorem dX3_distance_57 : decode cX3_distance 57 = .ok (.aload_n 0, 1) := by decide +kernel
theorem dX3_distance_58 : decode cX3_distance 58 = .ok (.getfield 56, 3) := by decide +kernel
theorem dX3_distance_61 : decode cX3_distance 61 = .ok (.iload 4, 2) := by decide +kernel
theorem dX3_distance_63 : decode cX3_distance 63 = .ok (.iaload, 1) := by decide +kernel
theorem dX3_distance_64 : decode cX3_distance 64 = .ok (.iastore, 1) := by decide +kernel
theorem dX3_distance_65 : decode cX3_distance 65 = .ok (.iinc 4 1, 3) := by decide +kernel
theorem dX3_distance_68 : decode cX3_distance 68 = .ok (.goto (-28), 3) := by decide +kernel
theorem dX3_distance_71 : decode cX3_distance 71 = .ok (.aload_n 0, 1) := by decide +kernel
theorem dX3_distance_72 : decode cX3_distance 72 = .ok (.getfield 56, 3) := by decide +kernel
theorem dX3_distance_75 : decode cX3_distance 75 = .ok (.iconst 0, 1) := by decide +kernel
theorem dX3_distance_76 : decode cX3_distance 76 = .ok (.iload_n 3, 1) := by decide +kernel
theorem dX3_distance_77 : decode cX3_distance 77 = .ok (.iastore, 1) := by decide +kernel
theorem dX3_distance_78 : decode cX3_distance 78 = .ok (.iconst 1, 1) := by decide +kernel
theorem dX3_distance_79 : decode cX3_distance 79 = .ok (.istore 4, 2) := by decide +kernel
theorem dX3_distance_81 : decode cX3_distance 81 = .ok (.iload 4, 2) := by decide +kernel
theorem dX3_distance_83 : decode cX3_distance 83 = .ok (.aload_n 0, 1) := by decide +kernel
theorem dX3_distance_84 : decode cX3_distance 84 = .ok (.getfield 22, 3) := by decide +kernel
theorem dX3_distance_87 : decode cX3_distance 87 = .ok (.iload_n 2, 1) := by decide +kernel
theorem dX3_distance_88 : decode cX3_distance 88 = .ok (.iaload, 1) := by decide +kernel
theorem dX3_distance_89 : decode cX3_distance 89 = .ok (.if_icmp .gt 125, 3) := by decide +kernel
theorem dX3_distance_92 : decode cX3_distance 92 = .ok (.aload_n 0, 1) := by decide +kernel
theorem dX3_distance_93 : decode cX3_distance 93 = .ok (.getfield 53, 3) := by decide +kernel
theorem dX3_distance_96 : decode cX3_distance 96 = .ok (.iload 4, 2) := by decide +kernel
theorem dX3_distance_98 : decode cX3_distance 98 = .ok (.iconst 1, 1) := by decide +kernel
theorem dX3_distance_99 : decode cX3_distance 99 = .ok (.isub, 1) := by decide +kernel
theorem dX3_distance_100 : decode cX3_distance 100 = .ok (.iaload, 1) := by decide +kernel
theorem dX3_distance_101 : decode cX3_distance 101 = .ok (.aload_n 0, 1) := by decide +kernel
theorem dX3_distance_102 : decode cX3_distance 102 = .ok (.getfield 29, 3) := by decide +kernel
theorem dX3_distance_105 : decode cX3_distance 105 = .ok (.bipush 8, 2) := by decide +kernel
theorem dX3_distance_107 : decode cX3_distance 107 = .ok (.iload_n 2, 1) := by decide +kernel
theorem dX3_distance_108 : decode cX3_distance 108 = .ok (.imul, 1) := by decide +kernel
theorem dX3_distance_109 : decode cX3_distance 109 = .ok (.iload 4, 2) := by decide +kernel
theorem dX3_distance_111 : decode cX3_distance 111 = .ok (.iadd, 1) := by decide +kernel
theorem dX3_distance_112 : decode cX3_distance 112 = .ok (.iconst 1, 1) := by decide +kernel
theorem dX3_distance_113 : decode cX3_distance 113 = .ok (.isub, 1) := by decide +kernel
theorem dX3_distance_114 : decode cX3_distance 114 = .ok (.iaload, 1) := by decide +kernel
theorem dX3_distance_115 : decode cX3_distance 115 = .ok (.aload_n 0, 1) := by decide +kernel
theorem dX3_distance_116 : decode cX3_distance 116 = .ok (.getfield 47, 3) := by decide +kernel
theorem dX3_distance_119 : decode cX3_distance 119 = .ok (.bipush 8, 2) := by decide +kernel
theorem dX3_distance_121 : decode cX3_distance 121 = .ok (.iload_n 1, 1) := by decide +kernel
theorem dX3_distance_122 : decode cX3_distance 122 = .ok (.imul, 1) := by decide +kernel
theorem dX3_distance_123 : decode cX3_distance 123 = .ok (.iload_n 3, 1) := by decide +kernel
theorem dX3_distance_124 : decode cX3_distance 124 = .ok (.iadd, 1) := by decide +kernel
theorem dX3_distance_125 : decode cX3_distance 125 = .ok (.iconst 1, 1) := by decide +kernel
theorem dX3_distance_126 : decode cX3_distance 126 = .ok (.isub, 1) := by decide +kernel
theorem dX3_distance_127 : decode cX3_distance 127 = .ok (.iaload, 1) := by decide +kernel
theorem dX3_distance_128 : decode cX3_distance 128 = .ok (.if_icmp .ne 7, 3) := by decide +kernel
theorem dX3_distance_131 : decode cX3_distance 131 = .ok (.iconst 0, 1) := by decide +kernel
theorem dX3_distance_132 : decode cX3_distance 132 = .ok (.goto 4, 3) := by decide +kernel
theorem dX3_distance_135 : decode cX3_distance 135 = .ok (.iconst 1, 1) := by decide +kernel
theorem dX3_distance_136 : decode cX3_distance 136 = .ok (.iadd, 1) := by decide +kernel
theorem dX3_distance_137 : decode cX3_distance 137 = .ok (.istore 5, 2) := by decide +kernel
theorem dX3_distance_139 : decode cX3_distance 139 = .ok (.aload_n 0, 1) := by decide +kernel
theorem dX3_distance_140 : decode cX3_distance 140 = .ok (.getfield 53, 3) := by decide +kernel
theorem dX3_distance_143 : decode cX3_distance 143 = .ok (.iload 4, 2) := by decide +kernel
theorem dX3_distance_145 : decode cX3_distance 145 = .ok (.iaload, 1) := by decide +kernel
theorem dX3_distance_146 : decode cX3_distance 146 = .ok (.iconst 1, 1) := by decide +kernel
theorem dX3_distance_147 : decode cX3_distance 147 = .ok (.iadd, 1) := by decide +kernel
theorem dX3_distance_148 : decode cX3_distance 148 = .ok (.iload 5, 2) := by decide +kernel
theorem dX3_distance_150 : decode cX3_distance 150 = .ok (.if_icmp .ge 15, 3) := by decide +kernel
theorem dX3_distance_153 : decode cX3_distance 153 = .ok (.aload_n 0, 1) := by decide +kernel
theorem dX3_distance_154 : decode cX3_distance 154 = .ok (.getfield 53, 3) := by decide +kernel
theorem dX3_distance_157 : decode cX3_distance 157 = .ok (.iload 4, 2) := by decide +kernel
theorem dX3_distance_159 : decode cX3_distance 159 = .ok (.iaload, 1) := by decide +kernel
theorem dX3_distance_160 : decode cX3_distance 160 = .ok (.iconst 1, 1) := by decide +kernel
theorem dX3_distance_161 : decode cX3_distance 161 = .ok (.iadd, 1) := by decide +kernel
theorem dX3_distance_162 : decode cX3_distance 162 = .ok (.goto 5, 3) := by decide +kernel
theorem dX3_distance_165 : decode cX3_distance 165 = .ok (.iload 5, 2) := by decide +kernel
theorem dX3_distance_167 : decode cX3_distance 167 = .ok (.istore 5, 2) := by decide +kernel
theorem dX3_distance_169 : decode cX3_distance 169 = .ok (.aload_n 0, 1) := by decide +kernel
theorem dX3_distance_170 : decode cX3_distance 170 = .ok (.getfield 56, 3) := by decide +kernel
theorem dX3_distance_173 : decode cX3_distance 173 = .ok (.iload 4, 2) := by decide +kernel
theorem dX3_distance_175 : decode cX3_distance 175 = .ok (.aload_n 0, 1) := by decide +kernel
theorem dX3_distance_176 : decode cX3_distance 176 = .ok (.getfield 56, 3) := by decide +kernel
theorem dX3_distance_179 : decode cX3_distance 179 = .ok (.iload 4, 2) := by decide +kernel
theorem dX3_distance_181 : decode cX3_distance 181 = .ok (.iconst 1, 1) := by decide +kernel
theorem dX3_distance_182 : decode cX3_distance 182 = .ok (.isub, 1) := by decide +kernel
theorem dX3_distance_183 : decode cX3_distance 183 = .ok (.iaload, 1) := by decide +kernel
theorem dX3_distance_184 : decode cX3_distance 184 = .ok (.iconst 1, 1) := by decide +kernel
theorem dX3_distance_185 : decode cX3_distance 185 = .ok (.iadd, 1) := by decide +kernel
theorem dX3_distance_186 : decode cX3_distance 186 = .ok (.iload 5, 2) := by decide +kernel
theorem dX3_distance_188 : decode cX3_distance 188 = .ok (.if_icmp .ge 17, 3) := by decide +kernel
theorem dX3_distance_191 : decode cX3_distance 191 = .ok (.aload_n 0, 1) := by decide +kernel
theorem dX3_distance_192 : decode cX3_distance 192 = .ok (.getfield 56, 3) := by decide +kernel
theorem dX3_distance_195 : decode cX3_distance 195 = .ok (.iload 4, 2) := by decide +kernel
theorem dX3_distance_197 : decode cX3_distance 197 = .ok (.iconst 1, 1) := by decide +kernel
theorem dX3_distance_198 : decode cX3_distance 198 = .ok (.isub, 1) := by decide +kernel
theorem dX3_distance_199 : decode cX3_distance 199 = .ok (.iaload, 1) := by decide +kernel
theorem dX3_distance_200 : decode cX3_distance 200 = .ok (.iconst 1, 1) := by decide +kernel
theorem dX3_distance_201 : decode cX3_distance 201 = .ok (.iadd, 1) := by decide +kernel
theorem dX3_distance_202 : decode cX3_distance 202 = .ok (.goto 5, 3) := by decide +kernel
theorem dX3_distance_205 : decode cX3_distance 205 = .ok (.iload 5, 2) := by decide +kernel
theorem dX3_distance_207 : decode cX3_distance 207 = .ok (.iastore, 1) := by decide +kernel
theorem dX3_distance_208 : decode cX3_distance 208 = .ok (.iinc 4 1, 3) := by decide +kernel
theorem dX3_distance_211 : decode cX3_distance 211 = .ok (.goto (-130), 3) := by decide +kernel
theorem dX3_distance_214 : decode cX3_distance 214 = .ok (.iinc 3 1, 3) := by decide +kernel
theorem dX3_distance_217 : decode cX3_distance 217 = .ok (.goto (-190), 3) := by decide +kernel
theorem dX3_distance_220 : decode cX3_distance 220 = .ok (.aload_n 0, 1) := by decide +kernel
theorem dX3_distance_221 : decode cX3_distance 221 = .ok (.getfield 56, 3) := by decide +kernel
theorem dX3_distance_224 : decode cX3_distance 224 = .ok (.aload_n 0, 1) := by decide +kernel
theorem dX3_distance_225 : decode cX3_distance 225 = .ok (.getfield 22, 3) := by decide +kernel
theorem dX3_distance_228 : decode cX3_distance 228 = .ok (.iload_n 2, 1) := by decide +kernel
theorem dX3_distance_229 : decode cX3_distance 229 = .ok (.iaload, 1) := by decide +kernel
theorem dX3_distance_230 : decode cX3_distance 230 = .ok (.iaload, 1) := by decide +kernel
theorem dX3_distance_231 : decode cX3_distance 231 = .ok (.ireturn, 1) := by decide +kernel
set_option maxRecDepth 20000 in
theorem ggX3_near_X3_at : GoodIn wsX3_near wsX3_at := goodIn_r _ [7] (by decide +kernel) (by decide +kernel)
set_option maxRecDepth 20000 in
theorem gX3_near_X3_at : GoodIn wsX3_near (va_wsS RX3 102 yX3_at wsX3_at) := goodIn_app (goodIn_of _ (by decide +kernel)) ggX3_near_X3_at
set_option maxRecDepth 20000 in
theorem ggX3_near_X3_distance : GoodIn wsX3_near wsX3_distance := goodIn_r _ [11, 2, 12, 13, 14, 15, 16, 17, 18, 19, 20, 21, 22, 23, 24, 25, 26, 27, 28, 29, 30, 31, 32, 33, 34, 35, 36, 37] (by decide +kernel) (by decide +kernel)
set_option maxRecDepth 20000 in
theorem gX3_near_X3_distance : GoodIn wsX3_near (wsV RX3 139 RX3 yX3_distance wsX3_distance) := goodIn_app (goodIn_of _ (by decide +kernel)) ggX3_near_X3_distance
theorem dX3_near_0 : decode cX3_near 0 = .ok (.iload_n 1, 1) := by decide +kernel
theorem dX3_near_1 : decode cX3_near 1 = .ok (.iconst 0, 1) := by decide +kernel
theorem dX3_near_2 : decode cX3_near 2 = .ok (.iload_n 3, 1) := by decide +kernel
theorem dX3_near_3 : decode cX3_near 3 = .ok (.iload 4, 2) := by decide +kernel
theorem dX3_near_5 : decode cX3_near 5 = .ok (.invokestatic 102, 3) := by decide +kernel
theorem dX3_near_8 : decode cX3_near 8 = .ok (.istore 5, 2) := by decide +kernel
theorem dX3_near_10 : decode cX3_near 10 = .ok (.iconst (-1), 1) := by decide +kernel
theorem dX3_near_11 : decode cX3_near 11 = .ok (.istore 6, 2) := by decide +kernel
theorem dX3_near_13 : decode cX3_near 13 = .ok (.iconst 0, 1) := by decide +kernel
theorem dX3_near_14 : decode cX3_near 14 = .ok (.istore 7, 2) := by decide +kernel
theorem dX3_near_16 : decode cX3_near 16 = .ok (.iload 7, 2) := by decide +kernel
theorem dX3_near_18 : decode cX3_near 18 = .ok (.aload_n 0, 1) := by decide +kernel
theorem dX3_near_19 : decode cX3_near 19 = .ok (.getfield 88, 3) := by decide +kernel
theorem dX3_near_22 : decode cX3_near 22 = .ok (.if_icmp .ge 96, 3) := by decide +kernel
theorem dX3_near_25 : decode cX3_near 25 = .ok (.aload_n 0, 1) := by decide +kernel
theorem dX3_near_26 : decode cX3_near 26 = .ok (.getfield 22, 3) := by decide +kernel
theorem dX3_near_29 : decode cX3_near 29 = .ok (.iload 5, 2) := by decide +kernel
theorem dX3_near_31 : decode cX3_near 31 = .ok (.iaload, 1) := by decide +kernel
theorem dX3_near_32 : decode cX3_near 32 = .ok (.ifCond .le 86, 3) := by decide +kernel
theorem dX3_near_35 : decode cX3_near 35 = .ok (.aload_n 0, 1) := by decide +kernel
theorem dX3_near_36 : decode cX3_near 36 = .ok (.getfield 38, 3) := by decide +kernel
theorem dX3_near_39 : decode cX3_near 39 = .ok (.iload 7, 2) := by decide +kernel
theorem dX3_near_41 : decode cX3_near 41 = .ok (.iaload, 1) := by decide +kernel
theorem dX3_near_42 : decode cX3_near 42 = .ok (.iload_n 2, 1) := by decide +kernel
theorem dX3_near_43 : decode cX3_near 43 = .ok (.if_icmp .ne 27, 3) := by decide +kernel
theorem dX3_near_46 : decode cX3_near 46 = .ok (.aload_n 0, 1) := by decide +kernel
theorem dX3_near_47 : decode cX3_near 47 = .ok (.iload 7, 2) := by decide +kernel
theorem dX3_near_49 : decode cX3_near 49 = .ok (.iload 5, 2) := by decide +kernel
theorem dX3_near_51 : decode cX3_near 51 = .ok (.invokevirtual 139, 3) := by decide +kernel
theorem dX3_near_54 : decode cX3_near 54 = .ok (.aload_n 0, 1) := by decide +kernel
theorem dX3_near_55 : decode cX3_near 55 = .ok (.getfield 22, 3) := by decide +kernel
theorem dX3_near_58 : decode cX3_near 58 = .ok (.iload 5, 2) := by decide +kernel
theorem dX3_near_60 : decode cX3_near 60 = .ok (.iaload, 1) := by decide +kernel
theorem dX3_near_61 : decode cX3_near 61 = .ok (.iconst 2, 1) := by decide +kernel
theorem dX3_near_62 : decode cX3_near 62 = .ok (.idiv, 1) := by decide +kernel
theorem dX3_near_63 : decode cX3_near 63 = .ok (.if_icmp .gt 7, 3) := by decide +kernel
theorem dX3_near_66 : decode cX3_near 66 = .ok (.iconst 1, 1) := by decide +kernel
theorem dX3_near_67 : decode cX3_near 67 = .ok (.goto 4, 3) := by decide +kernel
theorem dX3_near_70 : decode cX3_near 70 = .ok (.iconst 0, 1) := by decide +kernel
theorem dX3_near_71 : decode cX3_near 71 = .ok (.istore 8, 2) := by decide +kernel
theorem dX3_near_73 : decode cX3_near 73 = .ok (.iload 8, 2) := by decide +kernel
theorem dX3_near_75 : decode cX3_near 75 = .ok (.ifCond .eq 33, 3) := by decide +kernel
theorem dX3_near_78 : decode cX3_near 78 = .ok (.iload 6, 2) := by decide +kernel
theorem dX3_near_80 : decode cX3_near 80 = .ok (.iconst (-1), 1) := by decide +kernel
theorem dX3_near_81 : decode cX3_near 81 = .ok (.if_icmp .eq 22, 3) := by decide +kernel
theorem dX3_near_84 : decode cX3_near 84 = .ok (.aload_n 0, 1) := by decide +kernel
theorem dX3_near_85 : decode cX3_near 85 = .ok (.iload 7, 2) := by decide +kernel
theorem dX3_near_87 : decode cX3_near 87 = .ok (.iload 5, 2) := by decide +kernel
theorem dX3_near_89 : decode cX3_near 89 = .ok (.invokevirtual 139, 3) := by decide +kernel
theorem dX3_near_92 : decode cX3_near 92 = .ok (.aload_n 0, 1) := by decide +kernel
theorem dX3_near_93 : decode cX3_near 93 = .ok (.iload 6, 2) := by decide +kernel
theorem dX3_near_95 : decode cX3_near 95 = .ok (.iload 5, 2) := by decide +kernel
theorem dX3_near_97 : decode cX3_near 97 = .ok (.invokevirtual 139, 3) := by decide +kernel
theorem dX3_near_100 : decode cX3_near 100 = .ok (.if_icmp .gt 8, 3) := by decide +kernel
theorem dX3_near_103 : decode cX3_near 103 = .ok (.iload 7, 2) := by decide +kernel
theorem dX3_near_105 : decode cX3_near 105 = .ok (.goto 5, 3) := by decide +kernel
theorem dX3_near_108 : decode cX3_near 108 = .ok (.iload 6, 2) := by decide +kernel
theorem dX3_near_110 : decode cX3_near 110 = .ok (.istore 6, 2) := by decide +kernel
theorem dX3_near_112 : decode cX3_near 112 = .ok (.iinc 7 1, 3) := by decide +kernel
theorem dX3_near_115 : decode cX3_near 115 = .ok (.goto (-99), 3) := by decide +kernel
theorem dX3_near_118 : decode cX3_near 118 = .ok (.iload 6, 2) := by decide +kernel
theorem dX3_near_120 : decode cX3_near 120 = .ok (.ireturn, 1) := by decide +kernel
set_option maxRecDepth 20000 in
theorem ggX3_nearDistance_X3_isForm : GoodIn wsX3_nearDistance wsX3_isForm := goodIn_r _ [4, 5, 6, 3, 7, 8, 9, 10, 11, 12, 13, 14, 15, 16] (by decide +kernel) (by decide +kernel)
set_option maxRecDepth 20000 in
theorem gX3_nearDistance_X3_isForm : GoodIn wsX3_nearDistance (va_wsS RX3 98 yX3_isForm wsX3_isForm) := goodIn_app (goodIn_of _ (by decide +kernel)) ggX3_nearDistance_X3_isForm
set_option maxRecDepth 20000 in
theorem ggX3_nearDistance_X3_goes : GoodIn wsX3_nearDistance wsX3_goes := goodIn_r _ [20, 21, 41, 42, 43, 44, 45, 46, 47, 48, 49, 50, 51, 52, 53, 54, 55, 56, 57, 58, 59, 60, 61] (by decide +kernel) (by decide +kernel)
set_option maxRecDepth 20000 in
theorem gX3_nearDistance_X3_goes : GoodIn wsX3_nearDistance (wsV RX3 81 RX3 yX3_goes wsX3_goes) := goodIn_app (goodIn_of _ (by decide +kernel)) ggX3_nearDistance_X3_goes
set_option maxRecDepth 20000 in
theorem ggX3_nearDistance_X3_near : GoodIn wsX3_nearDistance wsX3_near := goodIn_r _ [25, 26, 27, 28, 29, 30, 3, 31, 32, 33, 34, 35, 36, 37, 38, 39, 40, 41, 42, 43, 44, 45, 46, 47, 48, 49, 50, 51, 52, 53, 54, 55, 56, 57, 58, 59, 60, 61] (by decide +kernel) (by decide +kernel)
set_option maxRecDepth 20000 in
theorem gX3_nearDistance_X3_near : GoodIn wsX3_nearDistance (wsV RX3 142 RX3 yX3_near wsX3_near) := goodIn_app (goodIn_of _ (by decide +kernel)) ggX3_nearDistance_X3_near
set_option maxRecDepth 20000 in
theorem ggX3_nearDistance_X3_at : GoodIn wsX3_nearDistance wsX3_at := goodIn_r _ [31] (by decide +kernel) (by decide +kernel)
set_option maxRecDepth 20000 in
theorem gX3_nearDistance_X3_at : GoodIn wsX3_nearDistance (va_wsS RX3 102 yX3_at wsX3_at) := goodIn_app (goodIn_of _ (by decide +kernel)) ggX3_nearDistance_X3_at
set_option maxRecDepth 20000 in
theorem ggX3_nearDistance_X3_distance : GoodIn wsX3_nearDistance wsX3_distance := goodIn_r _ [35, 27, 36, 37, 38, 39, 40, 41, 42, 43, 44, 45, 46, 47, 48, 49, 50, 51, 52, 53, 54, 55, 56, 57, 58, 59, 60, 61] (by decide +kernel) (by decide +kernel)
set_option maxRecDepth 20000 in
theorem gX3_nearDistance_X3_distance : GoodIn wsX3_nearDistance (wsV RX3 139 RX3 yX3_distance wsX3_distance) := goodIn_app (goodIn_of _ (by decide +kernel)) ggX3_nearDistance_X3_distance
theorem dX3_nearDistance_0 : decode cX3_nearDistance 0 = .ok (.aload_n 0, 1) := by decide +kernel
theorem dX3_nearDistance_1 : decode cX3_nearDistance 1 = .ok (.iload_n 1, 1) := by decide +kernel
theorem dX3_nearDistance_2 : decode cX3_nearDistance 2 = .ok (.iload_n 2, 1) := by decide +kernel
theorem dX3_nearDistance_3 : decode cX3_nearDistance 3 = .ok (.iload_n 3, 1) := by decide +kernel
theorem dX3_nearDistance_4 : decode cX3_nearDistance 4 = .ok (.iload 4, 2) := by decide +kernel
theorem dX3_nearDistance_6 : decode cX3_nearDistance 6 = .ok (.invokestatic 98, 3) := by decide +kernel
theorem dX3_nearDistance_9 : decode cX3_nearDistance 9 = .ok (.iconst 1, 1) := by decide +kernel
theorem dX3_nearDistance_10 : decode cX3_nearDistance 10 = .ok (.iconst 1, 1) := by decide +kernel
theorem dX3_nearDistance_11 : decode cX3_nearDistance 11 = .ok (.invokevirtual 81, 3) := by decide +kernel
theorem dX3_nearDistance_14 : decode cX3_nearDistance 14 = .ok (.ifCond .ne 5, 3) := by decide +kernel
theorem dX3_nearDistance_17 : decode cX3_nearDistance 17 = .ok (.iconst 0, 1) := by decide +kernel
theorem dX3_nearDistance_18 : decode cX3_nearDistance 18 = .ok (.ireturn, 1) := by decide +kernel
theorem dX3_nearDistance_19 : decode cX3_nearDistance 19 = .ok (.aload_n 0, 1) := by decide +kernel
theorem dX3_nearDistance_20 : decode cX3_nearDistance 20 = .ok (.iload_n 1, 1) := by decide +kernel
theorem dX3_nearDistance_21 : decode cX3_nearDistance 21 = .ok (.iload_n 2, 1) := by decide +kernel
theorem dX3_nearDistance_22 : decode cX3_nearDistance 22 = .ok (.iload_n 3, 1) := by decide +kernel
theorem dX3_nearDistance_23 : decode cX3_nearDistance 23 = .ok (.iload 4, 2) := by decide +kernel
theorem dX3_nearDistance_25 : decode cX3_nearDistance 25 = .ok (.invokevirtual 142, 3) := by decide +kernel
theorem dX3_nearDistance_28 : decode cX3_nearDistance 28 = .ok (.istore 5, 2) := by decide +kernel
theorem dX3_nearDistance_30 : decode cX3_nearDistance 30 = .ok (.iload 5, 2) := by decide +kernel
theorem dX3_nearDistance_32 : decode cX3_nearDistance 32 = .ok (.iconst (-1), 1) := by decide +kernel
theorem dX3_nearDistance_33 : decode cX3_nearDistance 33 = .ok (.if_icmp .ne 7, 3) := by decide +kernel
theorem dX3_nearDistance_36 : decode cX3_nearDistance 36 = .ok (.iconst (-1), 1) := by decide +kernel
theorem dX3_nearDistance_37 : decode cX3_nearDistance 37 = .ok (.goto 17, 3) := by decide +kernel
theorem dX3_nearDistance_40 : decode cX3_nearDistance 40 = .ok (.aload_n 0, 1) := by decide +kernel
theorem dX3_nearDistance_41 : decode cX3_nearDistance 41 = .ok (.iload 5, 2) := by decide +kernel
theorem dX3_nearDistance_43 : decode cX3_nearDistance 43 = .ok (.iload_n 1, 1) := by decide +kernel
theorem dX3_nearDistance_44 : decode cX3_nearDistance 44 = .ok (.iconst 0, 1) := by decide +kernel
theorem dX3_nearDistance_45 : decode cX3_nearDistance 45 = .ok (.iload_n 3, 1) := by decide +kernel
theorem dX3_nearDistance_46 : decode cX3_nearDistance 46 = .ok (.iload 4, 2) := by decide +kernel
theorem dX3_nearDistance_48 : decode cX3_nearDistance 48 = .ok (.invokestatic 102, 3) := by decide +kernel
theorem dX3_nearDistance_51 : decode cX3_nearDistance 51 = .ok (.invokevirtual 139, 3) := by decide +kernel
theorem dX3_nearDistance_54 : decode cX3_nearDistance 54 = .ok (.ireturn, 1) := by decide +kernel
set_option maxRecDepth 20000 in
theorem ggX3_nearSign_X3_isForm : GoodIn wsX3_nearSign wsX3_isForm := goodIn_r _ [6, 7, 8, 5, 9, 10, 11, 12, 13, 14, 15, 16, 17, 18] (by decide +kernel) (by decide +kernel)
set_option maxRecDepth 20000 in
theorem gX3_nearSign_X3_isForm : GoodIn wsX3_nearSign (va_wsS RX3 98 yX3_isForm wsX3_isForm) := goodIn_app (goodIn_of _ (by decide +kernel)) ggX3_nearSign_X3_isForm
set_option maxRecDepth 20000 in
theorem ggX3_nearSign_X3_goes : GoodIn wsX3_nearSign wsX3_goes := goodIn_r _ [22, 23, 43, 44, 45, 46, 47, 48, 49, 50, 51, 52, 53, 54, 55, 56, 57, 58, 59, 60, 61, 62, 63] (by decide +kernel) (by decide +kernel)
set_option maxRecDepth 20000 in
theorem gX3_nearSign_X3_goes : GoodIn wsX3_nearSign (wsV RX3 81 RX3 yX3_goes wsX3_goes) := goodIn_app (goodIn_of _ (by decide +kernel)) ggX3_nearSign_X3_goes
end
section
set_option maxRecDepth 20000 in
theorem ggX3_nearSign_X3_near : GoodIn wsX3_nearSign wsX3_near := goodIn_r _ [27, 28, 29, 30, 31, 32, 5, 33, 34, 35, 36, 37, 38, 39, 40, 41, 42, 43, 44, 45, 46, 47, 48, 49, 50, 51, 52, 53, 54, 55, 56, 57, 58, 59, 60, 61, 62, 63] (by decide +kernel) (by decide +kernel)
set_option maxRecDepth 20000 in
theorem gX3_nearSign_X3_near : GoodIn wsX3_nearSign (wsV RX3 142 RX3 yX3_near wsX3_near) := goodIn_app (goodIn_of _ (by decide +kernel)) ggX3_nearSign_X3_near
theorem dX3_nearSign_0 : decode cX3_nearSign 0 = .ok (.aload_n 0, 1) := by decide +kernel
theorem dX3_nearSign_1 : decode cX3_nearSign 1 = .ok (.iload_n 1, 1) := by decide +kernel
theorem dX3_nearSign_2 : decode cX3_nearSign 2 = .ok (.iload_n 2, 1) := by decide +kernel
theorem dX3_nearSign_3 : decode cX3_nearSign 3 = .ok (.iload_n 3, 1) := by decide +kernel
theorem dX3_nearSign_4 : decode cX3_nearSign 4 = .ok (.iload 4, 2) := by decide +kernel
theorem dX3_nearSign_6 : decode cX3_nearSign 6 = .ok (.invokestatic 98, 3) := by decide +kernel
theorem dX3_nearSign_9 : decode cX3_nearSign 9 = .ok (.ifCond .eq 12, 3) := by decide +kernel
theorem dX3_nearSign_12 : decode cX3_nearSign 12 = .ok (.iload 5, 2) := by decide +kernel
theorem dX3_nearSign_14 : decode cX3_nearSign 14 = .ok (.ifCond .lt 7, 3) := by decide +kernel
theorem dX3_nearSign_17 : decode cX3_nearSign 17 = .ok (.iconst 1, 1) := by decide +kernel
theorem dX3_nearSign_18 : decode cX3_nearSign 18 = .ok (.goto 4, 3) := by decide +kernel
theorem dX3_nearSign_21 : decode cX3_nearSign 21 = .ok (.iconst 0, 1) := by decide +kernel
theorem dX3_nearSign_22 : decode cX3_nearSign 22 = .ok (.iconst 1, 1) := by decide +kernel
theorem dX3_nearSign_23 : decode cX3_nearSign 23 = .ok (.iconst 1, 1) := by decide +kernel
theorem dX3_nearSign_24 : decode cX3_nearSign 24 = .ok (.invokevirtual 81, 3) := by decide +kernel
theorem dX3_nearSign_27 : decode cX3_nearSign 27 = .ok (.ifCond .ne 5, 3) := by decide +kernel
theorem dX3_nearSign_30 : decode cX3_nearSign 30 = .ok (.iconst 0, 1) := by decide +kernel
theorem dX3_nearSign_31 : decode cX3_nearSign 31 = .ok (.ireturn, 1) := by decide +kernel
theorem dX3_nearSign_32 : decode cX3_nearSign 32 = .ok (.aload_n 0, 1) := by decide +kernel
theorem dX3_nearSign_33 : decode cX3_nearSign 33 = .ok (.iload_n 1, 1) := by decide +kernel
theorem dX3_nearSign_34 : decode cX3_nearSign 34 = .ok (.iload_n 2, 1) := by decide +kernel
theorem dX3_nearSign_35 : decode cX3_nearSign 35 = .ok (.iload_n 3, 1) := by decide +kernel
theorem dX3_nearSign_36 : decode cX3_nearSign 36 = .ok (.iload 4, 2) := by decide +kernel
theorem dX3_nearSign_38 : decode cX3_nearSign 38 = .ok (.invokevirtual 142, 3) := by decide +kernel
theorem dX3_nearSign_41 : decode cX3_nearSign 41 = .ok (.istore 6, 2) := by decide +kernel
theorem dX3_nearSign_43 : decode cX3_nearSign 43 = .ok (.iload 6, 2) := by decide +kernel
theorem dX3_nearSign_45 : decode cX3_nearSign 45 = .ok (.iconst (-1), 1) := by decide +kernel
theorem dX3_nearSign_46 : decode cX3_nearSign 46 = .ok (.if_icmp .eq 15, 3) := by decide +kernel
theorem dX3_nearSign_49 : decode cX3_nearSign 49 = .ok (.iload 5, 2) := by decide +kernel
theorem dX3_nearSign_51 : decode cX3_nearSign 51 = .ok (.aload_n 0, 1) := by decide +kernel
theorem dX3_nearSign_52 : decode cX3_nearSign 52 = .ok (.getfield 44, 3) := by decide +kernel
theorem dX3_nearSign_55 : decode cX3_nearSign 55 = .ok (.iload 6, 2) := by decide +kernel
theorem dX3_nearSign_57 : decode cX3_nearSign 57 = .ok (.iaload, 1) := by decide +kernel
theorem dX3_nearSign_58 : decode cX3_nearSign 58 = .ok (.if_icmp .lt 7, 3) := by decide +kernel
theorem dX3_nearSign_61 : decode cX3_nearSign 61 = .ok (.iconst 0, 1) := by decide +kernel
theorem dX3_nearSign_62 : decode cX3_nearSign 62 = .ok (.goto 16, 3) := by decide +kernel
theorem dX3_nearSign_65 : decode cX3_nearSign 65 = .ok (.aload_n 0, 1) := by decide +kernel
theorem dX3_nearSign_66 : decode cX3_nearSign 66 = .ok (.getfield 50, 3) := by decide +kernel
theorem dX3_nearSign_69 : decode cX3_nearSign 69 = .ok (.bipush 8, 2) := by decide +kernel
theorem dX3_nearSign_71 : decode cX3_nearSign 71 = .ok (.iload 6, 2) := by decide +kernel
theorem dX3_nearSign_73 : decode cX3_nearSign 73 = .ok (.imul, 1) := by decide +kernel
theorem dX3_nearSign_74 : decode cX3_nearSign 74 = .ok (.iload 5, 2) := by decide +kernel
theorem dX3_nearSign_76 : decode cX3_nearSign 76 = .ok (.iadd, 1) := by decide +kernel
theorem dX3_nearSign_77 : decode cX3_nearSign 77 = .ok (.iaload, 1) := by decide +kernel
theorem dX3_nearSign_78 : decode cX3_nearSign 78 = .ok (.ireturn, 1) := by decide +kernel
theorem dJ9_max_7cf53_0 : decode cJ9_max_7cf53 0 = .ok (.iload_n 0, 1) := by decide +kernel
theorem dJ9_max_7cf53_1 : decode cJ9_max_7cf53 1 = .ok (.iload_n 1, 1) := by decide +kernel
theorem dJ9_max_7cf53_2 : decode cJ9_max_7cf53 2 = .ok (.if_icmp .lt 7, 3) := by decide +kernel
theorem dJ9_max_7cf53_5 : decode cJ9_max_7cf53 5 = .ok (.iload_n 0, 1) := by decide +kernel
theorem dJ9_max_7cf53_6 : decode cJ9_max_7cf53 6 = .ok (.goto 4, 3) := by decide +kernel
theorem dJ9_max_7cf53_9 : decode cJ9_max_7cf53 9 = .ok (.iload_n 1, 1) := by decide +kernel
theorem dJ9_max_7cf53_10 : decode cJ9_max_7cf53 10 = .ok (.ireturn, 1) := by decide +kernel
theorem dJ9_min_7cf53_0 : decode cJ9_min_7cf53 0 = .ok (.iload_n 0, 1) := by decide +kernel
theorem dJ9_min_7cf53_1 : decode cJ9_min_7cf53 1 = .ok (.iload_n 1, 1) := by decide +kernel
theorem dJ9_min_7cf53_2 : decode cJ9_min_7cf53 2 = .ok (.if_icmp .gt 7, 3) := by decide +kernel
theorem dJ9_min_7cf53_5 : decode cJ9_min_7cf53 5 = .ok (.iload_n 0, 1) := by decide +kernel
theorem dJ9_min_7cf53_6 : decode cJ9_min_7cf53 6 = .ok (.goto 4, 3) := by decide +kernel
theorem dJ9_min_7cf53_9 : decode cJ9_min_7cf53 9 = .ok (.iload_n 1, 1) := by decide +kernel
theorem dJ9_min_7cf53_10 : decode cJ9_min_7cf53 10 = .ok (.ireturn, 1) := by decide +kernel
theorem dJxa1e45_init_da8c8_0 : decode cJxa1e45_init_da8c8 0 = .ok (.aload_n 0, 1) := by decide +kernel
theorem dJxa1e45_init_da8c8_1 : decode cJxa1e45_init_da8c8 1 = .ok (.invokespecial 1, 3) := by decide +kernel
theorem dJxa1e45_init_da8c8_4 : decode cJxa1e45_init_da8c8 4 = .ok (.return_, 1) := by decide +kernel
set_option maxRecDepth 20000 in
theorem ggJxc12de_init_da8c8_Jxa1e45_init_da8c8 : GoodIn wsJxc12de_init_da8c8 wsJxa1e45_init_da8c8 := goodIn_r _ [5, 6, 7, 8] (by decide +kernel) (by decide +kernel)
set_option maxRecDepth 20000 in
theorem gJxc12de_init_da8c8_Jxa1e45_init_da8c8 : GoodIn wsJxc12de_init_da8c8 (wsJxa1e45_init_da8c8) := ggJxc12de_init_da8c8_Jxa1e45_init_da8c8
theorem dJxc12de_init_da8c8_0 : decode cJxc12de_init_da8c8 0 = .ok (.aload_n 0, 1) := by decide +kernel
theorem dJxc12de_init_da8c8_1 : decode cJxc12de_init_da8c8 1 = .ok (.invokespecial 1, 3) := by decide +kernel
theorem dJxc12de_init_da8c8_4 : decode cJxc12de_init_da8c8 4 = .ok (.aload_n 0, 1) := by decide +kernel
theorem dJxc12de_init_da8c8_5 : decode cJxc12de_init_da8c8 5 = .ok (.iconst 0, 1) := by decide +kernel
theorem dJxc12de_init_da8c8_6 : decode cJxc12de_init_da8c8 6 = .ok (.putfield 7, 3) := by decide +kernel
theorem dJxc12de_init_da8c8_9 : decode cJxc12de_init_da8c8 9 = .ok (.return_, 1) := by decide +kernel
set_option maxRecDepth 20000 in
theorem ggJx4a65c_init_da8c8_Jxc12de_init_da8c8 : GoodIn wsJx4a65c_init_da8c8 wsJxc12de_init_da8c8 := goodIn_r _ [6, 7, 8, 9, 10, 11, 12, 13, 14, 15, 16, 17] (by decide +kernel) (by decide +kernel)
set_option maxRecDepth 20000 in
theorem gJx4a65c_init_da8c8_Jxc12de_init_da8c8 : GoodIn wsJx4a65c_init_da8c8 (wsJxc12de_init_da8c8) := ggJx4a65c_init_da8c8_Jxc12de_init_da8c8
theorem dJx4a65c_init_da8c8_0 : decode cJx4a65c_init_da8c8 0 = .ok (.aload_n 0, 1) := by decide +kernel
theorem dJx4a65c_init_da8c8_1 : decode cJx4a65c_init_da8c8 1 = .ok (.invokespecial 1, 3) := by decide +kernel
theorem dJx4a65c_init_da8c8_4 : decode cJx4a65c_init_da8c8 4 = .ok (.aload_n 0, 1) := by decide +kernel
theorem dJx4a65c_init_da8c8_5 : decode cJx4a65c_init_da8c8 5 = .ok (.getstatic 39, 3) := by decide +kernel
theorem dJx4a65c_init_da8c8_8 : decode cJx4a65c_init_da8c8 8 = .ok (.putfield 9, 3) := by decide +kernel
theorem dJx4a65c_init_da8c8_11 : decode cJx4a65c_init_da8c8 11 = .ok (.return_, 1) := by decide +kernel
set_option maxRecDepth 20000 in
theorem ggJx4a65c_grow_92f84_J8_newLength_cabcc : GoodIn wsJx4a65c_grow_92f84 wsJ8_newLength_cabcc := goodIn_r _ [11, 12, 4, 5, 6, 13, 14, 15, 10, 16] (by decide +kernel) (by decide +kernel)
set_option maxRecDepth 20000 in
theorem gJx4a65c_grow_92f84_J8_newLength_cabcc : GoodIn wsJx4a65c_grow_92f84 (va_wsS RJx4a65c 73 yJ8_newLength_cabcc wsJ8_newLength_cabcc) := goodIn_app (goodIn_of _ (by decide +kernel)) ggJx4a65c_grow_92f84_J8_newLength_cabcc
set_option maxRecDepth 20000 in
theorem ggJx4a65c_grow_92f84_J7_copyOf_1904c : GoodIn wsJx4a65c_grow_92f84 wsJ7_copyOf_1904c := goodIn_r _ [20, 21, 22, 23, 24, 25, 26, 19, 27, 28, 29, 30, 31, 5, 32, 33, 34, 35, 36] (by decide +kernel) (by decide +kernel)
set_option maxRecDepth 20000 in
theorem gJx4a65c_grow_92f84_J7_copyOf_1904c : GoodIn wsJx4a65c_grow_92f84 (va_wsS RJx4a65c 66 yJ7_copyOf_1904c wsJ7_copyOf_1904c) := goodIn_app (goodIn_of _ (by decide +kernel)) ggJx4a65c_grow_92f84_J7_copyOf_1904c
theorem dJx4a65c_grow_92f84_0 : decode cJx4a65c_grow_92f84 0 = .ok (.aload_n 0, 1) := by decide +kernel
theorem dJx4a65c_grow_92f84_1 : decode cJx4a65c_grow_92f84 1 = .ok (.getfield 9, 3) := by decide +kernel
theorem dJx4a65c_grow_92f84_4 : decode cJx4a65c_grow_92f84 4 = .ok (.arraylength, 1) := by decide +kernel
theorem dJx4a65c_grow_92f84_5 : decode cJx4a65c_grow_92f84 5 = .ok (.istore_n 2, 1) := by decide +kernel
theorem dJx4a65c_grow_92f84_6 : decode cJx4a65c_grow_92f84 6 = .ok (.iload_n 2, 1) := by decide +kernel
theorem dJx4a65c_grow_92f84_7 : decode cJx4a65c_grow_92f84 7 = .ok (.ifCond .gt 13, 3) := by decide +kernel
theorem dJx4a65c_grow_92f84_10 : decode cJx4a65c_grow_92f84 10 = .ok (.aload_n 0, 1) := by decide +kernel
theorem dJx4a65c_grow_92f84_11 : decode cJx4a65c_grow_92f84 11 = .ok (.getfield 9, 3) := by decide +kernel
theorem dJx4a65c_grow_92f84_14 : decode cJx4a65c_grow_92f84 14 = .ok (.getstatic 39, 3) := by decide +kernel
theorem dJx4a65c_grow_92f84_17 : decode cJx4a65c_grow_92f84 17 = .ok (.if_acmp .eq 28, 3) := by decide +kernel
theorem dJx4a65c_grow_92f84_20 : decode cJx4a65c_grow_92f84 20 = .ok (.iload_n 2, 1) := by decide +kernel
theorem dJx4a65c_grow_92f84_21 : decode cJx4a65c_grow_92f84 21 = .ok (.iload_n 1, 1) := by decide +kernel
theorem dJx4a65c_grow_92f84_22 : decode cJx4a65c_grow_92f84 22 = .ok (.iload_n 2, 1) := by decide +kernel
theorem dJx4a65c_grow_92f84_23 : decode cJx4a65c_grow_92f84 23 = .ok (.isub, 1) := by decide +kernel
theorem dJx4a65c_grow_92f84_24 : decode cJx4a65c_grow_92f84 24 = .ok (.iload_n 2, 1) := by decide +kernel
theorem dJx4a65c_grow_92f84_25 : decode cJx4a65c_grow_92f84 25 = .ok (.iconst 1, 1) := by decide +kernel
theorem dJx4a65c_grow_92f84_26 : decode cJx4a65c_grow_92f84 26 = .ok (.ishr, 1) := by decide +kernel
theorem dJx4a65c_grow_92f84_27 : decode cJx4a65c_grow_92f84 27 = .ok (.invokestatic 73, 3) := by decide +kernel
theorem dJx4a65c_grow_92f84_30 : decode cJx4a65c_grow_92f84 30 = .ok (.istore_n 3, 1) := by decide +kernel
theorem dJx4a65c_grow_92f84_31 : decode cJx4a65c_grow_92f84 31 = .ok (.aload_n 0, 1) := by decide +kernel
theorem dJx4a65c_grow_92f84_32 : decode cJx4a65c_grow_92f84 32 = .ok (.aload_n 0, 1) := by decide +kernel
theorem dJx4a65c_grow_92f84_33 : decode cJx4a65c_grow_92f84 33 = .ok (.getfield 9, 3) := by decide +kernel
theorem dJx4a65c_grow_92f84_36 : decode cJx4a65c_grow_92f84 36 = .ok (.iload_n 3, 1) := by decide +kernel
theorem dJx4a65c_grow_92f84_37 : decode cJx4a65c_grow_92f84 37 = .ok (.invokestatic 66, 3) := by decide +kernel
theorem dJx4a65c_grow_92f84_40 : decode cJx4a65c_grow_92f84 40 = .ok (.dup_x1, 1) := by decide +kernel
theorem dJx4a65c_grow_92f84_41 : decode cJx4a65c_grow_92f84 41 = .ok (.putfield 9, 3) := by decide +kernel
theorem dJx4a65c_grow_92f84_44 : decode cJx4a65c_grow_92f84 44 = .ok (.areturn, 1) := by decide +kernel
theorem dJx4a65c_grow_92f84_45 : decode cJx4a65c_grow_92f84 45 = .ok (.aload_n 0, 1) := by decide +kernel
theorem dJx4a65c_grow_92f84_46 : decode cJx4a65c_grow_92f84 46 = .ok (.bipush 10, 2) := by decide +kernel
theorem dJx4a65c_grow_92f84_48 : decode cJx4a65c_grow_92f84 48 = .ok (.iload_n 1, 1) := by decide +kernel
theorem dJx4a65c_grow_92f84_49 : decode cJx4a65c_grow_92f84 49 = .ok (.invokestatic 79, 3) := by decide +kernel
theorem dJx4a65c_grow_92f84_52 : decode cJx4a65c_grow_92f84 52 = .ok (.anewarray 7, 3) := by decide +kernel
theorem dJx4a65c_grow_92f84_55 : decode cJx4a65c_grow_92f84 55 = .ok (.dup_x1, 1) := by decide +kernel
theorem dJx4a65c_grow_92f84_56 : decode cJx4a65c_grow_92f84 56 = .ok (.putfield 9, 3) := by decide +kernel
theorem dJx4a65c_grow_92f84_59 : decode cJx4a65c_grow_92f84 59 = .ok (.areturn, 1) := by decide +kernel
set_option maxRecDepth 20000 in
theorem ggJx4a65c_grow_d5877_Jx4a65c_grow_92f84 : GoodIn wsJx4a65c_grow_d5877 wsJx4a65c_grow_92f84 := goodIn_r _ [6, 7, 8, 9, 10, 11, 12, 13, 14, 15, 16, 17, 18, 19, 20, 21, 22, 23, 24, 25, 26, 27, 28, 29, 30, 31, 32, 33, 34, 35, 36, 37, 38, 39, 40, 41, 42, 43, 44, 45] (by decide +kernel) (by decide +kernel)
set_option maxRecDepth 20000 in
theorem gJx4a65c_grow_d5877_Jx4a65c_grow_92f84 : GoodIn wsJx4a65c_grow_d5877 (wsV RJx4a65c 69 RJx4a65c yJx4a65c_grow_92f84 wsJx4a65c_grow_92f84) := goodIn_app (goodIn_of _ (by decide +kernel)) ggJx4a65c_grow_d5877_Jx4a65c_grow_92f84
theorem dJx4a65c_grow_d5877_0 : decode cJx4a65c_grow_d5877 0 = .ok (.aload_n 0, 1) := by decide +kernel
theorem dJx4a65c_grow_d5877_1 : decode cJx4a65c_grow_d5877 1 = .ok (.aload_n 0, 1) := by decide +kernel
theorem dJx4a65c_grow_d5877_2 : decode cJx4a65c_grow_d5877 2 = .ok (.getfield 48, 3) := by decide +kernel
theorem dJx4a65c_grow_d5877_5 : decode cJx4a65c_grow_d5877 5 = .ok (.iconst 1, 1) := by decide +kernel
theorem dJx4a65c_grow_d5877_6 : decode cJx4a65c_grow_d5877 6 = .ok (.iadd, 1) := by decide +kernel
theorem dJx4a65c_grow_d5877_7 : decode cJx4a65c_grow_d5877 7 = .ok (.invokevirtual 69, 3) := by decide +kernel
theorem dJx4a65c_grow_d5877_10 : decode cJx4a65c_grow_d5877 10 = .ok (.areturn, 1) := by decide +kernel
theorem dJx4a65c_size_8abf5_0 : decode cJx4a65c_size_8abf5 0 = .ok (.aload_n 0, 1) := by decide +kernel
theorem dJx4a65c_size_8abf5_1 : decode cJx4a65c_size_8abf5 1 = .ok (.getfield 48, 3) := by decide +kernel
theorem dJx4a65c_size_8abf5_4 : decode cJx4a65c_size_8abf5 4 = .ok (.ireturn, 1) := by decide +kernel
theorem dJx4a65c_elementData_915e3_0 : decode cJx4a65c_elementData_915e3 0 = .ok (.aload_n 0, 1) := by decide +kernel
theorem dJx4a65c_elementData_915e3_1 : decode cJx4a65c_elementData_915e3 1 = .ok (.getfield 9, 3) := by decide +kernel
theorem dJx4a65c_elementData_915e3_4 : decode cJx4a65c_elementData_915e3 4 = .ok (.iload_n 1, 1) := by decide +kernel
theorem dJx4a65c_elementData_915e3_5 : decode cJx4a65c_elementData_915e3 5 = .ok (.aaload, 1) := by decide +kernel
theorem dJx4a65c_elementData_915e3_6 : decode cJx4a65c_elementData_915e3 6 = .ok (.areturn, 1) := by decide +kernel
set_option maxRecDepth 20000 in
theorem ggJx4a65c_get_915e3_J15_checkIndex_7cf53 : GoodIn wsJx4a65c_get_915e3 wsJ15_checkIndex_7cf53 := goodIn_r _ [5, 6, 7, 8, 9] (by decide +kernel) (by decide +kernel)
set_option maxRecDepth 20000 in
theorem gJx4a65c_get_915e3_J15_checkIndex_7cf53 : GoodIn wsJx4a65c_get_915e3 (va_wsS RJx4a65c 118 yJ15_checkIndex_7cf53 wsJ15_checkIndex_7cf53) := goodIn_app (goodIn_of _ (by decide +kernel)) ggJx4a65c_get_915e3_J15_checkIndex_7cf53
set_option maxRecDepth 20000 in
theorem ggJx4a65c_get_915e3_Jx4a65c_elementData_915e3 : GoodIn wsJx4a65c_get_915e3 wsJx4a65c_elementData_915e3 := goodIn_r _ [14, 15, 16, 17, 18] (by decide +kernel) (by decide +kernel)
set_option maxRecDepth 20000 in
theorem gJx4a65c_get_915e3_Jx4a65c_elementData_915e3 : GoodIn wsJx4a65c_get_915e3 (wsV RJx4a65c 123 RJx4a65c yJx4a65c_elementData_915e3 wsJx4a65c_elementData_915e3) := goodIn_app (goodIn_of _ (by decide +kernel)) ggJx4a65c_get_915e3_Jx4a65c_elementData_915e3
theorem dJx4a65c_get_915e3_0 : decode cJx4a65c_get_915e3 0 = .ok (.iload_n 1, 1) := by decide +kernel
theorem dJx4a65c_get_915e3_1 : decode cJx4a65c_get_915e3 1 = .ok (.aload_n 0, 1) := by decide +kernel
theorem dJx4a65c_get_915e3_2 : decode cJx4a65c_get_915e3 2 = .ok (.getfield 48, 3) := by decide +kernel
theorem dJx4a65c_get_915e3_5 : decode cJx4a65c_get_915e3 5 = .ok (.invokestatic 118, 3) := by decide +kernel
theorem dJx4a65c_get_915e3_8 : decode cJx4a65c_get_915e3 8 = .ok (.pop, 1) := by decide +kernel
theorem dJx4a65c_get_915e3_9 : decode cJx4a65c_get_915e3 9 = .ok (.aload_n 0, 1) := by decide +kernel
theorem dJx4a65c_get_915e3_10 : decode cJx4a65c_get_915e3 10 = .ok (.iload_n 1, 1) := by decide +kernel
theorem dJx4a65c_get_915e3_11 : decode cJx4a65c_get_915e3 11 = .ok (.invokevirtual 123, 3) := by decide +kernel
theorem dJx4a65c_get_915e3_14 : decode cJx4a65c_get_915e3 14 = .ok (.areturn, 1) := by decide +kernel
set_option maxRecDepth 20000 in
theorem ggJx4a65c_add_72be8_Jx4a65c_grow_d5877 : GoodIn wsJx4a65c_add_72be8 wsJx4a65c_grow_d5877 := goodIn_r _ [6, 1, 7, 8, 9, 5, 10, 11, 12, 13, 14, 15, 16, 17, 18, 19, 20, 21, 22, 23, 24, 25, 26, 27, 28, 29, 30, 31, 32, 33, 34, 35, 36, 37, 38, 39, 40, 41, 42, 43, 44, 45, 46, 47, 48, 49] (by decide +kernel) (by decide +kernel)
set_option maxRecDepth 20000 in
theorem gJx4a65c_add_72be8_Jx4a65c_grow_d5877 : GoodIn wsJx4a65c_add_72be8 (wsV RJx4a65c 129 RJx4a65c yJx4a65c_grow_d5877 wsJx4a65c_grow_d5877) := goodIn_app (goodIn_of _ (by decide +kernel)) ggJx4a65c_add_72be8_Jx4a65c_grow_d5877
theorem dJx4a65c_add_72be8_0 : decode cJx4a65c_add_72be8 0 = .ok (.iload_n 3, 1) := by decide +kernel
theorem dJx4a65c_add_72be8_1 : decode cJx4a65c_add_72be8 1 = .ok (.aload_n 2, 1) := by decide +kernel
theorem dJx4a65c_add_72be8_2 : decode cJx4a65c_add_72be8 2 = .ok (.arraylength, 1) := by decide +kernel
theorem dJx4a65c_add_72be8_3 : decode cJx4a65c_add_72be8 3 = .ok (.if_icmp .ne 8, 3) := by decide +kernel
theorem dJx4a65c_add_72be8_6 : decode cJx4a65c_add_72be8 6 = .ok (.aload_n 0, 1) := by decide +kernel
theorem dJx4a65c_add_72be8_7 : decode cJx4a65c_add_72be8 7 = .ok (.invokevirtual 129, 3) := by decide +kernel
theorem dJx4a65c_add_72be8_10 : decode cJx4a65c_add_72be8 10 = .ok (.astore_n 2, 1) := by decide +kernel
theorem dJx4a65c_add_72be8_11 : decode cJx4a65c_add_72be8 11 = .ok (.aload_n 2, 1) := by decide +kernel
theorem dJx4a65c_add_72be8_12 : decode cJx4a65c_add_72be8 12 = .ok (.iload_n 3, 1) := by decide +kernel
theorem dJx4a65c_add_72be8_13 : decode cJx4a65c_add_72be8 13 = .ok (.aload_n 1, 1) := by decide +kernel
theorem dJx4a65c_add_72be8_14 : decode cJx4a65c_add_72be8 14 = .ok (.aastore, 1) := by decide +kernel
theorem dJx4a65c_add_72be8_15 : decode cJx4a65c_add_72be8 15 = .ok (.aload_n 0, 1) := by decide +kernel
theorem dJx4a65c_add_72be8_16 : decode cJx4a65c_add_72be8 16 = .ok (.iload_n 3, 1) := by decide +kernel
theorem dJx4a65c_add_72be8_17 : decode cJx4a65c_add_72be8 17 = .ok (.iconst 1, 1) := by decide +kernel
theorem dJx4a65c_add_72be8_18 : decode cJx4a65c_add_72be8 18 = .ok (.iadd, 1) := by decide +kernel
theorem dJx4a65c_add_72be8_19 : decode cJx4a65c_add_72be8 19 = .ok (.putfield 48, 3) := by decide +kernel
theorem dJx4a65c_add_72be8_22 : decode cJx4a65c_add_72be8 22 = .ok (.return_, 1) := by decide +kernel
set_option maxRecDepth 20000 in
theorem ggJx4a65c_add_9ea2d_Jx4a65c_add_72be8 : GoodIn wsJx4a65c_add_9ea2d wsJx4a65c_add_72be8 := goodIn_r _ [9, 4, 10, 11, 12, 8, 13, 14, 15, 16, 17, 3, 18, 19, 20, 21, 22, 23, 24, 25, 26, 27, 28, 29, 30, 31, 32, 33, 34, 35, 36, 37, 38, 39, 40, 41, 42, 43, 44, 45, 46, 47, 48, 49, 50, 51, 52, 53, 54, 55] (by decide +kernel) (by decide +kernel)
set_option maxRecDepth 20000 in
theorem gJx4a65c_add_9ea2d_Jx4a65c_add_72be8 : GoodIn wsJx4a65c_add_9ea2d (wsV RJx4a65c 131 RJx4a65c yJx4a65c_add_72be8 wsJx4a65c_add_72be8) := goodIn_app (goodIn_of _ (by decide +kernel)) ggJx4a65c_add_9ea2d_Jx4a65c_add_72be8
theorem dJx4a65c_add_9ea2d_0 : decode cJx4a65c_add_9ea2d 0 = .ok (.aload_n 0, 1) := by decide +kernel
theorem dJx4a65c_add_9ea2d_1 : decode cJx4a65c_add_9ea2d 1 = .ok (.dup, 1) := by decide +kernel
theorem dJx4a65c_add_9ea2d_2 : decode cJx4a65c_add_9ea2d 2 = .ok (.getfield 63, 3) := by decide +kernel
theorem dJx4a65c_add_9ea2d_5 : decode cJx4a65c_add_9ea2d 5 = .ok (.iconst 1, 1) := by decide +kernel
theorem dJx4a65c_add_9ea2d_6 : decode cJx4a65c_add_9ea2d 6 = .ok (.iadd, 1) := by decide +kernel
theorem dJx4a65c_add_9ea2d_7 : decode cJx4a65c_add_9ea2d 7 = .ok (.putfield 63, 3) := by decide +kernel
theorem dJx4a65c_add_9ea2d_10 : decode cJx4a65c_add_9ea2d 10 = .ok (.aload_n 0, 1) := by decide +kernel
theorem dJx4a65c_add_9ea2d_11 : decode cJx4a65c_add_9ea2d 11 = .ok (.aload_n 1, 1) := by decide +kernel
theorem dJx4a65c_add_9ea2d_12 : decode cJx4a65c_add_9ea2d 12 = .ok (.aload_n 0, 1) := by decide +kernel
theorem dJx4a65c_add_9ea2d_13 : decode cJx4a65c_add_9ea2d 13 = .ok (.getfield 9, 3) := by decide +kernel
theorem dJx4a65c_add_9ea2d_16 : decode cJx4a65c_add_9ea2d 16 = .ok (.aload_n 0, 1) := by decide +kernel
theorem dJx4a65c_add_9ea2d_17 : decode cJx4a65c_add_9ea2d 17 = .ok (.getfield 48, 3) := by decide +kernel
theorem dJx4a65c_add_9ea2d_20 : decode cJx4a65c_add_9ea2d 20 = .ok (.invokevirtual 131, 3) := by decide +kernel
theorem dJx4a65c_add_9ea2d_23 : decode cJx4a65c_add_9ea2d 23 = .ok (.iconst 1, 1) := by decide +kernel
theorem dJx4a65c_add_9ea2d_24 : decode cJx4a65c_add_9ea2d 24 = .ok (.ireturn, 1) := by decide +kernel
set_option maxRecDepth 20000 in
theorem ggJx4a65c_remove_915e3_J15_checkIndex_7cf53 : GoodIn wsJx4a65c_remove_915e3 wsJ15_checkIndex_7cf53 := goodIn_r _ [6, 7, 8, 9, 10] (by decide +kernel) (by decide +kernel)
set_option maxRecDepth 20000 in
theorem gJx4a65c_remove_915e3_J15_checkIndex_7cf53 : GoodIn wsJx4a65c_remove_915e3 (va_wsS RJx4a65c 118 yJ15_checkIndex_7cf53 wsJ15_checkIndex_7cf53) := goodIn_app (goodIn_of _ (by decide +kernel)) ggJx4a65c_remove_915e3_J15_checkIndex_7cf53
set_option maxRecDepth 20000 in
theorem ggJx4a65c_remove_915e3_Jx4a65c_fastRemove_b59b0 : GoodIn wsJx4a65c_remove_915e3 wsJx4a65c_fastRemove_b59b0 := goodIn_r _ [15, 16, 17, 1, 18, 19, 20, 21, 22, 23, 24] (by decide +kernel) (by decide +kernel)
set_option maxRecDepth 20000 in
theorem gJx4a65c_remove_915e3_Jx4a65c_fastRemove_b59b0 : GoodIn wsJx4a65c_remove_915e3 (wsV RJx4a65c 144 RJx4a65c yJx4a65c_fastRemove_b59b0 wsJx4a65c_fastRemove_b59b0) := goodIn_app (goodIn_of _ (by decide +kernel)) ggJx4a65c_remove_915e3_Jx4a65c_fastRemove_b59b0
theorem dJx4a65c_remove_915e3_0 : decode cJx4a65c_remove_915e3 0 = .ok (.iload_n 1, 1) := by decide +kernel
theorem dJx4a65c_remove_915e3_1 : decode cJx4a65c_remove_915e3 1 = .ok (.aload_n 0, 1) := by decide +kernel
theorem dJx4a65c_remove_915e3_2 : decode cJx4a65c_remove_915e3 2 = .ok (.getfield 48, 3) := by decide +kernel
theorem dJx4a65c_remove_915e3_5 : decode cJx4a65c_remove_915e3 5 = .ok (.invokestatic 118, 3) := by decide +kernel
theorem dJx4a65c_remove_915e3_8 : decode cJx4a65c_remove_915e3 8 = .ok (.pop, 1) := by decide +kernel
theorem dJx4a65c_remove_915e3_9 : decode cJx4a65c_remove_915e3 9 = .ok (.aload_n 0, 1) := by decide +kernel
theorem dJx4a65c_remove_915e3_10 : decode cJx4a65c_remove_915e3 10 = .ok (.getfield 9, 3) := by decide +kernel
theorem dJx4a65c_remove_915e3_13 : decode cJx4a65c_remove_915e3 13 = .ok (.astore_n 2, 1) := by decide +kernel
theorem dJx4a65c_remove_915e3_14 : decode cJx4a65c_remove_915e3 14 = .ok (.aload_n 2, 1) := by decide +kernel
theorem dJx4a65c_remove_915e3_15 : decode cJx4a65c_remove_915e3 15 = .ok (.iload_n 1, 1) := by decide +kernel
theorem dJx4a65c_remove_915e3_16 : decode cJx4a65c_remove_915e3 16 = .ok (.aaload, 1) := by decide +kernel
theorem dJx4a65c_remove_915e3_17 : decode cJx4a65c_remove_915e3 17 = .ok (.astore_n 3, 1) := by decide +kernel
theorem dJx4a65c_remove_915e3_18 : decode cJx4a65c_remove_915e3 18 = .ok (.aload_n 0, 1) := by decide +kernel
theorem dJx4a65c_remove_915e3_19 : decode cJx4a65c_remove_915e3 19 = .ok (.aload_n 2, 1) := by decide +kernel
theorem dJx4a65c_remove_915e3_20 : decode cJx4a65c_remove_915e3 20 = .ok (.iload_n 1, 1) := by decide +kernel
theorem dJx4a65c_remove_915e3_21 : decode cJx4a65c_remove_915e3 21 = .ok (.invokevirtual 144, 3) := by decide +kernel
theorem dJx4a65c_remove_915e3_24 : decode cJx4a65c_remove_915e3 24 = .ok (.aload_n 3, 1) := by decide +kernel
theorem dJx4a65c_remove_915e3_25 : decode cJx4a65c_remove_915e3 25 = .ok (.areturn, 1) := by decide +kernel
theorem dJx4a65c_fastRemove_b59b0_0 : decode cJx4a65c_fastRemove_b59b0 0 = .ok (.aload_n 0, 1) := by decide +kernel
theorem dJx4a65c_fastRemove_b59b0_1 : decode cJx4a65c_fastRemove_b59b0 1 = .ok (.dup, 1) := by decide +kernel
theorem dJx4a65c_fastRemove_b59b0_2 : decode cJx4a65c_fastRemove_b59b0 2 = .ok (.getfield 63, 3) := by decide +kernel
theorem dJx4a65c_fastRemove_b59b0_5 : decode cJx4a65c_fastRemove_b59b0 5 = .ok (.iconst 1, 1) := by decide +kernel
theorem dJx4a65c_fastRemove_b59b0_6 : decode cJx4a65c_fastRemove_b59b0 6 = .ok (.iadd, 1) := by decide +kernel
theorem dJx4a65c_fastRemove_b59b0_7 : decode cJx4a65c_fastRemove_b59b0 7 = .ok (.putfield 63, 3) := by decide +kernel
theorem dJx4a65c_fastRemove_b59b0_10 : decode cJx4a65c_fastRemove_b59b0 10 = .ok (.aload_n 0, 1) := by decide +kernel
theorem dJx4a65c_fastRemove_b59b0_11 : decode cJx4a65c_fastRemove_b59b0 11 = .ok (.getfield 48, 3) := by decide +kernel
theorem dJx4a65c_fastRemove_b59b0_14 : decode cJx4a65c_fastRemove_b59b0 14 = .ok (.iconst 1, 1) := by decide +kernel
theorem dJx4a65c_fastRemove_b59b0_15 : decode cJx4a65c_fastRemove_b59b0 15 = .ok (.isub, 1) := by decide +kernel
theorem dJx4a65c_fastRemove_b59b0_16 : decode cJx4a65c_fastRemove_b59b0 16 = .ok (.dup, 1) := by decide +kernel
theorem dJx4a65c_fastRemove_b59b0_17 : decode cJx4a65c_fastRemove_b59b0 17 = .ok (.istore_n 3, 1) := by decide +kernel
theorem dJx4a65c_fastRemove_b59b0_18 : decode cJx4a65c_fastRemove_b59b0 18 = .ok (.iload_n 2, 1) := by decide +kernel
theorem dJx4a65c_fastRemove_b59b0_19 : decode cJx4a65c_fastRemove_b59b0 19 = .ok (.if_icmp .le 15, 3) := by decide +kernel
theorem dJx4a65c_fastRemove_b59b0_22 : decode cJx4a65c_fastRemove_b59b0 22 = .ok (.aload_n 1, 1) := by decide +kernel
theorem dJx4a65c_fastRemove_b59b0_23 : decode cJx4a65c_fastRemove_b59b0 23 = .ok (.iload_n 2, 1) := by decide +kernel
theorem dJx4a65c_fastRemove_b59b0_24 : decode cJx4a65c_fastRemove_b59b0 24 = .ok (.iconst 1, 1) := by decide +kernel
theorem dJx4a65c_fastRemove_b59b0_25 : decode cJx4a65c_fastRemove_b59b0 25 = .ok (.iadd, 1) := by decide +kernel
theorem dJx4a65c_fastRemove_b59b0_26 : decode cJx4a65c_fastRemove_b59b0 26 = .ok (.aload_n 1, 1) := by decide +kernel
theorem dJx4a65c_fastRemove_b59b0_27 : decode cJx4a65c_fastRemove_b59b0 27 = .ok (.iload_n 2, 1) := by decide +kernel
theorem dJx4a65c_fastRemove_b59b0_28 : decode cJx4a65c_fastRemove_b59b0 28 = .ok (.iload_n 3, 1) := by decide +kernel
theorem dJx4a65c_fastRemove_b59b0_29 : decode cJx4a65c_fastRemove_b59b0 29 = .ok (.iload_n 2, 1) := by decide +kernel
theorem dJx4a65c_fastRemove_b59b0_30 : decode cJx4a65c_fastRemove_b59b0 30 = .ok (.isub, 1) := by decide +kernel
theorem dJx4a65c_fastRemove_b59b0_31 : decode cJx4a65c_fastRemove_b59b0 31 = .ok (.invokestatic 112, 3) := by decide +kernel
theorem dJx4a65c_fastRemove_b59b0_34 : decode cJx4a65c_fastRemove_b59b0 34 = .ok (.aload_n 1, 1) := by decide +kernel
theorem dJx4a65c_fastRemove_b59b0_35 : decode cJx4a65c_fastRemove_b59b0 35 = .ok (.aload_n 0, 1) := by decide +kernel
theorem dJx4a65c_fastRemove_b59b0_36 : decode cJx4a65c_fastRemove_b59b0 36 = .ok (.iload_n 3, 1) := by decide +kernel
theorem dJx4a65c_fastRemove_b59b0_37 : decode cJx4a65c_fastRemove_b59b0 37 = .ok (.dup_x1, 1) := by decide +kernel
theorem dJx4a65c_fastRemove_b59b0_38 : decode cJx4a65c_fastRemove_b59b0 38 = .ok (.putfield 48, 3) := by decide +kernel
theorem dJx4a65c_fastRemove_b59b0_41 : decode cJx4a65c_fastRemove_b59b0 41 = .ok (.aconst_null, 1) := by decide +kernel
theorem dJx4a65c_fastRemove_b59b0_42 : decode cJx4a65c_fastRemove_b59b0 42 = .ok (.aastore, 1) := by decide +kernel
theorem dJx4a65c_fastRemove_b59b0_43 : decode cJx4a65c_fastRemove_b59b0 43 = .ok (.return_, 1) := by decide +kernel
theorem dJ7_fill_53178_0 : decode cJ7_fill_53178 0 = .ok (.iconst 0, 1) := by decide +kernel
theorem dJ7_fill_53178_1 : decode cJ7_fill_53178 1 = .ok (.istore_n 2, 1) := by decide +kernel
theorem dJ7_fill_53178_2 : decode cJ7_fill_53178 2 = .ok (.aload_n 0, 1) := by decide +kernel
theorem dJ7_fill_53178_3 : decode cJ7_fill_53178 3 = .ok (.arraylength, 1) := by decide +kernel
theorem dJ7_fill_53178_4 : decode cJ7_fill_53178 4 = .ok (.istore_n 3, 1) := by decide +kernel
theorem dJ7_fill_53178_5 : decode cJ7_fill_53178 5 = .ok (.iload_n 2, 1) := by decide +kernel
theorem dJ7_fill_53178_6 : decode cJ7_fill_53178 6 = .ok (.iload_n 3, 1) := by decide +kernel
theorem dJ7_fill_53178_7 : decode cJ7_fill_53178 7 = .ok (.if_icmp .ge 13, 3) := by decide +kernel
theorem dJ7_fill_53178_10 : decode cJ7_fill_53178 10 = .ok (.aload_n 0, 1) := by decide +kernel
theorem dJ7_fill_53178_11 : decode cJ7_fill_53178 11 = .ok (.iload_n 2, 1) := by decide +kernel
theorem dJ7_fill_53178_12 : decode cJ7_fill_53178 12 = .ok (.iload_n 1, 1) := by decide +kernel
theorem dJ7_fill_53178_13 : decode cJ7_fill_53178 13 = .ok (.iastore, 1) := by decide +kernel
theorem dJ7_fill_53178_14 : decode cJ7_fill_53178 14 = .ok (.iinc 2 1, 3) := by decide +kernel
theorem dJ7_fill_53178_17 : decode cJ7_fill_53178 17 = .ok (.goto (-12), 3) := by decide +kernel
theorem dJ7_fill_53178_20 : decode cJ7_fill_53178 20 = .ok (.return_, 1) := by decide +kernel
set_option maxRecDepth 20000 in
theorem ggJ7_copyOf_1904c_J7_copyOf_6403c : GoodIn wsJ7_copyOf_1904c wsJ7_copyOf_6403c := goodIn_r _ [8, 9, 10, 11, 12, 13, 14, 15, 16, 17, 18] (by decide +kernel) (by decide +kernel)
set_option maxRecDepth 20000 in
theorem gJ7_copyOf_1904c_J7_copyOf_6403c : GoodIn wsJ7_copyOf_1904c (va_wsS RJ7 300 yJ7_copyOf_6403c wsJ7_copyOf_6403c) := goodIn_app (goodIn_of _ (by decide +kernel)) ggJ7_copyOf_1904c_J7_copyOf_6403c
theorem dJ7_copyOf_1904c_0 : decode cJ7_copyOf_1904c 0 = .ok (.aload_n 0, 1) := by decide +kernel
theorem dJ7_copyOf_1904c_1 : decode cJ7_copyOf_1904c 1 = .ok (.iload_n 1, 1) := by decide +kernel
theorem dJ7_copyOf_1904c_2 : decode cJ7_copyOf_1904c 2 = .ok (.aload_n 0, 1) := by decide +kernel
theorem dJ7_copyOf_1904c_3 : decode cJ7_copyOf_1904c 3 = .ok (.invokevirtual 86, 3) := by decide +kernel
theorem dJ7_copyOf_1904c_6 : decode cJ7_copyOf_1904c 6 = .ok (.invokestatic 300, 3) := by decide +kernel
theorem dJ7_copyOf_1904c_9 : decode cJ7_copyOf_1904c 9 = .ok (.areturn, 1) := by decide +kernel
theorem dJ7_copyOf_6403c_0 : decode cJ7_copyOf_6403c 0 = .ok (.aload_n 2, 1) := by decide +kernel
theorem dJ7_copyOf_6403c_1 : decode cJ7_copyOf_6403c 1 = .ok (.ldc 110, 2) := by decide +kernel
theorem dJ7_copyOf_6403c_3 : decode cJ7_copyOf_6403c 3 = .ok (.if_acmp .ne 10, 3) := by decide +kernel
theorem dJ7_copyOf_6403c_6 : decode cJ7_copyOf_6403c 6 = .ok (.iload_n 1, 1) := by decide +kernel
theorem dJ7_copyOf_6403c_7 : decode cJ7_copyOf_6403c 7 = .ok (.anewarray 2, 3) := by decide +kernel
theorem dJ7_copyOf_6403c_10 : decode cJ7_copyOf_6403c 10 = .ok (.goto 14, 3) := by decide +kernel
theorem dJ7_copyOf_6403c_13 : decode cJ7_copyOf_6403c 13 = .ok (.aload_n 2, 1) := by decide +kernel
theorem dJ7_copyOf_6403c_14 : decode cJ7_copyOf_6403c 14 = .ok (.invokevirtual 90, 3) := by decide +kernel
theorem dJ7_copyOf_6403c_17 : decode cJ7_copyOf_6403c 17 = .ok (.iload_n 1, 1) := by decide +kernel
theorem dJ7_copyOf_6403c_18 : decode cJ7_copyOf_6403c 18 = .ok (.invokestatic 95, 3) := by decide +kernel
theorem dJ7_copyOf_6403c_21 : decode cJ7_copyOf_6403c 21 = .ok (.checkcast 110, 3) := by decide +kernel
theorem dJ7_copyOf_6403c_24 : decode cJ7_copyOf_6403c 24 = .ok (.astore_n 3, 1) := by decide +kernel
theorem dJ7_copyOf_6403c_25 : decode cJ7_copyOf_6403c 25 = .ok (.aload_n 0, 1) := by decide +kernel
theorem dJ7_copyOf_6403c_26 : decode cJ7_copyOf_6403c 26 = .ok (.iconst 0, 1) := by decide +kernel
theorem dJ7_copyOf_6403c_27 : decode cJ7_copyOf_6403c 27 = .ok (.aload_n 3, 1) := by decide +kernel
theorem dJ7_copyOf_6403c_28 : decode cJ7_copyOf_6403c 28 = .ok (.iconst 0, 1) := by decide +kernel
theorem dJ7_copyOf_6403c_29 : decode cJ7_copyOf_6403c 29 = .ok (.aload_n 0, 1) := by decide +kernel
theorem dJ7_copyOf_6403c_30 : decode cJ7_copyOf_6403c 30 = .ok (.arraylength, 1) := by decide +kernel
theorem dJ7_copyOf_6403c_31 : decode cJ7_copyOf_6403c 31 = .ok (.iload_n 1, 1) := by decide +kernel
theorem dJ7_copyOf_6403c_32 : decode cJ7_copyOf_6403c 32 = .ok (.invokestatic 304, 3) := by decide +kernel
theorem dJ7_copyOf_6403c_35 : decode cJ7_copyOf_6403c 35 = .ok (.invokestatic 150, 3) := by decide +kernel
theorem dJ7_copyOf_6403c_38 : decode cJ7_copyOf_6403c 38 = .ok (.aload_n 3, 1) := by decide +kernel
theorem dJ7_copyOf_6403c_39 : decode cJ7_copyOf_6403c 39 = .ok (.areturn, 1) := by decide +kernel
theorem dJ7_copyOf_59c91_0 : decode cJ7_copyOf_59c91 0 = .ok (.iload_n 1, 1) := by decide +kernel
theorem dJ7_copyOf_59c91_1 : decode cJ7_copyOf_59c91 1 = .ok (.aload_n 0, 1) := by decide +kernel
theorem dJ7_copyOf_59c91_2 : decode cJ7_copyOf_59c91 2 = .ok (.arraylength, 1) := by decide +kernel
theorem dJ7_copyOf_59c91_3 : decode cJ7_copyOf_59c91 3 = .ok (.if_icmp .ne 11, 3) := by decide +kernel
theorem dJ7_copyOf_59c91_6 : decode cJ7_copyOf_59c91 6 = .ok (.aload_n 0, 1) := by decide +kernel
theorem dJ7_copyOf_59c91_7 : decode cJ7_copyOf_59c91 7 = .ok (.invokevirtual 316, 3) := by decide +kernel
theorem dJ7_copyOf_59c91_10 : decode cJ7_copyOf_59c91 10 = .ok (.checkcast 317, 3) := by decide +kernel
theorem dJ7_copyOf_59c91_13 : decode cJ7_copyOf_59c91 13 = .ok (.areturn, 1) := by decide +kernel
theorem dJ7_copyOf_59c91_14 : decode cJ7_copyOf_59c91 14 = .ok (.iload_n 1, 1) := by decide +kernel
theorem dJ7_copyOf_59c91_15 : decode cJ7_copyOf_59c91 15 = .ok (.newarray .int, 2) := by decide +kernel
theorem dJ7_copyOf_59c91_17 : decode cJ7_copyOf_59c91 17 = .ok (.astore_n 2, 1) := by decide +kernel
theorem dJ7_copyOf_59c91_18 : decode cJ7_copyOf_59c91 18 = .ok (.aload_n 0, 1) := by decide +kernel
theorem dJ7_copyOf_59c91_19 : decode cJ7_copyOf_59c91 19 = .ok (.iconst 0, 1) := by decide +kernel
theorem dJ7_copyOf_59c91_20 : decode cJ7_copyOf_59c91 20 = .ok (.aload_n 2, 1) := by decide +kernel
theorem dJ7_copyOf_59c91_21 : decode cJ7_copyOf_59c91 21 = .ok (.iconst 0, 1) := by decide +kernel
theorem dJ7_copyOf_59c91_22 : decode cJ7_copyOf_59c91 22 = .ok (.aload_n 0, 1) := by decide +kernel
theorem dJ7_copyOf_59c91_23 : decode cJ7_copyOf_59c91 23 = .ok (.arraylength, 1) := by decide +kernel
theorem dJ7_copyOf_59c91_24 : decode cJ7_copyOf_59c91 24 = .ok (.iload_n 1, 1) := by decide +kernel
theorem dJ7_copyOf_59c91_25 : decode cJ7_copyOf_59c91 25 = .ok (.invokestatic 304, 3) := by decide +kernel
theorem dJ7_copyOf_59c91_28 : decode cJ7_copyOf_59c91 28 = .ok (.invokestatic 150, 3) := by decide +kernel
theorem dJ7_copyOf_59c91_31 : decode cJ7_copyOf_59c91 31 = .ok (.aload_n 2, 1) := by decide +kernel
theorem dJ7_copyOf_59c91_32 : decode cJ7_copyOf_59c91 32 = .ok (.areturn, 1) := by decide +kernel
set_option maxRecDepth 20000 in
theorem ggJ15_checkIndex_7cf53_J3_checkIndex_8e157 : GoodIn wsJ15_checkIndex_7cf53 wsJ3_checkIndex_8e157 := goodIn_r _ [4] (by decide +kernel) (by decide +kernel)
set_option maxRecDepth 20000 in
theorem gJ15_checkIndex_7cf53_J3_checkIndex_8e157 : GoodIn wsJ15_checkIndex_7cf53 (va_wsS RJ15 105 yJ3_checkIndex_8e157 wsJ3_checkIndex_8e157) := goodIn_app (goodIn_of _ (by decide +kernel)) ggJ15_checkIndex_7cf53_J3_checkIndex_8e157
theorem dJ15_checkIndex_7cf53_0 : decode cJ15_checkIndex_7cf53 0 = .ok (.iload_n 0, 1) := by decide +kernel
theorem dJ15_checkIndex_7cf53_1 : decode cJ15_checkIndex_7cf53 1 = .ok (.iload_n 1, 1) := by decide +kernel
theorem dJ15_checkIndex_7cf53_2 : decode cJ15_checkIndex_7cf53 2 = .ok (.aconst_null, 1) := by decide +kernel
theorem dJ15_checkIndex_7cf53_3 : decode cJ15_checkIndex_7cf53 3 = .ok (.invokestatic 105, 3) := by decide +kernel
theorem dJ15_checkIndex_7cf53_6 : decode cJ15_checkIndex_7cf53 6 = .ok (.ireturn, 1) := by decide +kernel
set_option maxRecDepth 20000 in
theorem ggJ8_newLength_cabcc_J8_hugeLength_7cf53 : GoodIn wsJ8_newLength_cabcc wsJ8_hugeLength_7cf53 := goodIn_r _ [9, 5] (by decide +kernel) (by decide +kernel)
set_option maxRecDepth 20000 in
theorem gJ8_newLength_cabcc_J8_hugeLength_7cf53 : GoodIn wsJ8_newLength_cabcc (va_wsS RJ8 201 yJ8_hugeLength_7cf53 wsJ8_hugeLength_7cf53) := goodIn_app (goodIn_of _ (by decide +kernel)) ggJ8_newLength_cabcc_J8_hugeLength_7cf53
theorem dJ8_newLength_cabcc_0 : decode cJ8_newLength_cabcc 0 = .ok (.iload_n 0, 1) := by decide +kernel
theorem dJ8_newLength_cabcc_1 : decode cJ8_newLength_cabcc 1 = .ok (.iload_n 1, 1) := by decide +kernel
theorem dJ8_newLength_cabcc_2 : decode cJ8_newLength_cabcc 2 = .ok (.iload_n 2, 1) := by decide +kernel
theorem dJ8_newLength_cabcc_3 : decode cJ8_newLength_cabcc 3 = .ok (.invokestatic 194, 3) := by decide +kernel
theorem dJ8_newLength_cabcc_6 : decode cJ8_newLength_cabcc 6 = .ok (.iadd, 1) := by decide +kernel
theorem dJ8_newLength_cabcc_7 : decode cJ8_newLength_cabcc 7 = .ok (.istore_n 3, 1) := by decide +kernel
theorem dJ8_newLength_cabcc_8 : decode cJ8_newLength_cabcc 8 = .ok (.iconst 0, 1) := by decide +kernel
theorem dJ8_newLength_cabcc_9 : decode cJ8_newLength_cabcc 9 = .ok (.iload_n 3, 1) := by decide +kernel
theorem dJ8_newLength_cabcc_10 : decode cJ8_newLength_cabcc 10 = .ok (.if_icmp .ge 11, 3) := by decide +kernel
theorem dJ8_newLength_cabcc_13 : decode cJ8_newLength_cabcc 13 = .ok (.iload_n 3, 1) := by decide +kernel
theorem dJ8_newLength_cabcc_14 : decode cJ8_newLength_cabcc 14 = .ok (.ldc 200, 2) := by decide +kernel
theorem dJ8_newLength_cabcc_16 : decode cJ8_newLength_cabcc 16 = .ok (.if_icmp .gt 5, 3) := by decide +kernel
theorem dJ8_newLength_cabcc_19 : decode cJ8_newLength_cabcc 19 = .ok (.iload_n 3, 1) := by decide +kernel
theorem dJ8_newLength_cabcc_20 : decode cJ8_newLength_cabcc 20 = .ok (.ireturn, 1) := by decide +kernel
theorem dJ8_newLength_cabcc_21 : decode cJ8_newLength_cabcc 21 = .ok (.iload_n 0, 1) := by decide +kernel
theorem dJ8_newLength_cabcc_22 : decode cJ8_newLength_cabcc 22 = .ok (.iload_n 1, 1) := by decide +kernel
theorem dJ8_newLength_cabcc_23 : decode cJ8_newLength_cabcc 23 = .ok (.invokestatic 201, 3) := by decide +kernel
theorem dJ8_newLength_cabcc_26 : decode cJ8_newLength_cabcc 26 = .ok (.ireturn, 1) := by decide +kernel
theorem dJ8_hugeLength_7cf53_0 : decode cJ8_hugeLength_7cf53 0 = .ok (.iload_n 0, 1) := by decide +kernel
theorem dJ8_hugeLength_7cf53_1 : decode cJ8_hugeLength_7cf53 1 = .ok (.iload_n 1, 1) := by decide +kernel
theorem dJ8_hugeLength_7cf53_2 : decode cJ8_hugeLength_7cf53 2 = .ok (.iadd, 1) := by decide +kernel
theorem dJ8_hugeLength_7cf53_3 : decode cJ8_hugeLength_7cf53 3 = .ok (.istore_n 2, 1) := by decide +kernel
theorem dJ8_hugeLength_7cf53_4 : decode cJ8_hugeLength_7cf53 4 = .ok (.iload_n 2, 1) := by decide +kernel
theorem dJ8_hugeLength_7cf53_5 : decode cJ8_hugeLength_7cf53 5 = .ok (.ifCond .ge 44, 3) := by decide +kernel
theorem dJ8_hugeLength_7cf53_8 : decode cJ8_hugeLength_7cf53 8 = .ok (.new 204, 3) := by decide +kernel
theorem dJ8_hugeLength_7cf53_11 : decode cJ8_hugeLength_7cf53 11 = .ok (.dup, 1) := by decide +kernel
theorem dJ8_hugeLength_7cf53_12 : decode cJ8_hugeLength_7cf53 12 = .ok (.new 89, 3) := by decide +kernel
theorem dJ8_hugeLength_7cf53_15 : decode cJ8_hugeLength_7cf53 15 = .ok (.dup, 1) := by decide +kernel
theorem dJ8_hugeLength_7cf53_16 : decode cJ8_hugeLength_7cf53 16 = .ok (.invokespecial 91, 3) := by decide +kernel
theorem dJ8_hugeLength_7cf53_19 : decode cJ8_hugeLength_7cf53 19 = .ok (.ldc 206, 2) := by decide +kernel
theorem dJ8_hugeLength_7cf53_21 : decode cJ8_hugeLength_7cf53 21 = .ok (.invokevirtual 94, 3) := by decide +kernel
theorem dJ8_hugeLength_7cf53_24 : decode cJ8_hugeLength_7cf53 24 = .ok (.iload_n 0, 1) := by decide +kernel
theorem dJ8_hugeLength_7cf53_25 : decode cJ8_hugeLength_7cf53 25 = .ok (.invokevirtual 98, 3) := by decide +kernel
theorem dJ8_hugeLength_7cf53_28 : decode cJ8_hugeLength_7cf53 28 = .ok (.ldc 208, 2) := by decide +kernel
theorem dJ8_hugeLength_7cf53_30 : decode cJ8_hugeLength_7cf53 30 = .ok (.invokevirtual 94, 3) := by decide +kernel
theorem dJ8_hugeLength_7cf53_33 : decode cJ8_hugeLength_7cf53 33 = .ok (.iload_n 1, 1) := by decide +kernel
theorem dJ8_hugeLength_7cf53_34 : decode cJ8_hugeLength_7cf53 34 = .ok (.invokevirtual 98, 3) := by decide +kernel
theorem dJ8_hugeLength_7cf53_37 : decode cJ8_hugeLength_7cf53 37 = .ok (.ldc 210, 2) := by decide +kernel
theorem dJ8_hugeLength_7cf53_39 : decode cJ8_hugeLength_7cf53 39 = .ok (.invokevirtual 94, 3) := by decide +kernel
theorem dJ8_hugeLength_7cf53_42 : decode cJ8_hugeLength_7cf53 42 = .ok (.invokevirtual 101, 3) := by decide +kernel
theorem dJ8_hugeLength_7cf53_45 : decode cJ8_hugeLength_7cf53 45 = .ok (.invokespecial 212, 3) := by decide +kernel
theorem dJ8_hugeLength_7cf53_48 : decode cJ8_hugeLength_7cf53 48 = .ok (.athrow, 1) := by decide +kernel
theorem dJ8_hugeLength_7cf53_49 : decode cJ8_hugeLength_7cf53 49 = .ok (.iload_n 2, 1) := by decide +kernel
theorem dJ8_hugeLength_7cf53_50 : decode cJ8_hugeLength_7cf53 50 = .ok (.ldc 200, 2) := by decide +kernel
theorem dJ8_hugeLength_7cf53_52 : decode cJ8_hugeLength_7cf53 52 = .ok (.if_icmp .gt 6, 3) := by decide +kernel
theorem dJ8_hugeLength_7cf53_55 : decode cJ8_hugeLength_7cf53 55 = .ok (.ldc 200, 2) := by decide +kernel
theorem dJ8_hugeLength_7cf53_57 : decode cJ8_hugeLength_7cf53 57 = .ok (.ireturn, 1) := by decide +kernel
theorem dJ8_hugeLength_7cf53_58 : decode cJ8_hugeLength_7cf53 58 = .ok (.iload_n 2, 1) := by decide +kernel
theorem dJ8_hugeLength_7cf53_59 : decode cJ8_hugeLength_7cf53 59 = .ok (.ireturn, 1) := by decide +kernel
theorem dJ3_checkIndex_8e157_0 : decode cJ3_checkIndex_8e157 0 = .ok (.iload_n 0, 1) := by decide +kernel
theorem dJ3_checkIndex_8e157_1 : decode cJ3_checkIndex_8e157 1 = .ok (.ifCond .lt 8, 3) := by decide +kernel
theorem dJ3_checkIndex_8e157_4 : decode cJ3_checkIndex_8e157 4 = .ok (.iload_n 0, 1) := by decide +kernel
theorem dJ3_checkIndex_8e157_5 : decode cJ3_checkIndex_8e157 5 = .ok (.iload_n 1, 1) := by decide +kernel
theorem dJ3_checkIndex_8e157_6 : decode cJ3_checkIndex_8e157 6 = .ok (.if_icmp .lt 10, 3) := by decide +kernel
theorem dJ3_checkIndex_8e157_9 : decode cJ3_checkIndex_8e157 9 = .ok (.aload_n 2, 1) := by decide +kernel
theorem dJ3_checkIndex_8e157_10 : decode cJ3_checkIndex_8e157 10 = .ok (.iload_n 0, 1) := by decide +kernel
theorem dJ3_checkIndex_8e157_11 : decode cJ3_checkIndex_8e157 11 = .ok (.iload_n 1, 1) := by decide +kernel
theorem dJ3_checkIndex_8e157_12 : decode cJ3_checkIndex_8e157 12 = .ok (.invokestatic 95, 3) := by decide +kernel
theorem dJ3_checkIndex_8e157_15 : decode cJ3_checkIndex_8e157 15 = .ok (.athrow, 1) := by decide +kernel
theorem dJ3_checkIndex_8e157_16 : decode cJ3_checkIndex_8e157 16 = .ok (.iload_n 0, 1) := by decide +kernel
theorem dJ3_checkIndex_8e157_17 : decode cJ3_checkIndex_8e157 17 = .ok (.ireturn, 1) := by decide +kernel
set_option maxRecDepth 20000 in
theorem ggL_setFallback_X2_setFallback : GoodIn wsL_setFallback wsX2_setFallback := goodIn_ca (goodIn_ca (goodIn_r _ [7, 8, 9, 10, 11, 12, 13, 14, 6, 15, 16, 17, 18, 19, 20, 21, 22, 23, 24, 25, 26, 27, 28, 29] (by decide +kernel) (by decide +kernel)) (goodIn_sub (fun _ h => List.mem_cons_of_mem _ (List.mem_append_left _ (List.mem_append_right _ h))) (by decide +kernel))) (goodIn_sub (fun _ h => List.mem_cons_of_mem _ (List.mem_append_right _ h)) (by decide +kernel))
set_option maxRecDepth 20000 in
theorem gL_setFallback_X2_setFallback : GoodIn wsL_setFallback (wsV RL 7 RX2 yX2_setFallback wsX2_setFallback) := goodIn_app (goodIn_of _ (by decide +kernel)) ggL_setFallback_X2_setFallback
theorem dL_setFallback_0 : decode cL_setFallback 0 = .ok (.aload_n 3, 1) := by decide +kernel
theorem dL_setFallback_1 : decode cL_setFallback 1 = .ok (.iconst 0, 1) := by decide +kernel
theorem dL_setFallback_2 : decode cL_setFallback 2 = .ok (.aload_n 0, 1) := by decide +kernel
theorem dL_setFallback_3 : decode cL_setFallback 3 = .ok (.iload_n 1, 1) := by decide +kernel
theorem dL_setFallback_4 : decode cL_setFallback 4 = .ok (.iload_n 2, 1) := by decide +kernel
theorem dL_setFallback_5 : decode cL_setFallback 5 = .ok (.invokevirtual 7, 3) := by decide +kernel
theorem dL_setFallback_8 : decode cL_setFallback 8 = .ok (.i2l, 1) := by decide +kernel
theorem dL_setFallback_9 : decode cL_setFallback 9 = .ok (.lastore, 1) := by decide +kernel
theorem dL_setFallback_10 : decode cL_setFallback 10 = .ok (.goto 11, 3) := by decide +kernel
theorem dL_setFallback_13 : decode cL_setFallback 13 = .ok (.astore 4, 2) := by decide +kernel
theorem dL_setFallback_15 : decode cL_setFallback 15 = .ok (.iconst 1, 1) := by decide +kernel
theorem dL_setFallback_16 : decode cL_setFallback 16 = .ok (.ireturn, 1) := by decide +kernel
theorem dL_setFallback_17 : decode cL_setFallback 17 = .ok (.astore 4, 2) := by decide +kernel
theorem dL_setFallback_19 : decode cL_setFallback 19 = .ok (.iconst 2, 1) := by decide +kernel
theorem dL_setFallback_20 : decode cL_setFallback 20 = .ok (.ireturn, 1) := by decide +kernel
theorem dL_setFallback_21 : decode cL_setFallback 21 = .ok (.iconst 0, 1) := by decide +kernel
theorem dL_setFallback_22 : decode cL_setFallback 22 = .ok (.ireturn, 1) := by decide +kernel
set_option maxRecDepth 20000 in
theorem ggL_setNumbers_X2_setNumbers : GoodIn wsL_setNumbers wsX2_setNumbers := goodIn_ca (goodIn_ca (goodIn_r _ [7, 8, 9, 10, 11, 6, 12, 13, 14, 15, 16, 17, 18, 19, 20, 21, 22, 23, 24, 25, 26, 27, 28, 29] (by decide +kernel) (by decide +kernel)) (goodIn_sub (fun _ h => List.mem_cons_of_mem _ (List.mem_append_left _ (List.mem_append_right _ h))) (by decide +kernel))) (goodIn_sub (fun _ h => List.mem_cons_of_mem _ (List.mem_append_right _ h)) (by decide +kernel))
set_option maxRecDepth 20000 in
theorem gL_setNumbers_X2_setNumbers : GoodIn wsL_setNumbers (wsV RL 17 RX2 yX2_setNumbers wsX2_setNumbers) := goodIn_app (goodIn_of _ (by decide +kernel)) ggL_setNumbers_X2_setNumbers
theorem dL_setNumbers_0 : decode cL_setNumbers 0 = .ok (.aload_n 0, 1) := by decide +kernel
theorem dL_setNumbers_1 : decode cL_setNumbers 1 = .ok (.iload_n 1, 1) := by decide +kernel
theorem dL_setNumbers_2 : decode cL_setNumbers 2 = .ok (.iload_n 2, 1) := by decide +kernel
theorem dL_setNumbers_3 : decode cL_setNumbers 3 = .ok (.iload_n 3, 1) := by decide +kernel
theorem dL_setNumbers_4 : decode cL_setNumbers 4 = .ok (.invokevirtual 17, 3) := by decide +kernel
theorem dL_setNumbers_7 : decode cL_setNumbers 7 = .ok (.goto 11, 3) := by decide +kernel
theorem dL_setNumbers_10 : decode cL_setNumbers 10 = .ok (.astore 4, 2) := by decide +kernel
theorem dL_setNumbers_12 : decode cL_setNumbers 12 = .ok (.iconst 1, 1) := by decide +kernel
theorem dL_setNumbers_13 : decode cL_setNumbers 13 = .ok (.ireturn, 1) := by decide +kernel
theorem dL_setNumbers_14 : decode cL_setNumbers 14 = .ok (.astore 4, 2) := by decide +kernel
theorem dL_setNumbers_16 : decode cL_setNumbers 16 = .ok (.iconst 2, 1) := by decide +kernel
theorem dL_setNumbers_17 : decode cL_setNumbers 17 = .ok (.ireturn, 1) := by decide +kernel
theorem dL_setNumbers_18 : decode cL_setNumbers 18 = .ok (.iconst 0, 1) := by decide +kernel
theorem dL_setNumbers_19 : decode cL_setNumbers 19 = .ok (.ireturn, 1) := by decide +kernel
set_option maxRecDepth 20000 in
theorem ggL_sign_X2_sign : GoodIn wsL_sign wsX2_sign := goodIn_ca (goodIn_ca (goodIn_r _ [7, 8, 9, 10, 11, 12, 13, 14, 15, 6, 16, 17, 18, 19, 20, 21, 22, 23, 24, 25, 26, 27, 28, 29] (by decide +kernel) (by decide +kernel)) (goodIn_sub (fun _ h => List.mem_cons_of_mem _ (List.mem_append_left _ (List.mem_append_right _ h))) (by decide +kernel))) (goodIn_sub (fun _ h => List.mem_cons_of_mem _ (List.mem_append_right _ h)) (by decide +kernel))
set_option maxRecDepth 20000 in
theorem gL_sign_X2_sign : GoodIn wsL_sign (wsV RL 21 RX2 yX2_sign wsX2_sign) := goodIn_app (goodIn_of _ (by decide +kernel)) ggL_sign_X2_sign
theorem dL_sign_0 : decode cL_sign 0 = .ok (.aload_n 2, 1) := by decide +kernel
theorem dL_sign_1 : decode cL_sign 1 = .ok (.iconst 0, 1) := by decide +kernel
theorem dL_sign_2 : decode cL_sign 2 = .ok (.aload_n 0, 1) := by decide +kernel
theorem dL_sign_3 : decode cL_sign 3 = .ok (.iload_n 1, 1) := by decide +kernel
theorem dL_sign_4 : decode cL_sign 4 = .ok (.invokevirtual 21, 3) := by decide +kernel
theorem dL_sign_7 : decode cL_sign 7 = .ok (.i2l, 1) := by decide +kernel
theorem dL_sign_8 : decode cL_sign 8 = .ok (.lastore, 1) := by decide +kernel
theorem dL_sign_9 : decode cL_sign 9 = .ok (.goto 9, 3) := by decide +kernel
theorem dL_sign_12 : decode cL_sign 12 = .ok (.astore_n 3, 1) := by decide +kernel
theorem dL_sign_13 : decode cL_sign 13 = .ok (.iconst 1, 1) := by decide +kernel
theorem dL_sign_14 : decode cL_sign 14 = .ok (.ireturn, 1) := by decide +kernel
theorem dL_sign_15 : decode cL_sign 15 = .ok (.astore_n 3, 1) := by decide +kernel
theorem dL_sign_16 : decode cL_sign 16 = .ok (.iconst 2, 1) := by decide +kernel
theorem dL_sign_17 : decode cL_sign 17 = .ok (.ireturn, 1) := by decide +kernel
theorem dL_sign_18 : decode cL_sign 18 = .ok (.iconst 0, 1) := by decide +kernel
theorem dL_sign_19 : decode cL_sign 19 = .ok (.ireturn, 1) := by decide +kernel
set_option maxRecDepth 20000 in
theorem ggL_set_X2_set : GoodIn wsL_set wsX2_set := goodIn_ca (goodIn_ca (goodIn_r _ [7, 8, 9, 10, 11, 12, 13, 14, 15, 16, 17, 6, 18, 19, 20, 21, 22, 23, 24, 25, 26, 27, 28, 29, 30, 31, 32, 33, 34, 35, 36, 37, 38, 39, 40, 41, 42, 43, 44, 45, 46, 47, 48, 49, 50, 51, 52, 53, 54, 55, 56, 57, 58, 59, 60, 61, 62, 63, 64, 65, 66, 67, 68, 69, 70, 71, 72, 73, 74, 75, 76, 77, 78, 79, 80, 81, 82, 83, 84, 85, 86, 87, 88, 89, 90, 91, 92, 93, 94, 95, 96, 97, 98, 99, 100, 101, 102, 103, 104, 105, 106, 107, 108, 109, 110, 111, 112, 113, 114, 115, 116, 117, 118, 119, 120, 121, 122, 123, 124, 125, 126, 127, 128, 129, 130, 131, 132, 133, 134, 135, 136, 137, 138, 139, 140, 141, 142, 143, 144, 145, 146, 147, 148, 149, 150, 151, 152, 153, 154, 155, 156, 157, 158, 159, 160, 161, 162, 163, 164, 165, 166, 167, 168, 169, 170, 171, 172, 173, 174, 175, 176, 177, 178, 179, 180, 181] (by decide +kernel) (by decide +kernel)) (goodIn_sub (fun _ h => List.mem_cons_of_mem _ (List.mem_append_left _ (List.mem_append_right _ h))) (by decide +kernel))) (goodIn_sub (fun _ h => List.mem_cons_of_mem _ (List.mem_append_right _ h)) (by decide +kernel))
set_option maxRecDepth 20000 in
theorem gL_set_X2_set : GoodIn wsL_set (wsV RL 27 RX2 yX2_set wsX2_set) := goodIn_app (goodIn_of _ (by decide +kernel)) ggL_set_X2_set
theorem dL_set_0 : decode cL_set 0 = .ok (.aload 6, 2) := by decide +kernel
theorem dL_set_2 : decode cL_set 2 = .ok (.iconst 0, 1) := by decide +kernel
theorem dL_set_3 : decode cL_set 3 = .ok (.aload_n 0, 1) := by decide +kernel
theorem dL_set_4 : decode cL_set 4 = .ok (.iload_n 1, 1) := by decide +kernel
theorem dL_set_5 : decode cL_set 5 = .ok (.iload_n 2, 1) := by decide +kernel
theorem dL_set_6 : decode cL_set 6 = .ok (.iload_n 3, 1) := by decide +kernel
theorem dL_set_7 : decode cL_set 7 = .ok (.iload 4, 2) := by decide +kernel
theorem dL_set_9 : decode cL_set 9 = .ok (.iload 5, 2) := by decide +kernel
theorem dL_set_11 : decode cL_set 11 = .ok (.invokevirtual 27, 3) := by decide +kernel
theorem dL_set_14 : decode cL_set 14 = .ok (.i2l, 1) := by decide +kernel
theorem dL_set_15 : decode cL_set 15 = .ok (.lastore, 1) := by decide +kernel
theorem dL_set_16 : decode cL_set 16 = .ok (.goto 11, 3) := by decide +kernel
theorem dL_set_19 : decode cL_set 19 = .ok (.astore 7, 2) := by decide +kernel
theorem dL_set_21 : decode cL_set 21 = .ok (.iconst 1, 1) := by decide +kernel
theorem dL_set_22 : decode cL_set 22 = .ok (.ireturn, 1) := by decide +kernel
theorem dL_set_23 : decode cL_set 23 = .ok (.astore 7, 2) := by decide +kernel
theorem dL_set_25 : decode cL_set 25 = .ok (.iconst 2, 1) := by decide +kernel
theorem dL_set_26 : decode cL_set 26 = .ok (.ireturn, 1) := by decide +kernel
theorem dL_set_27 : decode cL_set 27 = .ok (.iconst 0, 1) := by decide +kernel
theorem dL_set_28 : decode cL_set 28 = .ok (.ireturn, 1) := by decide +kernel
set_option maxRecDepth 20000 in
theorem ggL_remove_X2_remove : GoodIn wsL_remove wsX2_remove := goodIn_ca (goodIn_ca (goodIn_r _ [7, 8, 9, 10, 11, 12, 13, 6, 14, 15, 16, 17, 18, 19, 20, 21, 22, 23, 24, 25, 26, 27, 28, 29, 30, 31, 32, 33, 34, 35, 36, 37, 38, 39, 40, 41, 42, 43, 44, 45, 46, 47, 48, 49, 50, 51, 52, 53, 54, 55, 56, 57, 58, 59, 60, 61, 62, 63, 64, 65, 66, 67, 68, 69, 70, 71, 72, 73, 74, 75, 76, 77, 78, 79, 80, 81, 82, 83, 84, 85, 86, 87, 88, 89, 90, 91, 92, 93, 94, 95, 96, 97, 98, 99, 100, 101, 102, 103, 104, 105, 106, 107, 108, 109, 110, 111, 112, 113, 114, 115, 116, 117, 118, 119, 120, 121, 122, 123, 124, 125, 126, 127, 128, 129, 130, 131, 132, 133, 134, 135, 136, 137, 138, 139, 140, 141, 142, 143, 144, 145, 146, 147, 148, 149, 150, 151, 152, 153, 154] (by decide +kernel) (by decide +kernel)) (goodIn_sub (fun _ h => List.mem_cons_of_mem _ (List.mem_append_left _ (List.mem_append_right _ h))) (by decide +kernel))) (goodIn_sub (fun _ h => List.mem_cons_of_mem _ (List.mem_append_right _ h)) (by decide +kernel))
set_option maxRecDepth 20000 in
theorem gL_remove_X2_remove : GoodIn wsL_remove (wsV RL 31 RX2 yX2_remove wsX2_remove) := goodIn_app (goodIn_of _ (by decide +kernel)) ggL_remove_X2_remove
theorem dL_remove_0 : decode cL_remove 0 = .ok (.aload 5, 2) := by decide +kernel
theorem dL_remove_2 : decode cL_remove 2 = .ok (.iconst 0, 1) := by decide +kernel
theorem dL_remove_3 : decode cL_remove 3 = .ok (.aload_n 0, 1) := by decide +kernel
theorem dL_remove_4 : decode cL_remove 4 = .ok (.iload_n 1, 1) := by decide +kernel
theorem dL_remove_5 : decode cL_remove 5 = .ok (.iload_n 2, 1) := by decide +kernel
theorem dL_remove_6 : decode cL_remove 6 = .ok (.iload_n 3, 1) := by decide +kernel
theorem dL_remove_7 : decode cL_remove 7 = .ok (.iload 4, 2) := by decide +kernel
theorem dL_remove_9 : decode cL_remove 9 = .ok (.invokevirtual 31, 3) := by decide +kernel
theorem dL_remove_12 : decode cL_remove 12 = .ok (.i2l, 1) := by decide +kernel
theorem dL_remove_13 : decode cL_remove 13 = .ok (.lastore, 1) := by decide +kernel
theorem dL_remove_14 : decode cL_remove 14 = .ok (.goto 11, 3) := by decide +kernel
theorem dL_remove_17 : decode cL_remove 17 = .ok (.astore 6, 2) := by decide +kernel
theorem dL_remove_19 : decode cL_remove 19 = .ok (.iconst 1, 1) := by decide +kernel
theorem dL_remove_20 : decode cL_remove 20 = .ok (.ireturn, 1) := by decide +kernel
theorem dL_remove_21 : decode cL_remove 21 = .ok (.astore 6, 2) := by decide +kernel
theorem dL_remove_23 : decode cL_remove 23 = .ok (.iconst 2, 1) := by decide +kernel
theorem dL_remove_24 : decode cL_remove 24 = .ok (.ireturn, 1) := by decide +kernel
theorem dL_remove_25 : decode cL_remove 25 = .ok (.iconst 0, 1) := by decide +kernel
theorem dL_remove_26 : decode cL_remove 26 = .ok (.ireturn, 1) := by decide +kernel
set_option maxRecDepth 20000 in
theorem ggL_kindOf_X2_kindOf : GoodIn wsL_kindOf wsX2_kindOf := goodIn_ca (goodIn_ca (goodIn_r _ [7, 8, 9, 6, 10, 11, 12, 13, 14, 15, 16, 17, 18, 19, 20, 21, 22, 23, 24, 25, 26, 27, 28, 29, 30, 31, 32, 33] (by decide +kernel) (by decide +kernel)) (goodIn_sub (fun _ h => List.mem_cons_of_mem _ (List.mem_append_left _ (List.mem_append_right _ h))) (by decide +kernel))) (goodIn_sub (fun _ h => List.mem_cons_of_mem _ (List.mem_append_right _ h)) (by decide +kernel))
set_option maxRecDepth 20000 in
theorem gL_kindOf_X2_kindOf : GoodIn wsL_kindOf (wsV RL 35 RX2 yX2_kindOf wsX2_kindOf) := goodIn_app (goodIn_of _ (by decide +kernel)) ggL_kindOf_X2_kindOf
theorem dL_kindOf_0 : decode cL_kindOf 0 = .ok (.aload_n 3, 1) := by decide +kernel
theorem dL_kindOf_1 : decode cL_kindOf 1 = .ok (.iconst 0, 1) := by decide +kernel
theorem dL_kindOf_2 : decode cL_kindOf 2 = .ok (.aload_n 0, 1) := by decide +kernel
theorem dL_kindOf_3 : decode cL_kindOf 3 = .ok (.iload_n 1, 1) := by decide +kernel
theorem dL_kindOf_4 : decode cL_kindOf 4 = .ok (.iload_n 2, 1) := by decide +kernel
theorem dL_kindOf_5 : decode cL_kindOf 5 = .ok (.invokevirtual 35, 3) := by decide +kernel
theorem dL_kindOf_8 : decode cL_kindOf 8 = .ok (.i2l, 1) := by decide +kernel
theorem dL_kindOf_9 : decode cL_kindOf 9 = .ok (.lastore, 1) := by decide +kernel
theorem dL_kindOf_10 : decode cL_kindOf 10 = .ok (.goto 11, 3) := by decide +kernel
theorem dL_kindOf_13 : decode cL_kindOf 13 = .ok (.astore 4, 2) := by decide +kernel
theorem dL_kindOf_15 : decode cL_kindOf 15 = .ok (.iconst 1, 1) := by decide +kernel
theorem dL_kindOf_16 : decode cL_kindOf 16 = .ok (.ireturn, 1) := by decide +kernel
theorem dL_kindOf_17 : decode cL_kindOf 17 = .ok (.astore 4, 2) := by decide +kernel
theorem dL_kindOf_19 : decode cL_kindOf 19 = .ok (.iconst 2, 1) := by decide +kernel
theorem dL_kindOf_20 : decode cL_kindOf 20 = .ok (.ireturn, 1) := by decide +kernel
theorem dL_kindOf_21 : decode cL_kindOf 21 = .ok (.iconst 0, 1) := by decide +kernel
theorem dL_kindOf_22 : decode cL_kindOf 22 = .ok (.ireturn, 1) := by decide +kernel
set_option maxRecDepth 20000 in
theorem ggL_forms_X2_forms : GoodIn wsL_forms wsX2_forms := goodIn_ca (goodIn_r _ [6, 7, 8, 5, 9, 10, 11, 12, 13, 14, 15, 16, 17, 18, 19, 20, 21, 22, 23, 24, 25, 26, 27, 28, 29, 30, 31, 32, 33, 34, 35] (by decide +kernel) (by decide +kernel)) (goodIn_sub (fun _ h => List.mem_cons_of_mem _ (List.mem_append_right _ h)) (by decide +kernel))
set_option maxRecDepth 20000 in
theorem gL_forms_X2_forms : GoodIn wsL_forms (wsV RL 38 RX2 yX2_forms wsX2_forms) := goodIn_app (goodIn_of _ (by decide +kernel)) ggL_forms_X2_forms
theorem dL_forms_0 : decode cL_forms 0 = .ok (.aload_n 3, 1) := by decide +kernel
theorem dL_forms_1 : decode cL_forms 1 = .ok (.iconst 0, 1) := by decide +kernel
theorem dL_forms_2 : decode cL_forms 2 = .ok (.aload_n 0, 1) := by decide +kernel
theorem dL_forms_3 : decode cL_forms 3 = .ok (.iload_n 1, 1) := by decide +kernel
theorem dL_forms_4 : decode cL_forms 4 = .ok (.iload_n 2, 1) := by decide +kernel
theorem dL_forms_5 : decode cL_forms 5 = .ok (.invokevirtual 38, 3) := by decide +kernel
theorem dL_forms_8 : decode cL_forms 8 = .ok (.i2l, 1) := by decide +kernel
theorem dL_forms_9 : decode cL_forms 9 = .ok (.lastore, 1) := by decide +kernel
theorem dL_forms_10 : decode cL_forms 10 = .ok (.goto 7, 3) := by decide +kernel
theorem dL_forms_13 : decode cL_forms 13 = .ok (.astore 4, 2) := by decide +kernel
theorem dL_forms_15 : decode cL_forms 15 = .ok (.iconst 1, 1) := by decide +kernel
theorem dL_forms_16 : decode cL_forms 16 = .ok (.ireturn, 1) := by decide +kernel
theorem dL_forms_17 : decode cL_forms 17 = .ok (.iconst 0, 1) := by decide +kernel
theorem dL_forms_18 : decode cL_forms 18 = .ok (.ireturn, 1) := by decide +kernel
set_option maxRecDepth 20000 in
theorem ggL_version_X2_version : GoodIn wsL_version wsX2_version := goodIn_ca (goodIn_r _ [6, 7, 8, 9, 5, 10, 11, 12, 13, 14, 15, 16, 17, 18, 19, 20, 21, 22] (by decide +kernel) (by decide +kernel)) (goodIn_sub (fun _ h => List.mem_cons_of_mem _ (List.mem_append_right _ h)) (by decide +kernel))
set_option maxRecDepth 20000 in
theorem gL_version_X2_version : GoodIn wsL_version (wsV RL 41 RX2 yX2_version wsX2_version) := goodIn_app (goodIn_of _ (by decide +kernel)) ggL_version_X2_version
theorem dL_version_0 : decode cL_version 0 = .ok (.aload_n 2, 1) := by decide +kernel
theorem dL_version_1 : decode cL_version 1 = .ok (.iconst 0, 1) := by decide +kernel
theorem dL_version_2 : decode cL_version 2 = .ok (.aload_n 0, 1) := by decide +kernel
theorem dL_version_3 : decode cL_version 3 = .ok (.iload_n 1, 1) := by decide +kernel
theorem dL_version_4 : decode cL_version 4 = .ok (.invokevirtual 41, 3) := by decide +kernel
theorem dL_version_7 : decode cL_version 7 = .ok (.i2l, 1) := by decide +kernel
theorem dL_version_8 : decode cL_version 8 = .ok (.lastore, 1) := by decide +kernel
theorem dL_version_9 : decode cL_version 9 = .ok (.goto 6, 3) := by decide +kernel
theorem dL_version_12 : decode cL_version 12 = .ok (.astore_n 3, 1) := by decide +kernel
theorem dL_version_13 : decode cL_version 13 = .ok (.iconst 1, 1) := by decide +kernel
theorem dL_version_14 : decode cL_version 14 = .ok (.ireturn, 1) := by decide +kernel
theorem dL_version_15 : decode cL_version 15 = .ok (.iconst 0, 1) := by decide +kernel
theorem dL_version_16 : decode cL_version 16 = .ok (.ireturn, 1) := by decide +kernel
set_option maxRecDepth 20000 in
theorem ggL_staleBy_X2_staleBy : GoodIn wsL_staleBy wsX2_staleBy := goodIn_ca (goodIn_r _ [6, 7, 8, 9, 10, 5, 11, 12, 13, 14, 15, 16, 17, 18, 19, 20, 21, 22, 23, 24, 25, 26, 27, 28, 29, 30, 31, 32, 33, 34, 35, 36, 37] (by decide +kernel) (by decide +kernel)) (goodIn_sub (fun _ h => List.mem_cons_of_mem _ (List.mem_append_right _ h)) (by decide +kernel))
set_option maxRecDepth 20000 in
theorem gL_staleBy_X2_staleBy : GoodIn wsL_staleBy (wsV RL 44 RX2 yX2_staleBy wsX2_staleBy) := goodIn_app (goodIn_of _ (by decide +kernel)) ggL_staleBy_X2_staleBy
theorem dL_staleBy_0 : decode cL_staleBy 0 = .ok (.aload_n 3, 1) := by decide +kernel
theorem dL_staleBy_1 : decode cL_staleBy 1 = .ok (.iconst 0, 1) := by decide +kernel
theorem dL_staleBy_2 : decode cL_staleBy 2 = .ok (.aload_n 0, 1) := by decide +kernel
theorem dL_staleBy_3 : decode cL_staleBy 3 = .ok (.iload_n 1, 1) := by decide +kernel
theorem dL_staleBy_4 : decode cL_staleBy 4 = .ok (.iload_n 2, 1) := by decide +kernel
theorem dL_staleBy_5 : decode cL_staleBy 5 = .ok (.invokevirtual 44, 3) := by decide +kernel
theorem dL_staleBy_8 : decode cL_staleBy 8 = .ok (.i2l, 1) := by decide +kernel
theorem dL_staleBy_9 : decode cL_staleBy 9 = .ok (.lastore, 1) := by decide +kernel
theorem dL_staleBy_10 : decode cL_staleBy 10 = .ok (.goto 7, 3) := by decide +kernel
theorem dL_staleBy_13 : decode cL_staleBy 13 = .ok (.astore 4, 2) := by decide +kernel
theorem dL_staleBy_15 : decode cL_staleBy 15 = .ok (.iconst 1, 1) := by decide +kernel
theorem dL_staleBy_16 : decode cL_staleBy 16 = .ok (.ireturn, 1) := by decide +kernel
theorem dL_staleBy_17 : decode cL_staleBy 17 = .ok (.iconst 0, 1) := by decide +kernel
theorem dL_staleBy_18 : decode cL_staleBy 18 = .ok (.ireturn, 1) := by decide +kernel
set_option maxRecDepth 20000 in
theorem ggL_missing_X2_missing : GoodIn wsL_missing wsX2_missing := goodIn_ca (goodIn_r _ [6, 7, 8, 5, 9, 10, 11, 12, 13, 14, 15, 16, 17, 18, 19, 20, 21, 22, 23, 24, 25, 26, 27, 28, 29, 30, 31, 32] (by decide +kernel) (by decide +kernel)) (goodIn_sub (fun _ h => List.mem_cons_of_mem _ (List.mem_append_right _ h)) (by decide +kernel))
set_option maxRecDepth 20000 in
theorem gL_missing_X2_missing : GoodIn wsL_missing (wsV RL 47 RX2 yX2_missing wsX2_missing) := goodIn_app (goodIn_of _ (by decide +kernel)) ggL_missing_X2_missing
theorem dL_missing_0 : decode cL_missing 0 = .ok (.aload_n 2, 1) := by decide +kernel
theorem dL_missing_1 : decode cL_missing 1 = .ok (.iconst 0, 1) := by decide +kernel
theorem dL_missing_2 : decode cL_missing 2 = .ok (.aload_n 0, 1) := by decide +kernel
theorem dL_missing_3 : decode cL_missing 3 = .ok (.iload_n 1, 1) := by decide +kernel
theorem dL_missing_4 : decode cL_missing 4 = .ok (.invokevirtual 47, 3) := by decide +kernel
theorem dL_missing_7 : decode cL_missing 7 = .ok (.i2l, 1) := by decide +kernel
theorem dL_missing_8 : decode cL_missing 8 = .ok (.lastore, 1) := by decide +kernel
theorem dL_missing_9 : decode cL_missing 9 = .ok (.goto 6, 3) := by decide +kernel
theorem dL_missing_12 : decode cL_missing 12 = .ok (.astore_n 3, 1) := by decide +kernel
theorem dL_missing_13 : decode cL_missing 13 = .ok (.iconst 1, 1) := by decide +kernel
theorem dL_missing_14 : decode cL_missing 14 = .ok (.ireturn, 1) := by decide +kernel
theorem dL_missing_15 : decode cL_missing 15 = .ok (.iconst 0, 1) := by decide +kernel
theorem dL_missing_16 : decode cL_missing 16 = .ok (.ireturn, 1) := by decide +kernel
set_option maxRecDepth 20000 in
theorem ggL_fits_X2_fits : GoodIn wsL_fits wsX2_fits := goodIn_ca (goodIn_r _ [6, 7, 8, 9, 5, 10, 11, 12, 13, 14, 15, 16, 17, 18, 19, 20, 21, 22, 23, 24, 25, 26, 27, 28, 29, 30, 31, 32, 33, 34, 35, 36, 37, 38, 39, 40, 41, 42, 43, 44, 45, 46, 47, 48, 49, 50] (by decide +kernel) (by decide +kernel)) (goodIn_sub (fun _ h => List.mem_cons_of_mem _ (List.mem_append_right _ h)) (by decide +kernel))
set_option maxRecDepth 20000 in
theorem gL_fits_X2_fits : GoodIn wsL_fits (wsV RL 50 RX2 yX2_fits wsX2_fits) := goodIn_app (goodIn_of _ (by decide +kernel)) ggL_fits_X2_fits
theorem dL_fits_0 : decode cL_fits 0 = .ok (.aload 5, 2) := by decide +kernel
theorem dL_fits_2 : decode cL_fits 2 = .ok (.iconst 0, 1) := by decide +kernel
theorem dL_fits_3 : decode cL_fits 3 = .ok (.aload_n 0, 1) := by decide +kernel
theorem dL_fits_4 : decode cL_fits 4 = .ok (.iload_n 1, 1) := by decide +kernel
theorem dL_fits_5 : decode cL_fits 5 = .ok (.iload_n 2, 1) := by decide +kernel
theorem dL_fits_6 : decode cL_fits 6 = .ok (.iload_n 3, 1) := by decide +kernel
theorem dL_fits_7 : decode cL_fits 7 = .ok (.iload 4, 2) := by decide +kernel
theorem dL_fits_9 : decode cL_fits 9 = .ok (.invokevirtual 50, 3) := by decide +kernel
theorem dL_fits_12 : decode cL_fits 12 = .ok (.ifCond .eq 7, 3) := by decide +kernel
theorem dL_fits_15 : decode cL_fits 15 = .ok (.lconst 1, 1) := by decide +kernel
theorem dL_fits_16 : decode cL_fits 16 = .ok (.goto 4, 3) := by decide +kernel
theorem dL_fits_19 : decode cL_fits 19 = .ok (.lconst 0, 1) := by decide +kernel
theorem dL_fits_20 : decode cL_fits 20 = .ok (.lastore, 1) := by decide +kernel
theorem dL_fits_21 : decode cL_fits 21 = .ok (.goto 7, 3) := by decide +kernel
theorem dL_fits_24 : decode cL_fits 24 = .ok (.astore 6, 2) := by decide +kernel
theorem dL_fits_26 : decode cL_fits 26 = .ok (.iconst 1, 1) := by decide +kernel
theorem dL_fits_27 : decode cL_fits 27 = .ok (.ireturn, 1) := by decide +kernel
theorem dL_fits_28 : decode cL_fits 28 = .ok (.iconst 0, 1) := by decide +kernel
theorem dL_fits_29 : decode cL_fits 29 = .ok (.ireturn, 1) := by decide +kernel
set_option maxRecDepth 20000 in
theorem ggL_toldBy_X2_toldBy : GoodIn wsL_toldBy wsX2_toldBy := goodIn_ca (goodIn_ca (goodIn_r _ [7, 8, 9, 6, 10, 11, 12, 13, 14, 15, 16, 17, 18, 19, 20, 21, 22, 23, 24, 25, 26, 27, 28, 29, 30, 31, 32, 33, 34, 35, 36, 37, 38, 39, 40, 41, 42, 43, 44, 45, 46, 47, 48, 49, 50, 51, 52, 53, 54, 55, 56, 57, 58, 59, 60, 61, 62, 63, 64, 65, 66, 67, 68, 69, 70, 71, 72, 73, 74, 75, 76, 77, 78] (by decide +kernel) (by decide +kernel)) (goodIn_sub (fun _ h => List.mem_cons_of_mem _ (List.mem_append_left _ (List.mem_append_right _ h))) (by decide +kernel))) (goodIn_sub (fun _ h => List.mem_cons_of_mem _ (List.mem_append_right _ h)) (by decide +kernel))
set_option maxRecDepth 20000 in
theorem gL_toldBy_X2_toldBy : GoodIn wsL_toldBy (wsV RL 54 RX2 yX2_toldBy wsX2_toldBy) := goodIn_app (goodIn_of _ (by decide +kernel)) ggL_toldBy_X2_toldBy
theorem dL_toldBy_0 : decode cL_toldBy 0 = .ok (.aload 5, 2) := by decide +kernel
theorem dL_toldBy_2 : decode cL_toldBy 2 = .ok (.iconst 0, 1) := by decide +kernel
theorem dL_toldBy_3 : decode cL_toldBy 3 = .ok (.aload_n 0, 1) := by decide +kernel
theorem dL_toldBy_4 : decode cL_toldBy 4 = .ok (.iload_n 1, 1) := by decide +kernel
theorem dL_toldBy_5 : decode cL_toldBy 5 = .ok (.iload_n 2, 1) := by decide +kernel
theorem dL_toldBy_6 : decode cL_toldBy 6 = .ok (.iload_n 3, 1) := by decide +kernel
theorem dL_toldBy_7 : decode cL_toldBy 7 = .ok (.iload 4, 2) := by decide +kernel
theorem dL_toldBy_9 : decode cL_toldBy 9 = .ok (.invokevirtual 54, 3) := by decide +kernel
theorem dL_toldBy_12 : decode cL_toldBy 12 = .ok (.i2l, 1) := by decide +kernel
theorem dL_toldBy_13 : decode cL_toldBy 13 = .ok (.lastore, 1) := by decide +kernel
theorem dL_toldBy_14 : decode cL_toldBy 14 = .ok (.goto 11, 3) := by decide +kernel
theorem dL_toldBy_17 : decode cL_toldBy 17 = .ok (.astore 6, 2) := by decide +kernel
theorem dL_toldBy_19 : decode cL_toldBy 19 = .ok (.iconst 1, 1) := by decide +kernel
theorem dL_toldBy_20 : decode cL_toldBy 20 = .ok (.ireturn, 1) := by decide +kernel
theorem dL_toldBy_21 : decode cL_toldBy 21 = .ok (.astore 6, 2) := by decide +kernel
theorem dL_toldBy_23 : decode cL_toldBy 23 = .ok (.iconst 2, 1) := by decide +kernel
theorem dL_toldBy_24 : decode cL_toldBy 24 = .ok (.ireturn, 1) := by decide +kernel
theorem dL_toldBy_25 : decode cL_toldBy 25 = .ok (.iconst 0, 1) := by decide +kernel
theorem dL_toldBy_26 : decode cL_toldBy 26 = .ok (.ireturn, 1) := by decide +kernel
end
section
set_option maxRecDepth 20000 in
theorem ggL_toldByLooking_X2_toldByLooking : GoodIn wsL_toldByLooking wsX2_toldByLooking := goodIn_ca (goodIn_ca (goodIn_r _ [7, 8, 9, 6, 10, 11, 12, 13, 14, 15, 16, 17, 18, 19, 20, 21, 22, 23, 24, 25, 26, 27, 28, 29, 30, 31, 32, 33, 34, 35, 36, 37, 38, 39, 40, 41, 42, 43, 44, 45, 46, 47, 48, 49, 50, 51, 52, 53, 54, 55, 56, 57, 58, 59, 60, 61, 62, 63, 64, 65, 66, 67, 68, 69, 70, 71, 72, 73, 74, 75, 76, 77, 78, 79, 80, 81] (by decide +kernel) (by decide +kernel)) (goodIn_sub (fun _ h => List.mem_cons_of_mem _ (List.mem_append_left _ (List.mem_append_right _ h))) (by decide +kernel))) (goodIn_sub (fun _ h => List.mem_cons_of_mem _ (List.mem_append_right _ h)) (by decide +kernel))
set_option maxRecDepth 20000 in
theorem gL_toldByLooking_X2_toldByLooking : GoodIn wsL_toldByLooking (wsV RL 57 RX2 yX2_toldByLooking wsX2_toldByLooking) := goodIn_app (goodIn_of _ (by decide +kernel)) ggL_toldByLooking_X2_toldByLooking
theorem dL_toldByLooking_0 : decode cL_toldByLooking 0 = .ok (.aload 5, 2) := by decide +kernel
theorem dL_toldByLooking_2 : decode cL_toldByLooking 2 = .ok (.iconst 0, 1) := by decide +kernel
theorem dL_toldByLooking_3 : decode cL_toldByLooking 3 = .ok (.aload_n 0, 1) := by decide +kernel
theorem dL_toldByLooking_4 : decode cL_toldByLooking 4 = .ok (.iload_n 1, 1) := by decide +kernel
theorem dL_toldByLooking_5 : decode cL_toldByLooking 5 = .ok (.iload_n 2, 1) := by decide +kernel
theorem dL_toldByLooking_6 : decode cL_toldByLooking 6 = .ok (.iload_n 3, 1) := by decide +kernel
theorem dL_toldByLooking_7 : decode cL_toldByLooking 7 = .ok (.iload 4, 2) := by decide +kernel
theorem dL_toldByLooking_9 : decode cL_toldByLooking 9 = .ok (.invokevirtual 57, 3) := by decide +kernel
theorem dL_toldByLooking_12 : decode cL_toldByLooking 12 = .ok (.i2l, 1) := by decide +kernel
theorem dL_toldByLooking_13 : decode cL_toldByLooking 13 = .ok (.lastore, 1) := by decide +kernel
theorem dL_toldByLooking_14 : decode cL_toldByLooking 14 = .ok (.goto 11, 3) := by decide +kernel
theorem dL_toldByLooking_17 : decode cL_toldByLooking 17 = .ok (.astore 6, 2) := by decide +kernel
theorem dL_toldByLooking_19 : decode cL_toldByLooking 19 = .ok (.iconst 1, 1) := by decide +kernel
theorem dL_toldByLooking_20 : decode cL_toldByLooking 20 = .ok (.ireturn, 1) := by decide +kernel
theorem dL_toldByLooking_21 : decode cL_toldByLooking 21 = .ok (.astore 6, 2) := by decide +kernel
theorem dL_toldByLooking_23 : decode cL_toldByLooking 23 = .ok (.iconst 2, 1) := by decide +kernel
theorem dL_toldByLooking_24 : decode cL_toldByLooking 24 = .ok (.ireturn, 1) := by decide +kernel
theorem dL_toldByLooking_25 : decode cL_toldByLooking 25 = .ok (.iconst 0, 1) := by decide +kernel
theorem dL_toldByLooking_26 : decode cL_toldByLooking 26 = .ok (.ireturn, 1) := by decide +kernel
set_option maxRecDepth 20000 in
theorem ggL_toldForm_X2_toldForm : GoodIn wsL_toldForm wsX2_toldForm := goodIn_ca (goodIn_ca (goodIn_r _ [7, 8, 9, 6, 10, 11, 12, 13, 14, 15, 16, 17, 18, 19, 20, 21, 22, 23, 24, 25, 26, 27, 28, 29, 30, 31, 32, 33, 34, 35, 36, 37, 38, 39, 40, 41, 42, 43, 44, 45, 46, 47, 48, 49, 50, 51, 52, 53, 54, 55, 56, 57, 58, 59, 60, 61, 62, 63, 64, 65, 66, 67, 68, 69, 70, 71, 72, 73, 74, 75] (by decide +kernel) (by decide +kernel)) (goodIn_sub (fun _ h => List.mem_cons_of_mem _ (List.mem_append_left _ (List.mem_append_right _ h))) (by decide +kernel))) (goodIn_sub (fun _ h => List.mem_cons_of_mem _ (List.mem_append_right _ h)) (by decide +kernel))
set_option maxRecDepth 20000 in
theorem gL_toldForm_X2_toldForm : GoodIn wsL_toldForm (wsV RL 60 RX2 yX2_toldForm wsX2_toldForm) := goodIn_app (goodIn_of _ (by decide +kernel)) ggL_toldForm_X2_toldForm
theorem dL_toldForm_0 : decode cL_toldForm 0 = .ok (.aload 5, 2) := by decide +kernel
theorem dL_toldForm_2 : decode cL_toldForm 2 = .ok (.iconst 0, 1) := by decide +kernel
theorem dL_toldForm_3 : decode cL_toldForm 3 = .ok (.aload_n 0, 1) := by decide +kernel
theorem dL_toldForm_4 : decode cL_toldForm 4 = .ok (.iload_n 1, 1) := by decide +kernel
theorem dL_toldForm_5 : decode cL_toldForm 5 = .ok (.iload_n 2, 1) := by decide +kernel
theorem dL_toldForm_6 : decode cL_toldForm 6 = .ok (.iload_n 3, 1) := by decide +kernel
theorem dL_toldForm_7 : decode cL_toldForm 7 = .ok (.iload 4, 2) := by decide +kernel
theorem dL_toldForm_9 : decode cL_toldForm 9 = .ok (.invokevirtual 60, 3) := by decide +kernel
theorem dL_toldForm_12 : decode cL_toldForm 12 = .ok (.i2l, 1) := by decide +kernel
theorem dL_toldForm_13 : decode cL_toldForm 13 = .ok (.lastore, 1) := by decide +kernel
theorem dL_toldForm_14 : decode cL_toldForm 14 = .ok (.goto 11, 3) := by decide +kernel
theorem dL_toldForm_17 : decode cL_toldForm 17 = .ok (.astore 6, 2) := by decide +kernel
theorem dL_toldForm_19 : decode cL_toldForm 19 = .ok (.iconst 1, 1) := by decide +kernel
theorem dL_toldForm_20 : decode cL_toldForm 20 = .ok (.ireturn, 1) := by decide +kernel
theorem dL_toldForm_21 : decode cL_toldForm 21 = .ok (.astore 6, 2) := by decide +kernel
theorem dL_toldForm_23 : decode cL_toldForm 23 = .ok (.iconst 2, 1) := by decide +kernel
theorem dL_toldForm_24 : decode cL_toldForm 24 = .ok (.ireturn, 1) := by decide +kernel
theorem dL_toldForm_25 : decode cL_toldForm 25 = .ok (.iconst 0, 1) := by decide +kernel
theorem dL_toldForm_26 : decode cL_toldForm 26 = .ok (.ireturn, 1) := by decide +kernel
set_option maxRecDepth 20000 in
theorem ggL_toldSign_X2_toldSign : GoodIn wsL_toldSign wsX2_toldSign := goodIn_ca (goodIn_ca (goodIn_r _ [7, 8, 9, 10, 11, 12, 13, 6, 14, 15, 16, 17, 18, 19, 20, 21, 22, 23, 24, 25, 26, 27, 28, 29, 30, 31, 32, 33, 34, 35, 36, 37, 38, 39, 40, 41, 42, 43, 44, 45, 46, 47, 48, 49, 50, 51, 52, 53, 54, 55, 56, 57, 58, 59, 60, 61, 62, 63, 64, 65, 66, 67, 68, 69, 70, 71, 72, 73, 74, 75, 76] (by decide +kernel) (by decide +kernel)) (goodIn_sub (fun _ h => List.mem_cons_of_mem _ (List.mem_append_left _ (List.mem_append_right _ h))) (by decide +kernel))) (goodIn_sub (fun _ h => List.mem_cons_of_mem _ (List.mem_append_right _ h)) (by decide +kernel))
set_option maxRecDepth 20000 in
theorem gL_toldSign_X2_toldSign : GoodIn wsL_toldSign (wsV RL 63 RX2 yX2_toldSign wsX2_toldSign) := goodIn_app (goodIn_of _ (by decide +kernel)) ggL_toldSign_X2_toldSign
theorem dL_toldSign_0 : decode cL_toldSign 0 = .ok (.aload 6, 2) := by decide +kernel
theorem dL_toldSign_2 : decode cL_toldSign 2 = .ok (.iconst 0, 1) := by decide +kernel
theorem dL_toldSign_3 : decode cL_toldSign 3 = .ok (.aload_n 0, 1) := by decide +kernel
theorem dL_toldSign_4 : decode cL_toldSign 4 = .ok (.iload_n 1, 1) := by decide +kernel
theorem dL_toldSign_5 : decode cL_toldSign 5 = .ok (.iload_n 2, 1) := by decide +kernel
theorem dL_toldSign_6 : decode cL_toldSign 6 = .ok (.iload_n 3, 1) := by decide +kernel
theorem dL_toldSign_7 : decode cL_toldSign 7 = .ok (.iload 4, 2) := by decide +kernel
theorem dL_toldSign_9 : decode cL_toldSign 9 = .ok (.iload 5, 2) := by decide +kernel
theorem dL_toldSign_11 : decode cL_toldSign 11 = .ok (.invokevirtual 63, 3) := by decide +kernel
theorem dL_toldSign_14 : decode cL_toldSign 14 = .ok (.i2l, 1) := by decide +kernel
theorem dL_toldSign_15 : decode cL_toldSign 15 = .ok (.lastore, 1) := by decide +kernel
theorem dL_toldSign_16 : decode cL_toldSign 16 = .ok (.goto 11, 3) := by decide +kernel
theorem dL_toldSign_19 : decode cL_toldSign 19 = .ok (.astore 7, 2) := by decide +kernel
theorem dL_toldSign_21 : decode cL_toldSign 21 = .ok (.iconst 1, 1) := by decide +kernel
theorem dL_toldSign_22 : decode cL_toldSign 22 = .ok (.ireturn, 1) := by decide +kernel
theorem dL_toldSign_23 : decode cL_toldSign 23 = .ok (.astore 7, 2) := by decide +kernel
theorem dL_toldSign_25 : decode cL_toldSign 25 = .ok (.iconst 2, 1) := by decide +kernel
theorem dL_toldSign_26 : decode cL_toldSign 26 = .ok (.ireturn, 1) := by decide +kernel
theorem dL_toldSign_27 : decode cL_toldSign 27 = .ok (.iconst 0, 1) := by decide +kernel
theorem dL_toldSign_28 : decode cL_toldSign 28 = .ok (.ireturn, 1) := by decide +kernel
set_option maxRecDepth 20000 in
theorem ggL_nearDistance_X2_nearDistance : GoodIn wsL_nearDistance wsX2_nearDistance := goodIn_ca (goodIn_r _ [6, 7, 8, 9, 10, 5, 11, 12, 13, 14, 15, 16, 17, 18, 19, 20, 21, 22, 23, 24, 25, 26, 27, 28, 29, 30, 31, 32, 33, 34, 35, 36, 37, 38, 39, 40, 41, 42, 43, 44, 45, 46, 47, 48, 49, 50, 51, 52, 53, 54, 55, 56, 57, 58, 59, 60, 61, 62, 63, 64, 65, 66, 67, 68, 69, 70, 71, 72, 73, 74, 75, 76, 77, 78, 79, 80, 81, 82, 83, 84, 85, 86, 87] (by decide +kernel) (by decide +kernel)) (goodIn_sub (fun _ h => List.mem_cons_of_mem _ (List.mem_append_right _ h)) (by decide +kernel))
set_option maxRecDepth 20000 in
theorem gL_nearDistance_X2_nearDistance : GoodIn wsL_nearDistance (wsV RL 67 RX2 yX2_nearDistance wsX2_nearDistance) := goodIn_app (goodIn_of _ (by decide +kernel)) ggL_nearDistance_X2_nearDistance
theorem dL_nearDistance_0 : decode cL_nearDistance 0 = .ok (.aload 5, 2) := by decide +kernel
theorem dL_nearDistance_2 : decode cL_nearDistance 2 = .ok (.iconst 0, 1) := by decide +kernel
theorem dL_nearDistance_3 : decode cL_nearDistance 3 = .ok (.aload_n 0, 1) := by decide +kernel
theorem dL_nearDistance_4 : decode cL_nearDistance 4 = .ok (.iload_n 1, 1) := by decide +kernel
theorem dL_nearDistance_5 : decode cL_nearDistance 5 = .ok (.iload_n 2, 1) := by decide +kernel
theorem dL_nearDistance_6 : decode cL_nearDistance 6 = .ok (.iload_n 3, 1) := by decide +kernel
theorem dL_nearDistance_7 : decode cL_nearDistance 7 = .ok (.iload 4, 2) := by decide +kernel
theorem dL_nearDistance_9 : decode cL_nearDistance 9 = .ok (.invokevirtual 67, 3) := by decide +kernel
theorem dL_nearDistance_12 : decode cL_nearDistance 12 = .ok (.i2l, 1) := by decide +kernel
theorem dL_nearDistance_13 : decode cL_nearDistance 13 = .ok (.lastore, 1) := by decide +kernel
theorem dL_nearDistance_14 : decode cL_nearDistance 14 = .ok (.goto 7, 3) := by decide +kernel
theorem dL_nearDistance_17 : decode cL_nearDistance 17 = .ok (.astore 6, 2) := by decide +kernel
theorem dL_nearDistance_19 : decode cL_nearDistance 19 = .ok (.iconst 1, 1) := by decide +kernel
theorem dL_nearDistance_20 : decode cL_nearDistance 20 = .ok (.ireturn, 1) := by decide +kernel
theorem dL_nearDistance_21 : decode cL_nearDistance 21 = .ok (.iconst 0, 1) := by decide +kernel
theorem dL_nearDistance_22 : decode cL_nearDistance 22 = .ok (.ireturn, 1) := by decide +kernel
set_option maxRecDepth 20000 in
theorem ggL_nearSign_X2_nearSign : GoodIn wsL_nearSign wsX2_nearSign := goodIn_ca (goodIn_r _ [6, 7, 8, 9, 10, 11, 12, 13, 5, 14, 15, 16, 17, 18, 19, 20, 21, 22, 23, 24, 25, 26, 27, 28, 29, 30, 31, 32, 33, 34, 35, 36, 37, 38, 39, 40, 41, 42, 43, 44, 45, 46, 47, 48, 49, 50, 51, 52, 53, 54, 55, 56, 57, 58, 59, 60, 61, 62, 63, 64, 65, 66, 67, 68, 69, 70, 71, 72, 73, 74, 75, 76, 77, 78, 79, 80, 81, 82, 83, 84, 85, 86, 87, 88] (by decide +kernel) (by decide +kernel)) (goodIn_sub (fun _ h => List.mem_cons_of_mem _ (List.mem_append_right _ h)) (by decide +kernel))
set_option maxRecDepth 20000 in
theorem gL_nearSign_X2_nearSign : GoodIn wsL_nearSign (wsV RL 70 RX2 yX2_nearSign wsX2_nearSign) := goodIn_app (goodIn_of _ (by decide +kernel)) ggL_nearSign_X2_nearSign
theorem dL_nearSign_0 : decode cL_nearSign 0 = .ok (.aload 6, 2) := by decide +kernel
theorem dL_nearSign_2 : decode cL_nearSign 2 = .ok (.iconst 0, 1) := by decide +kernel
theorem dL_nearSign_3 : decode cL_nearSign 3 = .ok (.aload_n 0, 1) := by decide +kernel
theorem dL_nearSign_4 : decode cL_nearSign 4 = .ok (.iload_n 1, 1) := by decide +kernel
theorem dL_nearSign_5 : decode cL_nearSign 5 = .ok (.iload_n 2, 1) := by decide +kernel
theorem dL_nearSign_6 : decode cL_nearSign 6 = .ok (.iload_n 3, 1) := by decide +kernel
theorem dL_nearSign_7 : decode cL_nearSign 7 = .ok (.iload 4, 2) := by decide +kernel
theorem dL_nearSign_9 : decode cL_nearSign 9 = .ok (.iload 5, 2) := by decide +kernel
theorem dL_nearSign_11 : decode cL_nearSign 11 = .ok (.invokevirtual 70, 3) := by decide +kernel
theorem dL_nearSign_14 : decode cL_nearSign 14 = .ok (.i2l, 1) := by decide +kernel
theorem dL_nearSign_15 : decode cL_nearSign 15 = .ok (.lastore, 1) := by decide +kernel
theorem dL_nearSign_16 : decode cL_nearSign 16 = .ok (.goto 7, 3) := by decide +kernel
theorem dL_nearSign_19 : decode cL_nearSign 19 = .ok (.astore 7, 2) := by decide +kernel
theorem dL_nearSign_21 : decode cL_nearSign 21 = .ok (.iconst 1, 1) := by decide +kernel
theorem dL_nearSign_22 : decode cL_nearSign 22 = .ok (.ireturn, 1) := by decide +kernel
theorem dL_nearSign_23 : decode cL_nearSign 23 = .ok (.iconst 0, 1) := by decide +kernel
theorem dL_nearSign_24 : decode cL_nearSign 24 = .ok (.ireturn, 1) := by decide +kernel
set_option maxRecDepth 20000 in
theorem ggL_law_X2_init : GoodIn wsL_law wsX2_init := goodIn_r _ [9, 10, 11, 12, 13, 14, 15, 16, 17, 18, 19, 20, 21, 22, 23, 24, 25, 26, 27, 28, 29, 30, 31, 32, 33, 34, 35, 36, 37, 38, 39, 40, 41, 42, 43, 44, 45, 46, 580, 581, 582, 583, 584, 585, 586, 587, 588, 589, 611, 612, 613] (by decide +kernel) (by decide +kernel)
set_option maxRecDepth 20000 in
theorem gL_law_X2_init : GoodIn wsL_law (wsX2_init) := ggL_law_X2_init
set_option maxRecDepth 20000 in
theorem ggL_law_X3_init : GoodIn wsL_law wsX3_init := goodIn_r _ [49, 50, 11, 12, 13, 51, 52, 53, 54, 55, 56, 57, 58, 59, 60, 61, 62, 63, 64, 65, 66, 67, 590, 591, 592, 593, 594, 595, 596, 597, 598, 599, 600, 601, 602, 603, 604, 605, 606, 607, 608, 609, 610] (by decide +kernel) (by decide +kernel)
set_option maxRecDepth 20000 in
theorem gL_law_X3_init : GoodIn wsL_law (wsX3_init) := ggL_law_X3_init
set_option maxRecDepth 20000 in
theorem ggL_law_L_setFallback : GoodIn wsL_law wsL_setFallback := goodIn_ca (goodIn_ca (goodIn_r _ [71, 72, 73, 74, 75, 76, 2, 77, 78, 79, 80, 81, 14, 82, 83, 84, 85, 86, 87, 88, 580, 581, 582, 583, 584, 585, 586, 587, 588, 589] (by decide +kernel) (by decide +kernel)) (goodIn_sub (fun _ h => List.mem_append_left _ (List.mem_append_left _ (List.mem_append_right _ h))) (by decide +kernel))) (goodIn_sub (fun _ h => List.mem_append_left _ (List.mem_append_right _ h)) (by decide +kernel))
set_option maxRecDepth 20000 in
theorem gL_law_L_setFallback : GoodIn wsL_law (va_wsS RL 77 yL_setFallback wsL_setFallback) := goodIn_app (goodIn_of _ (by decide +kernel)) ggL_law_L_setFallback
set_option maxRecDepth 20000 in
theorem ggL_law_X3_setFallback : GoodIn wsL_law wsX3_setFallback := goodIn_r _ [92, 51, 93, 94, 5, 95, 96, 97, 98, 99, 100, 101, 102, 103, 104, 105, 106, 107, 590, 591, 592, 593, 594, 595, 596, 597, 598, 599, 600, 601, 602, 603, 604, 605, 606, 607, 608, 609, 610] (by decide +kernel) (by decide +kernel)
set_option maxRecDepth 20000 in
theorem gL_law_X3_setFallback : GoodIn wsL_law (wsV RL 82 RX3 yX3_setFallback wsX3_setFallback) := goodIn_app (goodIn_of _ (by decide +kernel)) ggL_law_X3_setFallback
set_option maxRecDepth 20000 in
theorem ggL_law_X3_thrown : GoodIn wsL_law wsX3_thrown := goodIn_r _ [111, 107, 590, 591, 592, 593, 594, 595, 596, 597, 598, 599, 600, 601, 602, 603, 604, 605, 606, 607, 608, 609, 610] (by decide +kernel) (by decide +kernel)
set_option maxRecDepth 20000 in
theorem gL_law_X3_thrown : GoodIn wsL_law (wsV RL 83 RX3 yX3_thrown wsX3_thrown) := goodIn_app (goodIn_of _ (by decide +kernel)) ggL_law_X3_thrown
set_option maxRecDepth 20000 in
theorem ggL_law_L_setNumbers : GoodIn wsL_law wsL_setNumbers := goodIn_ca (goodIn_ca (goodIn_r _ [114, 72, 73, 115, 116, 117, 2, 118, 15, 16, 82, 83, 84, 78, 79, 119, 120, 121, 80, 81, 580, 581, 582, 583, 584, 585, 586, 587, 588, 589] (by decide +kernel) (by decide +kernel)) (goodIn_sub (fun _ h => List.mem_append_left _ (List.mem_append_left _ (List.mem_append_right _ h))) (by decide +kernel))) (goodIn_sub (fun _ h => List.mem_append_left _ (List.mem_append_right _ h)) (by decide +kernel))
set_option maxRecDepth 20000 in
theorem gL_law_L_setNumbers : GoodIn wsL_law (va_wsS RL 87 yL_setNumbers wsL_setNumbers) := goodIn_app (goodIn_of _ (by decide +kernel)) ggL_law_L_setNumbers
set_option maxRecDepth 20000 in
theorem ggL_law_X3_setNumbers : GoodIn wsL_law wsX3_setNumbers := goodIn_r _ [125, 52, 53, 96, 97, 5, 98, 93, 94, 95, 103, 104, 105, 106, 107, 590, 591, 592, 593, 594, 595, 596, 597, 598, 599, 600, 601, 602, 603, 604, 605, 606, 607, 608, 609, 610] (by decide +kernel) (by decide +kernel)
set_option maxRecDepth 20000 in
theorem gL_law_X3_setNumbers : GoodIn wsL_law (wsV RL 90 RX3 yX3_setNumbers wsX3_setNumbers) := goodIn_app (goodIn_of _ (by decide +kernel)) ggL_law_X3_setNumbers
set_option maxRecDepth 20000 in
theorem ggL_law_L_sign : GoodIn wsL_law wsL_sign := goodIn_ca (goodIn_ca (goodIn_r _ [128, 73, 129, 130, 131, 132, 2, 133, 80, 81, 134, 135, 18, 17, 136, 137, 138, 139, 140, 141, 580, 581, 582, 583, 584, 585, 586, 587, 588, 589] (by decide +kernel) (by decide +kernel)) (goodIn_sub (fun _ h => List.mem_append_left _ (List.mem_append_right _ h)) (by decide +kernel))) (goodIn_sub (fun _ h => List.mem_append_right _ h) (by decide +kernel))
set_option maxRecDepth 20000 in
theorem gL_law_L_sign : GoodIn wsL_law (va_wsS RL 91 yL_sign wsL_sign) := goodIn_app (goodIn_of _ (by decide +kernel)) ggL_law_L_sign
set_option maxRecDepth 20000 in
theorem ggL_law_X3_sign : GoodIn wsL_law wsX3_sign := goodIn_r _ [145, 146, 54, 93, 94, 5, 95, 103, 104, 105, 106, 107, 590, 591, 592, 593, 594, 595, 596, 597, 598, 599, 600, 601, 602, 603, 604, 605, 606, 607, 608, 609, 610] (by decide +kernel) (by decide +kernel)
set_option maxRecDepth 20000 in
theorem gL_law_X3_sign : GoodIn wsL_law (wsV RL 94 RX3 yX3_sign wsX3_sign) := goodIn_app (goodIn_of _ (by decide +kernel)) ggL_law_X3_sign
set_option maxRecDepth 20000 in
theorem ggL_law_L_set : GoodIn wsL_law wsL_set := goodIn_ca (goodIn_ca (goodIn_r _ [149, 72, 129, 150, 151, 152, 2, 153, 134, 135, 18, 17, 19, 154, 155, 21, 156, 157, 158, 78, 79, 159, 160, 161, 82, 83, 84, 162, 163, 164, 165, 166, 30, 167, 168, 169, 170, 171, 172, 173, 13, 174, 175, 176, 177, 178, 179, 180, 181, 182, 183, 184, 139, 140, 141, 185, 186, 187, 188, 11, 12, 189, 190, 191, 192, 193, 194, 195, 20, 22, 196, 197, 198, 199, 200, 201, 202, 203, 204, 205, 206, 207, 208, 209, 210, 211, 212, 213, 214, 215, 216, 217, 218, 219, 26, 220, 221, 222, 25, 223, 224, 225, 226, 227, 228, 36, 229, 230, 231, 232, 233, 234, 235, 236, 237, 238, 239, 240, 241, 242, 243, 244, 245, 246, 247, 248, 249, 250, 251, 252, 253, 254, 255, 256, 257, 258, 259, 35, 260, 261, 262, 263, 264, 265, 266, 267, 268, 269, 270, 271, 272, 273, 274, 275, 276, 277, 278, 279, 280, 281, 282, 283, 284, 580, 581, 582, 583, 584, 585, 586, 587, 588, 589, 614, 615, 616, 617, 618, 619, 611, 612, 613] (by decide +kernel) (by decide +kernel)) (goodIn_sub (fun _ h => List.mem_append_right _ h) (by decide +kernel))) (goodIn_sub (fun _ h => List.mem_append_left _ (List.mem_append_left _ (List.mem_append_right _ h))) (by decide +kernel))
set_option maxRecDepth 20000 in
theorem gL_law_L_set : GoodIn wsL_law (va_wsS RL 95 yL_set wsL_set) := goodIn_app (goodIn_of _ (by decide +kernel)) ggL_law_L_set
set_option maxRecDepth 20000 in
theorem ggL_law_X3_set : GoodIn wsL_law wsX3_set := goodIn_r _ [288, 146, 58, 54, 55, 57, 59, 289, 290, 5, 291, 292, 293, 294, 93, 94, 95, 96, 97, 98, 295, 296, 297, 103, 104, 105, 106, 107, 298, 299, 300, 301, 302, 303, 304, 60, 305, 306, 307, 308, 309, 61, 62, 63, 64, 65, 310, 311, 312, 313, 590, 591, 592, 593, 594, 595, 596, 597, 598, 599, 600, 601, 602, 603, 604, 605, 606, 607, 608, 609, 610] (by decide +kernel) (by decide +kernel)
set_option maxRecDepth 20000 in
theorem gL_law_X3_set : GoodIn wsL_law (wsV RL 98 RX3 yX3_set wsX3_set) := goodIn_app (goodIn_of _ (by decide +kernel)) ggL_law_X3_set
set_option maxRecDepth 20000 in
theorem ggL_law_L_remove : GoodIn wsL_law wsL_remove := goodIn_ca (goodIn_ca (goodIn_r _ [316, 72, 129, 317, 318, 319, 2, 320, 134, 135, 20, 321, 156, 157, 158, 78, 79, 159, 160, 161, 82, 83, 84, 162, 163, 164, 196, 197, 198, 199, 200, 201, 192, 193, 194, 195, 21, 22, 202, 203, 204, 205, 206, 207, 208, 209, 210, 211, 212, 11, 12, 213, 214, 215, 216, 217, 218, 219, 26, 220, 221, 222, 25, 223, 224, 225, 226, 227, 228, 36, 229, 230, 231, 232, 233, 234, 235, 236, 237, 238, 239, 240, 241, 242, 243, 179, 180, 181, 244, 245, 246, 247, 248, 249, 250, 251, 252, 253, 254, 255, 256, 257, 258, 259, 35, 260, 261, 176, 262, 263, 264, 265, 266, 267, 268, 269, 270, 271, 272, 273, 274, 30, 275, 276, 277, 278, 279, 280, 281, 282, 283, 284, 174, 175, 177, 178, 580, 581, 582, 583, 584, 585, 586, 587, 588, 589, 614, 615, 616, 617, 618, 619, 611, 612, 613] (by decide +kernel) (by decide +kernel)) (goodIn_sub (fun _ h => List.mem_append_right _ h) (by decide +kernel))) (goodIn_sub (fun _ h => List.mem_append_left _ (List.mem_append_left _ (List.mem_append_right _ h))) (by decide +kernel))
set_option maxRecDepth 20000 in
theorem gL_law_L_remove : GoodIn wsL_law (va_wsS RL 99 yL_remove wsL_remove) := goodIn_app (goodIn_of _ (by decide +kernel)) ggL_law_L_remove
set_option maxRecDepth 20000 in
theorem ggL_law_X3_remove : GoodIn wsL_law wsX3_remove := goodIn_r _ [325, 55, 289, 290, 5, 291, 292, 293, 294, 93, 94, 95, 96, 97, 98, 295, 296, 297, 298, 299, 300, 103, 104, 105, 106, 107, 301, 302, 303, 304, 59, 60, 305, 306, 307, 308, 309, 61, 62, 63, 64, 58, 65, 310, 311, 312, 313, 590, 591, 592, 593, 594, 595, 596, 597, 598, 599, 600, 601, 602, 603, 604, 605, 606, 607, 608, 609, 610] (by decide +kernel) (by decide +kernel)
set_option maxRecDepth 20000 in
theorem gL_law_X3_remove : GoodIn wsL_law (wsV RL 102 RX3 yX3_remove wsX3_remove) := goodIn_app (goodIn_of _ (by decide +kernel)) ggL_law_X3_remove
set_option maxRecDepth 20000 in
theorem ggL_law_X2_draft : GoodIn wsL_law wsX2_draft := goodIn_r _ [329, 18, 580, 581, 582, 583, 584, 585, 586, 587, 588, 589] (by decide +kernel) (by decide +kernel)
set_option maxRecDepth 20000 in
theorem gL_law_X2_draft : GoodIn wsL_law (wsV RL 103 RX2 yX2_draft wsX2_draft) := goodIn_app (goodIn_of _ (by decide +kernel)) ggL_law_X2_draft
set_option maxRecDepth 20000 in
theorem ggL_law_X3_draft : GoodIn wsL_law wsX3_draft := goodIn_r _ [333, 107, 146, 590, 591, 592, 593, 594, 595, 596, 597, 598, 599, 600, 601, 602, 603, 604, 605, 606, 607, 608, 609, 610] (by decide +kernel) (by decide +kernel)
set_option maxRecDepth 20000 in
theorem gL_law_X3_draft : GoodIn wsL_law (wsV RL 106 RX3 yX3_draft wsX3_draft) := goodIn_app (goodIn_of _ (by decide +kernel)) ggL_law_X3_draft
set_option maxRecDepth 20000 in
theorem ggL_law_L_kindOf : GoodIn wsL_law wsL_kindOf := goodIn_ca (goodIn_ca (goodIn_r _ [336, 72, 73, 337, 338, 339, 2, 340, 82, 83, 84, 78, 79, 341, 342, 343, 80, 81, 344, 345, 346, 347, 15, 16, 580, 581, 582, 583, 584, 585, 586, 587, 588, 589] (by decide +kernel) (by decide +kernel)) (goodIn_sub (fun _ h => List.mem_append_left _ (List.mem_append_left _ (List.mem_append_right _ h))) (by decide +kernel))) (goodIn_sub (fun _ h => List.mem_append_left _ (List.mem_append_right _ h)) (by decide +kernel))
set_option maxRecDepth 20000 in
theorem gL_law_L_kindOf : GoodIn wsL_law (va_wsS RL 107 yL_kindOf wsL_kindOf) := goodIn_app (goodIn_of _ (by decide +kernel)) ggL_law_L_kindOf
set_option maxRecDepth 20000 in
theorem ggL_law_X3_kindOf : GoodIn wsL_law wsX3_kindOf := goodIn_r _ [351, 96, 97, 5, 98, 93, 94, 95, 103, 104, 105, 106, 107, 352, 353, 354, 355, 52, 53, 590, 591, 592, 593, 594, 595, 596, 597, 598, 599, 600, 601, 602, 603, 604, 605, 606, 607, 608, 609, 610] (by decide +kernel) (by decide +kernel)
set_option maxRecDepth 20000 in
theorem gL_law_X3_kindOf : GoodIn wsL_law (wsV RL 109 RX3 yX3_kindOf wsX3_kindOf) := goodIn_app (goodIn_of _ (by decide +kernel)) ggL_law_X3_kindOf
set_option maxRecDepth 20000 in
theorem ggL_law_L_forms : GoodIn wsL_law wsL_forms := goodIn_ca (goodIn_r _ [358, 72, 359, 360, 361, 2, 362, 159, 160, 161, 78, 79, 82, 83, 84, 363, 364, 365, 366, 20, 196, 197, 198, 199, 200, 201, 580, 581, 582, 583, 584, 585, 586, 587, 588, 589] (by decide +kernel) (by decide +kernel)) (goodIn_sub (fun _ h => List.mem_append_left _ (List.mem_append_left _ (List.mem_append_right _ h))) (by decide +kernel))
set_option maxRecDepth 20000 in
theorem gL_law_L_forms : GoodIn wsL_law (va_wsS RL 110 yL_forms wsL_forms) := goodIn_app (goodIn_of _ (by decide +kernel)) ggL_law_L_forms
set_option maxRecDepth 20000 in
theorem ggL_law_X3_forms : GoodIn wsL_law wsX3_forms := goodIn_r _ [370, 292, 293, 5, 294, 93, 94, 95, 96, 97, 98, 103, 104, 105, 106, 107, 371, 372, 373, 374, 55, 590, 591, 592, 593, 594, 595, 596, 597, 598, 599, 600, 601, 602, 603, 604, 605, 606, 607, 608, 609, 610] (by decide +kernel) (by decide +kernel)
set_option maxRecDepth 20000 in
theorem gL_law_X3_forms : GoodIn wsL_law (wsV RL 112 RX3 yX3_forms wsX3_forms) := goodIn_app (goodIn_of _ (by decide +kernel)) ggL_law_X3_forms
set_option maxRecDepth 20000 in
theorem ggL_law_L_version : GoodIn wsL_law wsL_version := goodIn_ca (goodIn_r _ [377, 72, 378, 379, 380, 2, 381, 21, 159, 160, 161, 78, 79, 580, 581, 582, 583, 584, 585, 586, 587, 588, 589] (by decide +kernel) (by decide +kernel)) (goodIn_sub (fun _ h => List.mem_append_left _ (List.mem_append_left _ (List.mem_append_right _ h))) (by decide +kernel))
set_option maxRecDepth 20000 in
theorem gL_law_L_version : GoodIn wsL_law (va_wsS RL 113 yL_version wsL_version) := goodIn_app (goodIn_of _ (by decide +kernel)) ggL_law_L_version
set_option maxRecDepth 20000 in
theorem ggL_law_X3_version : GoodIn wsL_law wsX3_version := goodIn_r _ [385, 59, 292, 293, 5, 294, 93, 94, 95, 103, 104, 105, 106, 107, 590, 591, 592, 593, 594, 595, 596, 597, 598, 599, 600, 601, 602, 603, 604, 605, 606, 607, 608, 609, 610] (by decide +kernel) (by decide +kernel)
set_option maxRecDepth 20000 in
theorem gL_law_X3_version : GoodIn wsL_law (wsV RL 115 RX3 yX3_version wsX3_version) := goodIn_app (goodIn_of _ (by decide +kernel)) ggL_law_X3_version
set_option maxRecDepth 20000 in
theorem ggL_law_L_staleBy : GoodIn wsL_law wsL_staleBy := goodIn_ca (goodIn_r _ [388, 72, 389, 390, 391, 2, 392, 21, 22, 159, 160, 161, 78, 79, 82, 83, 84, 363, 364, 365, 366, 20, 196, 197, 198, 199, 200, 201, 580, 581, 582, 583, 584, 585, 586, 587, 588, 589] (by decide +kernel) (by decide +kernel)) (goodIn_sub (fun _ h => List.mem_append_left _ (List.mem_append_left _ (List.mem_append_right _ h))) (by decide +kernel))
set_option maxRecDepth 20000 in
theorem gL_law_L_staleBy : GoodIn wsL_law (va_wsS RL 116 yL_staleBy wsL_staleBy) := goodIn_app (goodIn_of _ (by decide +kernel)) ggL_law_L_staleBy
set_option maxRecDepth 20000 in
theorem ggL_law_X3_staleBy : GoodIn wsL_law wsX3_staleBy := goodIn_r _ [396, 59, 60, 292, 293, 5, 294, 93, 94, 95, 96, 97, 98, 103, 104, 105, 106, 107, 371, 372, 373, 374, 55, 590, 591, 592, 593, 594, 595, 596, 597, 598, 599, 600, 601, 602, 603, 604, 605, 606, 607, 608, 609, 610] (by decide +kernel) (by decide +kernel)
set_option maxRecDepth 20000 in
theorem gL_law_X3_staleBy : GoodIn wsL_law (wsV RL 118 RX3 yX3_staleBy wsX3_staleBy) := goodIn_app (goodIn_of _ (by decide +kernel)) ggL_law_X3_staleBy
set_option maxRecDepth 20000 in
theorem ggL_law_L_missing : GoodIn wsL_law wsL_missing := goodIn_ca (goodIn_r _ [399, 72, 400, 401, 402, 2, 403, 82, 83, 84, 78, 79, 363, 364, 365, 366, 20, 196, 197, 198, 199, 200, 201, 580, 581, 582, 583, 584, 585, 586, 587, 588, 589] (by decide +kernel) (by decide +kernel)) (goodIn_sub (fun _ h => List.mem_append_left _ (List.mem_append_left _ (List.mem_append_right _ h))) (by decide +kernel))
set_option maxRecDepth 20000 in
theorem gL_law_L_missing : GoodIn wsL_law (va_wsS RL 119 yL_missing wsL_missing) := goodIn_app (goodIn_of _ (by decide +kernel)) ggL_law_L_missing
set_option maxRecDepth 20000 in
theorem ggL_law_X3_missing : GoodIn wsL_law wsX3_missing := goodIn_r _ [407, 96, 97, 5, 98, 93, 94, 95, 103, 104, 105, 106, 107, 371, 372, 373, 374, 55, 590, 591, 592, 593, 594, 595, 596, 597, 598, 599, 600, 601, 602, 603, 604, 605, 606, 607, 608, 609, 610] (by decide +kernel) (by decide +kernel)
set_option maxRecDepth 20000 in
theorem gL_law_X3_missing : GoodIn wsL_law (wsV RL 121 RX3 yX3_missing wsX3_missing) := goodIn_app (goodIn_of _ (by decide +kernel)) ggL_law_X3_missing
set_option maxRecDepth 20000 in
theorem ggL_law_L_fits : GoodIn wsL_law wsL_fits := goodIn_ca (goodIn_r _ [410, 72, 411, 412, 413, 2, 414, 20, 156, 157, 158, 78, 79, 159, 160, 161, 82, 83, 84, 162, 163, 164, 196, 197, 198, 199, 200, 201, 415, 416, 417, 418, 419, 420, 421, 422, 423, 424, 580, 581, 582, 583, 584, 585, 586, 587, 588, 589, 614, 615, 616] (by decide +kernel) (by decide +kernel)) (goodIn_sub (fun _ h => List.mem_append_left _ (List.mem_append_left _ (List.mem_append_right _ h))) (by decide +kernel))
set_option maxRecDepth 20000 in
theorem gL_law_L_fits : GoodIn wsL_law (va_wsS RL 122 yL_fits wsL_fits) := goodIn_app (goodIn_of _ (by decide +kernel)) ggL_law_L_fits
set_option maxRecDepth 20000 in
theorem ggL_law_X3_fits : GoodIn wsL_law wsX3_fits := goodIn_r _ [428, 289, 290, 5, 291, 292, 293, 294, 93, 94, 95, 96, 97, 98, 295, 296, 297, 103, 104, 105, 106, 107, 298, 299, 300, 429, 430, 431, 432, 55, 57, 433, 434, 435, 436, 58, 590, 591, 592, 593, 594, 595, 596, 597, 598, 599, 600, 601, 602, 603, 604, 605, 606, 607, 608, 609, 610] (by decide +kernel) (by decide +kernel)
set_option maxRecDepth 20000 in
theorem gL_law_X3_fits : GoodIn wsL_law (wsV RL 124 RX3 yX3_fits wsX3_fits) := goodIn_app (goodIn_of _ (by decide +kernel)) ggL_law_X3_fits
set_option maxRecDepth 20000 in
theorem ggL_law_L_toldBy : GoodIn wsL_law wsL_toldBy := goodIn_ca (goodIn_ca (goodIn_r _ [439, 72, 73, 440, 441, 442, 2, 443, 444, 445, 446, 159, 160, 161, 78, 79, 82, 83, 84, 162, 163, 164, 341, 342, 343, 80, 81, 447, 448, 449, 450, 14, 451, 452, 453, 454, 344, 345, 346, 347, 15, 16, 455, 456, 457, 458, 20, 196, 197, 198, 199, 200, 201, 415, 416, 417, 418, 419, 420, 421, 422, 423, 424, 459, 460, 461, 580, 581, 582, 583, 584, 585, 586, 587, 588, 589, 614, 615, 616] (by decide +kernel) (by decide +kernel)) (goodIn_sub (fun _ h => List.mem_append_left _ (List.mem_append_left _ (List.mem_append_right _ h))) (by decide +kernel))) (goodIn_sub (fun _ h => List.mem_append_left _ (List.mem_append_right _ h)) (by decide +kernel))
set_option maxRecDepth 20000 in
theorem gL_law_L_toldBy : GoodIn wsL_law (va_wsS RL 125 yL_toldBy wsL_toldBy) := goodIn_app (goodIn_of _ (by decide +kernel)) ggL_law_L_toldBy
set_option maxRecDepth 20000 in
theorem ggL_law_X3_toldBy : GoodIn wsL_law wsX3_toldBy := goodIn_r _ [465, 466, 467, 468, 469, 470, 5, 471, 292, 293, 294, 93, 94, 95, 96, 97, 98, 295, 296, 297, 103, 104, 105, 106, 107, 472, 473, 474, 475, 51, 352, 353, 354, 355, 52, 53, 298, 299, 300, 429, 430, 431, 432, 55, 57, 433, 434, 435, 436, 58, 590, 591, 592, 593, 594, 595, 596, 597, 598, 599, 600, 601, 602, 603, 604, 605, 606, 607, 608, 609, 610] (by decide +kernel) (by decide +kernel)
set_option maxRecDepth 20000 in
theorem gL_law_X3_toldBy : GoodIn wsL_law (wsV RL 127 RX3 yX3_toldBy wsX3_toldBy) := goodIn_app (goodIn_of _ (by decide +kernel)) ggL_law_X3_toldBy
set_option maxRecDepth 20000 in
theorem ggL_law_L_toldByLooking : GoodIn wsL_law wsL_toldByLooking := goodIn_ca (goodIn_ca (goodIn_r _ [478, 72, 73, 479, 480, 481, 2, 482, 444, 445, 446, 159, 160, 161, 78, 79, 82, 83, 84, 162, 163, 164, 341, 342, 343, 80, 81, 483, 484, 485, 486, 20, 196, 197, 198, 199, 200, 201, 487, 488, 489, 490, 459, 460, 461, 85, 86, 87, 88, 14, 344, 345, 346, 347, 15, 16, 491, 492, 493, 415, 416, 417, 418, 419, 420, 421, 422, 423, 424, 580, 581, 582, 583, 584, 585, 586, 587, 588, 589, 614, 615, 616] (by decide +kernel) (by decide +kernel)) (goodIn_sub (fun _ h => List.mem_append_left _ (List.mem_append_left _ (List.mem_append_right _ h))) (by decide +kernel))) (goodIn_sub (fun _ h => List.mem_append_left _ (List.mem_append_right _ h)) (by decide +kernel))
set_option maxRecDepth 20000 in
theorem gL_law_L_toldByLooking : GoodIn wsL_law (va_wsS RL 128 yL_toldByLooking wsL_toldByLooking) := goodIn_app (goodIn_of _ (by decide +kernel)) ggL_law_L_toldByLooking
set_option maxRecDepth 20000 in
theorem ggL_law_X3_toldByLooking : GoodIn wsL_law wsX3_toldByLooking := goodIn_r _ [497, 498, 463, 464, 5, 465, 466, 467, 468, 469, 470, 471, 292, 293, 294, 93, 94, 95, 96, 97, 98, 295, 296, 297, 103, 104, 105, 106, 107, 472, 473, 474, 475, 51, 352, 353, 354, 355, 52, 53, 298, 299, 300, 429, 430, 431, 432, 55, 57, 433, 434, 435, 436, 58, 590, 591, 592, 593, 594, 595, 596, 597, 598, 599, 600, 601, 602, 603, 604, 605, 606, 607, 608, 609, 610] (by decide +kernel) (by decide +kernel)
set_option maxRecDepth 20000 in
theorem gL_law_X3_toldByLooking : GoodIn wsL_law (wsV RL 130 RX3 yX3_toldByLooking wsX3_toldByLooking) := goodIn_app (goodIn_of _ (by decide +kernel)) ggL_law_X3_toldByLooking
set_option maxRecDepth 20000 in
theorem ggL_law_L_toldForm : GoodIn wsL_law wsL_toldForm := goodIn_ca (goodIn_ca (goodIn_r _ [501, 72, 73, 502, 503, 504, 2, 505, 444, 445, 446, 159, 160, 161, 78, 79, 82, 83, 84, 162, 163, 164, 341, 342, 343, 80, 81, 447, 448, 449, 450, 14, 451, 452, 453, 454, 344, 345, 346, 347, 15, 16, 455, 456, 457, 458, 20, 196, 197, 198, 199, 200, 201, 415, 416, 417, 418, 419, 420, 421, 422, 423, 424, 580, 581, 582, 583, 584, 585, 586, 587, 588, 589, 614, 615, 616] (by decide +kernel) (by decide +kernel)) (goodIn_sub (fun _ h => List.mem_append_left _ (List.mem_append_left _ (List.mem_append_right _ h))) (by decide +kernel))) (goodIn_sub (fun _ h => List.mem_append_left _ (List.mem_append_right _ h)) (by decide +kernel))
set_option maxRecDepth 20000 in
theorem gL_law_L_toldForm : GoodIn wsL_law (va_wsS RL 131 yL_toldForm wsL_toldForm) := goodIn_app (goodIn_of _ (by decide +kernel)) ggL_law_L_toldForm
set_option maxRecDepth 20000 in
theorem ggL_law_X3_toldForm : GoodIn wsL_law wsX3_toldForm := goodIn_r _ [509, 466, 468, 469, 470, 5, 471, 292, 293, 294, 93, 94, 95, 96, 97, 98, 295, 296, 297, 103, 104, 105, 106, 107, 472, 473, 474, 475, 467, 51, 352, 353, 354, 355, 52, 53, 298, 299, 300, 429, 430, 431, 432, 55, 57, 433, 434, 435, 436, 58, 590, 591, 592, 593, 594, 595, 596, 597, 598, 599, 600, 601, 602, 603, 604, 605, 606, 607, 608, 609, 610] (by decide +kernel) (by decide +kernel)
set_option maxRecDepth 20000 in
theorem gL_law_X3_toldForm : GoodIn wsL_law (wsV RL 133 RX3 yX3_toldForm wsX3_toldForm) := goodIn_app (goodIn_of _ (by decide +kernel)) ggL_law_X3_toldForm
set_option maxRecDepth 20000 in
theorem ggL_law_L_toldSign : GoodIn wsL_law wsL_toldSign := goodIn_ca (goodIn_ca (goodIn_r _ [512, 72, 73, 513, 514, 515, 2, 516, 78, 79, 20, 321, 444, 445, 446, 159, 160, 161, 82, 83, 84, 162, 163, 164, 341, 342, 343, 80, 81, 447, 448, 449, 450, 14, 451, 452, 453, 454, 344, 345, 346, 347, 15, 16, 455, 456, 457, 458, 196, 197, 198, 199, 200, 201, 415, 416, 417, 418, 419, 420, 421, 422, 423, 424, 580, 581, 582, 583, 584, 585, 586, 587, 588, 589, 614, 615, 616] (by decide +kernel) (by decide +kernel)) (goodIn_sub (fun _ h => List.mem_append_left _ (List.mem_append_left _ (List.mem_append_right _ h))) (by decide +kernel))) (goodIn_sub (fun _ h => List.mem_append_left _ (List.mem_append_right _ h)) (by decide +kernel))
set_option maxRecDepth 20000 in
theorem gL_law_L_toldSign : GoodIn wsL_law (va_wsS RL 134 yL_toldSign wsL_toldSign) := goodIn_app (goodIn_of _ (by decide +kernel)) ggL_law_L_toldSign
set_option maxRecDepth 20000 in
theorem ggL_law_X3_toldSign : GoodIn wsL_law wsX3_toldSign := goodIn_r _ [520, 466, 55, 58, 468, 469, 470, 5, 471, 292, 293, 294, 93, 94, 95, 96, 97, 98, 295, 296, 297, 103, 104, 105, 106, 107, 472, 473, 474, 475, 467, 51, 352, 353, 354, 355, 52, 53, 298, 299, 300, 429, 430, 431, 432, 57, 433, 434, 435, 436, 590, 591, 592, 593, 594, 595, 596, 597, 598, 599, 600, 601, 602, 603, 604, 605, 606, 607, 608, 609, 610] (by decide +kernel) (by decide +kernel)
set_option maxRecDepth 20000 in
theorem gL_law_X3_toldSign : GoodIn wsL_law (wsV RL 137 RX3 yX3_toldSign wsX3_toldSign) := goodIn_app (goodIn_of _ (by decide +kernel)) ggL_law_X3_toldSign
set_option maxRecDepth 20000 in
theorem ggL_law_X2_pairs : GoodIn wsL_law wsX2_pairs := goodIn_r _ [524, 26, 220, 221, 222, 25, 223, 224, 580, 581, 582, 583, 584, 585, 586, 587, 588, 589, 611, 612, 613] (by decide +kernel) (by decide +kernel)
set_option maxRecDepth 20000 in
theorem gL_law_X2_pairs : GoodIn wsL_law (wsV RL 138 RX2 yX2_pairs wsX2_pairs) := goodIn_app (goodIn_of _ (by decide +kernel)) ggL_law_X2_pairs
set_option maxRecDepth 20000 in
theorem ggL_law_X3_pairs : GoodIn wsL_law wsX3_pairs := goodIn_r _ [528, 107, 309, 590, 591, 592, 593, 594, 595, 596, 597, 598, 599, 600, 601, 602, 603, 604, 605, 606, 607, 608, 609, 610] (by decide +kernel) (by decide +kernel)
set_option maxRecDepth 20000 in
theorem gL_law_X3_pairs : GoodIn wsL_law (wsV RL 141 RX3 yX3_pairs wsX3_pairs) := goodIn_app (goodIn_of _ (by decide +kernel)) ggL_law_X3_pairs
set_option maxRecDepth 20000 in
theorem ggL_law_L_nearDistance : GoodIn wsL_law wsL_nearDistance := goodIn_ca (goodIn_r _ [531, 72, 532, 533, 534, 2, 535, 20, 536, 156, 157, 158, 78, 79, 159, 160, 161, 82, 83, 84, 162, 163, 164, 196, 197, 198, 199, 200, 201, 537, 538, 539, 540, 321, 26, 541, 542, 220, 221, 222, 25, 223, 224, 543, 544, 545, 546, 229, 230, 231, 232, 233, 234, 235, 236, 547, 548, 549, 550, 36, 551, 552, 553, 554, 27, 555, 175, 176, 177, 580, 581, 582, 583, 584, 585, 586, 587, 588, 589, 617, 618, 619, 614, 615, 616, 611, 612, 613] (by decide +kernel) (by decide +kernel)) (goodIn_sub (fun _ h => List.mem_append_left _ (List.mem_append_left _ (List.mem_append_right _ h))) (by decide +kernel))
set_option maxRecDepth 20000 in
theorem gL_law_L_nearDistance : GoodIn wsL_law (va_wsS RL 142 yL_nearDistance wsL_nearDistance) := goodIn_app (goodIn_of _ (by decide +kernel)) ggL_law_L_nearDistance
set_option maxRecDepth 20000 in
theorem ggL_law_X3_nearDistance : GoodIn wsL_law wsX3_nearDistance := goodIn_r _ [559, 289, 290, 5, 291, 292, 293, 294, 93, 94, 95, 96, 97, 98, 295, 296, 297, 103, 104, 105, 106, 107, 560, 561, 562, 563, 309, 55, 61, 298, 299, 300, 564, 565, 566, 567, 67, 62, 66, 58, 64, 590, 591, 592, 593, 594, 595, 596, 597, 598, 599, 600, 601, 602, 603, 604, 605, 606, 607, 608, 609, 610] (by decide +kernel) (by decide +kernel)
set_option maxRecDepth 20000 in
theorem gL_law_X3_nearDistance : GoodIn wsL_law (wsV RL 144 RX3 yX3_nearDistance wsX3_nearDistance) := goodIn_app (goodIn_of _ (by decide +kernel)) ggL_law_X3_nearDistance
set_option maxRecDepth 20000 in
theorem ggL_law_L_nearSign : GoodIn wsL_law wsL_nearSign := goodIn_ca (goodIn_r _ [570, 72, 571, 572, 573, 2, 574, 78, 79, 20, 575, 321, 156, 157, 158, 159, 160, 161, 82, 83, 84, 162, 163, 164, 196, 197, 198, 199, 200, 201, 537, 538, 539, 540, 26, 541, 542, 536, 220, 221, 222, 25, 223, 224, 543, 544, 545, 546, 229, 230, 231, 232, 233, 234, 235, 236, 547, 548, 549, 550, 36, 551, 552, 553, 554, 27, 555, 175, 176, 177, 580, 581, 582, 583, 584, 585, 586, 587, 588, 589, 617, 618, 619, 614, 615, 616, 611, 612, 613] (by decide +kernel) (by decide +kernel)) (goodIn_sub (fun _ h => List.mem_append_left _ (List.mem_append_left _ (List.mem_append_right _ h))) (by decide +kernel))
set_option maxRecDepth 20000 in
theorem gL_law_L_nearSign : GoodIn wsL_law (va_wsS RL 145 yL_nearSign wsL_nearSign) := goodIn_app (goodIn_of _ (by decide +kernel)) ggL_law_L_nearSign
set_option maxRecDepth 20000 in
theorem ggL_law_X3_nearSign : GoodIn wsL_law wsX3_nearSign := goodIn_r _ [579, 63, 65, 289, 290, 5, 291, 292, 293, 294, 93, 94, 95, 96, 97, 98, 295, 296, 297, 103, 104, 105, 106, 107, 560, 561, 562, 563, 309, 55, 61, 298, 299, 300, 564, 565, 566, 567, 67, 62, 66, 58, 64, 590, 591, 592, 593, 594, 595, 596, 597, 598, 599, 600, 601, 602, 603, 604, 605, 606, 607, 608, 609, 610] (by decide +kernel) (by decide +kernel)
set_option maxRecDepth 20000 in
theorem gL_law_X3_nearSign : GoodIn wsL_law (wsV RL 147 RX3 yX3_nearSign wsX3_nearSign) := goodIn_app (goodIn_of _ (by decide +kernel)) ggL_law_X3_nearSign
end
section
theorem dL_law_0 : decode cL_law 0 = .ok (.new 8, 3) := by decide +kernel
theorem dL_law_3 : decode cL_law 3 = .ok (.dup, 1) := by decide +kernel
theorem dL_law_4 : decode cL_law 4 = .ok (.invokespecial 73, 3) := by decide +kernel
theorem dL_law_7 : decode cL_law 7 = .ok (.astore_n 1, 1) := by decide +kernel
theorem dL_law_8 : decode cL_law 8 = .ok (.new 74, 3) := by decide +kernel
theorem dL_law_11 : decode cL_law 11 = .ok (.dup, 1) := by decide +kernel
theorem dL_law_12 : decode cL_law 12 = .ok (.invokespecial 76, 3) := by decide +kernel
theorem dL_law_15 : decode cL_law 15 = .ok (.astore_n 2, 1) := by decide +kernel
theorem dL_law_16 : decode cL_law 16 = .ok (.iconst 1, 1) := by decide +kernel
theorem dL_law_17 : decode cL_law 17 = .ok (.newarray .long, 2) := by decide +kernel
theorem dL_law_19 : decode cL_law 19 = .ok (.astore_n 3, 1) := by decide +kernel
theorem dL_law_20 : decode cL_law 20 = .ok (.iconst 0, 1) := by decide +kernel
theorem dL_law_21 : decode cL_law 21 = .ok (.istore 4, 2) := by decide +kernel
theorem dL_law_23 : decode cL_law 23 = .ok (.iload 4, 2) := by decide +kernel
theorem dL_law_25 : decode cL_law 25 = .ok (.aload_n 0, 1) := by decide +kernel
theorem dL_law_26 : decode cL_law 26 = .ok (.arraylength, 1) := by decide +kernel
theorem dL_law_27 : decode cL_law 27 = .ok (.bipush 6, 2) := by decide +kernel
theorem dL_law_29 : decode cL_law 29 = .ok (.isub, 1) := by decide +kernel
theorem dL_law_30 : decode cL_law 30 = .ok (.if_icmp .gt 1521, 3) := by decide +kernel
theorem dL_law_33 : decode cL_law 33 = .ok (.aload_n 0, 1) := by decide +kernel
theorem dL_law_34 : decode cL_law 34 = .ok (.iload 4, 2) := by decide +kernel
theorem dL_law_36 : decode cL_law 36 = .ok (.iaload, 1) := by decide +kernel
theorem dL_law_37 : decode cL_law 37 = .ok (.bipush 31, 2) := by decide +kernel
theorem dL_law_39 : decode cL_law 39 = .ok (.iand, 1) := by decide +kernel
theorem dL_law_40 : decode cL_law 40 = .ok (.tableswitch 1505 0 18 #[92, 160, 220, 276, 396, 488, 501, 569, 637, 693, 761, 817, 916, 1008, 1100, 1192, 1296, 1309, 1401], 92) := by decide +kernel
theorem dL_law_132 : decode cL_law 132 = .ok (.aload_n 1, 1) := by decide +kernel
theorem dL_law_133 : decode cL_law 133 = .ok (.aload_n 0, 1) := by decide +kernel
theorem dL_law_134 : decode cL_law 134 = .ok (.iload 4, 2) := by decide +kernel
theorem dL_law_136 : decode cL_law 136 = .ok (.iconst 1, 1) := by decide +kernel
theorem dL_law_137 : decode cL_law 137 = .ok (.iadd, 1) := by decide +kernel
theorem dL_law_138 : decode cL_law 138 = .ok (.iaload, 1) := by decide +kernel
theorem dL_law_139 : decode cL_law 139 = .ok (.aload_n 0, 1) := by decide +kernel
theorem dL_law_140 : decode cL_law 140 = .ok (.iload 4, 2) := by decide +kernel
theorem dL_law_142 : decode cL_law 142 = .ok (.iconst 2, 1) := by decide +kernel
theorem dL_law_143 : decode cL_law 143 = .ok (.iadd, 1) := by decide +kernel
theorem dL_law_144 : decode cL_law 144 = .ok (.iaload, 1) := by decide +kernel
theorem dL_law_145 : decode cL_law 145 = .ok (.aload_n 3, 1) := by decide +kernel
theorem dL_law_146 : decode cL_law 146 = .ok (.invokestatic 77, 3) := by decide +kernel
theorem dL_law_149 : decode cL_law 149 = .ok (.istore 5, 2) := by decide +kernel
theorem dL_law_151 : decode cL_law 151 = .ok (.aload_n 2, 1) := by decide +kernel
theorem dL_law_152 : decode cL_law 152 = .ok (.aload_n 0, 1) := by decide +kernel
theorem dL_law_153 : decode cL_law 153 = .ok (.iload 4, 2) := by decide +kernel
theorem dL_law_155 : decode cL_law 155 = .ok (.iconst 1, 1) := by decide +kernel
theorem dL_law_156 : decode cL_law 156 = .ok (.iadd, 1) := by decide +kernel
theorem dL_law_157 : decode cL_law 157 = .ok (.iaload, 1) := by decide +kernel
theorem dL_law_158 : decode cL_law 158 = .ok (.aload_n 0, 1) := by decide +kernel
theorem dL_law_159 : decode cL_law 159 = .ok (.iload 4, 2) := by decide +kernel
theorem dL_law_161 : decode cL_law 161 = .ok (.iconst 2, 1) := by decide +kernel
theorem dL_law_162 : decode cL_law 162 = .ok (.iadd, 1) := by decide +kernel
theorem dL_law_163 : decode cL_law 163 = .ok (.iaload, 1) := by decide +kernel
theorem dL_law_164 : decode cL_law 164 = .ok (.invokevirtual 82, 3) := by decide +kernel
theorem dL_law_167 : decode cL_law 167 = .ok (.istore 6, 2) := by decide +kernel
theorem dL_law_169 : decode cL_law 169 = .ok (.aload_n 2, 1) := by decide +kernel
theorem dL_law_170 : decode cL_law 170 = .ok (.invokevirtual 83, 3) := by decide +kernel
theorem dL_law_173 : decode cL_law 173 = .ok (.iload 5, 2) := by decide +kernel
theorem dL_law_175 : decode cL_law 175 = .ok (.if_icmp .eq 5, 3) := by decide +kernel
theorem dL_law_178 : decode cL_law 178 = .ok (.iconst 0, 1) := by decide +kernel
theorem dL_law_179 : decode cL_law 179 = .ok (.ireturn, 1) := by decide +kernel
theorem dL_law_180 : decode cL_law 180 = .ok (.iload 5, 2) := by decide +kernel
theorem dL_law_182 : decode cL_law 182 = .ok (.ifCond .ne 15, 3) := by decide +kernel
theorem dL_law_185 : decode cL_law 185 = .ok (.aload_n 3, 1) := by decide +kernel
theorem dL_law_186 : decode cL_law 186 = .ok (.iconst 0, 1) := by decide +kernel
theorem dL_law_187 : decode cL_law 187 = .ok (.laload, 1) := by decide +kernel
theorem dL_law_188 : decode cL_law 188 = .ok (.iload 6, 2) := by decide +kernel
theorem dL_law_190 : decode cL_law 190 = .ok (.i2l, 1) := by decide +kernel
theorem dL_law_191 : decode cL_law 191 = .ok (.lcmp, 1) := by decide +kernel
theorem dL_law_192 : decode cL_law 192 = .ok (.ifCond .eq 5, 3) := by decide +kernel
theorem dL_law_195 : decode cL_law 195 = .ok (.iconst 0, 1) := by decide +kernel
theorem dL_law_196 : decode cL_law 196 = .ok (.ireturn, 1) := by decide +kernel
theorem dL_law_197 : decode cL_law 197 = .ok (.goto 1348, 3) := by decide +kernel
theorem dL_law_200 : decode cL_law 200 = .ok (.aload_n 1, 1) := by decide +kernel
theorem dL_law_201 : decode cL_law 201 = .ok (.aload_n 0, 1) := by decide +kernel
theorem dL_law_202 : decode cL_law 202 = .ok (.iload 4, 2) := by decide +kernel
theorem dL_law_204 : decode cL_law 204 = .ok (.iconst 1, 1) := by decide +kernel
theorem dL_law_205 : decode cL_law 205 = .ok (.iadd, 1) := by decide +kernel
theorem dL_law_206 : decode cL_law 206 = .ok (.iaload, 1) := by decide +kernel
theorem dL_law_207 : decode cL_law 207 = .ok (.aload_n 0, 1) := by decide +kernel
theorem dL_law_208 : decode cL_law 208 = .ok (.iload 4, 2) := by decide +kernel
theorem dL_law_210 : decode cL_law 210 = .ok (.iconst 2, 1) := by decide +kernel
theorem dL_law_211 : decode cL_law 211 = .ok (.iadd, 1) := by decide +kernel
theorem dL_law_212 : decode cL_law 212 = .ok (.iaload, 1) := by decide +kernel
theorem dL_law_213 : decode cL_law 213 = .ok (.aload_n 0, 1) := by decide +kernel
theorem dL_law_214 : decode cL_law 214 = .ok (.iload 4, 2) := by decide +kernel
theorem dL_law_216 : decode cL_law 216 = .ok (.iconst 3, 1) := by decide +kernel
theorem dL_law_217 : decode cL_law 217 = .ok (.iadd, 1) := by decide +kernel
theorem dL_law_218 : decode cL_law 218 = .ok (.iaload, 1) := by decide +kernel
theorem dL_law_219 : decode cL_law 219 = .ok (.invokestatic 87, 3) := by decide +kernel
theorem dL_law_222 : decode cL_law 222 = .ok (.istore 5, 2) := by decide +kernel
theorem dL_law_224 : decode cL_law 224 = .ok (.aload_n 2, 1) := by decide +kernel
theorem dL_law_225 : decode cL_law 225 = .ok (.aload_n 0, 1) := by decide +kernel
theorem dL_law_226 : decode cL_law 226 = .ok (.iload 4, 2) := by decide +kernel
theorem dL_law_228 : decode cL_law 228 = .ok (.iconst 1, 1) := by decide +kernel
theorem dL_law_229 : decode cL_law 229 = .ok (.iadd, 1) := by decide +kernel
theorem dL_law_230 : decode cL_law 230 = .ok (.iaload, 1) := by decide +kernel
theorem dL_law_231 : decode cL_law 231 = .ok (.aload_n 0, 1) := by decide +kernel
theorem dL_law_232 : decode cL_law 232 = .ok (.iload 4, 2) := by decide +kernel
theorem dL_law_234 : decode cL_law 234 = .ok (.iconst 2, 1) := by decide +kernel
theorem dL_law_235 : decode cL_law 235 = .ok (.iadd, 1) := by decide +kernel
theorem dL_law_236 : decode cL_law 236 = .ok (.iaload, 1) := by decide +kernel
theorem dL_law_237 : decode cL_law 237 = .ok (.aload_n 0, 1) := by decide +kernel
theorem dL_law_238 : decode cL_law 238 = .ok (.iload 4, 2) := by decide +kernel
theorem dL_law_240 : decode cL_law 240 = .ok (.iconst 3, 1) := by decide +kernel
theorem dL_law_241 : decode cL_law 241 = .ok (.iadd, 1) := by decide +kernel
theorem dL_law_242 : decode cL_law 242 = .ok (.iaload, 1) := by decide +kernel
theorem dL_law_243 : decode cL_law 243 = .ok (.invokevirtual 90, 3) := by decide +kernel
theorem dL_law_246 : decode cL_law 246 = .ok (.aload_n 2, 1) := by decide +kernel
theorem dL_law_247 : decode cL_law 247 = .ok (.invokevirtual 83, 3) := by decide +kernel
theorem dL_law_250 : decode cL_law 250 = .ok (.iload 5, 2) := by decide +kernel
theorem dL_law_252 : decode cL_law 252 = .ok (.if_icmp .eq 5, 3) := by decide +kernel
theorem dL_law_255 : decode cL_law 255 = .ok (.iconst 0, 1) := by decide +kernel
theorem dL_law_256 : decode cL_law 256 = .ok (.ireturn, 1) := by decide +kernel
theorem dL_law_257 : decode cL_law 257 = .ok (.goto 1288, 3) := by decide +kernel
theorem dL_law_260 : decode cL_law 260 = .ok (.aload_n 1, 1) := by decide +kernel
theorem dL_law_261 : decode cL_law 261 = .ok (.aload_n 0, 1) := by decide +kernel
theorem dL_law_262 : decode cL_law 262 = .ok (.iload 4, 2) := by decide +kernel
theorem dL_law_264 : decode cL_law 264 = .ok (.iconst 1, 1) := by decide +kernel
theorem dL_law_265 : decode cL_law 265 = .ok (.iadd, 1) := by decide +kernel
theorem dL_law_266 : decode cL_law 266 = .ok (.iaload, 1) := by decide +kernel
theorem dL_law_267 : decode cL_law 267 = .ok (.aload_n 3, 1) := by decide +kernel
theorem dL_law_268 : decode cL_law 268 = .ok (.invokestatic 91, 3) := by decide +kernel
theorem dL_law_271 : decode cL_law 271 = .ok (.istore 5, 2) := by decide +kernel
theorem dL_law_273 : decode cL_law 273 = .ok (.aload_n 2, 1) := by decide +kernel
theorem dL_law_274 : decode cL_law 274 = .ok (.aload_n 0, 1) := by decide +kernel
theorem dL_law_275 : decode cL_law 275 = .ok (.iload 4, 2) := by decide +kernel
theorem dL_law_277 : decode cL_law 277 = .ok (.iconst 1, 1) := by decide +kernel
theorem dL_law_278 : decode cL_law 278 = .ok (.iadd, 1) := by decide +kernel
theorem dL_law_279 : decode cL_law 279 = .ok (.iaload, 1) := by decide +kernel
theorem dL_law_280 : decode cL_law 280 = .ok (.invokevirtual 94, 3) := by decide +kernel
theorem dL_law_283 : decode cL_law 283 = .ok (.istore 6, 2) := by decide +kernel
theorem dL_law_285 : decode cL_law 285 = .ok (.aload_n 2, 1) := by decide +kernel
theorem dL_law_286 : decode cL_law 286 = .ok (.invokevirtual 83, 3) := by decide +kernel
theorem dL_law_289 : decode cL_law 289 = .ok (.iload 5, 2) := by decide +kernel
theorem dL_law_291 : decode cL_law 291 = .ok (.if_icmp .eq 5, 3) := by decide +kernel
theorem dL_law_294 : decode cL_law 294 = .ok (.iconst 0, 1) := by decide +kernel
theorem dL_law_295 : decode cL_law 295 = .ok (.ireturn, 1) := by decide +kernel
theorem dL_law_296 : decode cL_law 296 = .ok (.iload 5, 2) := by decide +kernel
theorem dL_law_298 : decode cL_law 298 = .ok (.ifCond .ne 15, 3) := by decide +kernel
theorem dL_law_301 : decode cL_law 301 = .ok (.aload_n 3, 1) := by decide +kernel
theorem dL_law_302 : decode cL_law 302 = .ok (.iconst 0, 1) := by decide +kernel
theorem dL_law_303 : decode cL_law 303 = .ok (.laload, 1) := by decide +kernel
theorem dL_law_304 : decode cL_law 304 = .ok (.iload 6, 2) := by decide +kernel
theorem dL_law_306 : decode cL_law 306 = .ok (.i2l, 1) := by decide +kernel
theorem dL_law_307 : decode cL_law 307 = .ok (.lcmp, 1) := by decide +kernel
theorem dL_law_308 : decode cL_law 308 = .ok (.ifCond .eq 5, 3) := by decide +kernel
theorem dL_law_311 : decode cL_law 311 = .ok (.iconst 0, 1) := by decide +kernel
theorem dL_law_312 : decode cL_law 312 = .ok (.ireturn, 1) := by decide +kernel
theorem dL_law_313 : decode cL_law 313 = .ok (.goto 1232, 3) := by decide +kernel
theorem dL_law_316 : decode cL_law 316 = .ok (.aload_n 1, 1) := by decide +kernel
theorem dL_law_317 : decode cL_law 317 = .ok (.aload_n 0, 1) := by decide +kernel
theorem dL_law_318 : decode cL_law 318 = .ok (.iload 4, 2) := by decide +kernel
theorem dL_law_320 : decode cL_law 320 = .ok (.iconst 1, 1) := by decide +kernel
theorem dL_law_321 : decode cL_law 321 = .ok (.iadd, 1) := by decide +kernel
theorem dL_law_322 : decode cL_law 322 = .ok (.iaload, 1) := by decide +kernel
theorem dL_law_323 : decode cL_law 323 = .ok (.aload_n 0, 1) := by decide +kernel
theorem dL_law_324 : decode cL_law 324 = .ok (.iload 4, 2) := by decide +kernel
theorem dL_law_326 : decode cL_law 326 = .ok (.iconst 2, 1) := by decide +kernel
theorem dL_law_327 : decode cL_law 327 = .ok (.iadd, 1) := by decide +kernel
theorem dL_law_328 : decode cL_law 328 = .ok (.iaload, 1) := by decide +kernel
theorem dL_law_329 : decode cL_law 329 = .ok (.aload_n 0, 1) := by decide +kernel
theorem dL_law_330 : decode cL_law 330 = .ok (.iload 4, 2) := by decide +kernel
theorem dL_law_332 : decode cL_law 332 = .ok (.iconst 3, 1) := by decide +kernel
theorem dL_law_333 : decode cL_law 333 = .ok (.iadd, 1) := by decide +kernel
theorem dL_law_334 : decode cL_law 334 = .ok (.iaload, 1) := by decide +kernel
theorem dL_law_335 : decode cL_law 335 = .ok (.aload_n 0, 1) := by decide +kernel
theorem dL_law_336 : decode cL_law 336 = .ok (.iload 4, 2) := by decide +kernel
theorem dL_law_338 : decode cL_law 338 = .ok (.iconst 4, 1) := by decide +kernel
theorem dL_law_339 : decode cL_law 339 = .ok (.iadd, 1) := by decide +kernel
theorem dL_law_340 : decode cL_law 340 = .ok (.iaload, 1) := by decide +kernel
theorem dL_law_341 : decode cL_law 341 = .ok (.aload_n 0, 1) := by decide +kernel
theorem dL_law_342 : decode cL_law 342 = .ok (.iload 4, 2) := by decide +kernel
theorem dL_law_344 : decode cL_law 344 = .ok (.iconst 5, 1) := by decide +kernel
theorem dL_law_345 : decode cL_law 345 = .ok (.iadd, 1) := by decide +kernel
theorem dL_law_346 : decode cL_law 346 = .ok (.iaload, 1) := by decide +kernel
theorem dL_law_347 : decode cL_law 347 = .ok (.ifCond .eq 7, 3) := by decide +kernel
theorem dL_law_350 : decode cL_law 350 = .ok (.iconst 1, 1) := by decide +kernel
theorem dL_law_351 : decode cL_law 351 = .ok (.goto 4, 3) := by decide +kernel
theorem dL_law_354 : decode cL_law 354 = .ok (.iconst 0, 1) := by decide +kernel
theorem dL_law_355 : decode cL_law 355 = .ok (.aload_n 3, 1) := by decide +kernel
theorem dL_law_356 : decode cL_law 356 = .ok (.invokestatic 95, 3) := by decide +kernel
theorem dL_law_359 : decode cL_law 359 = .ok (.istore 5, 2) := by decide +kernel
theorem dL_law_361 : decode cL_law 361 = .ok (.aload_n 2, 1) := by decide +kernel
theorem dL_law_362 : decode cL_law 362 = .ok (.aload_n 0, 1) := by decide +kernel
theorem dL_law_363 : decode cL_law 363 = .ok (.iload 4, 2) := by decide +kernel
theorem dL_law_365 : decode cL_law 365 = .ok (.iconst 1, 1) := by decide +kernel
theorem dL_law_366 : decode cL_law 366 = .ok (.iadd, 1) := by decide +kernel
theorem dL_law_367 : decode cL_law 367 = .ok (.iaload, 1) := by decide +kernel
theorem dL_law_368 : decode cL_law 368 = .ok (.aload_n 0, 1) := by decide +kernel
theorem dL_law_369 : decode cL_law 369 = .ok (.iload 4, 2) := by decide +kernel
theorem dL_law_371 : decode cL_law 371 = .ok (.iconst 2, 1) := by decide +kernel
theorem dL_law_372 : decode cL_law 372 = .ok (.iadd, 1) := by decide +kernel
theorem dL_law_373 : decode cL_law 373 = .ok (.iaload, 1) := by decide +kernel
theorem dL_law_374 : decode cL_law 374 = .ok (.aload_n 0, 1) := by decide +kernel
theorem dL_law_375 : decode cL_law 375 = .ok (.iload 4, 2) := by decide +kernel
theorem dL_law_377 : decode cL_law 377 = .ok (.iconst 3, 1) := by decide +kernel
theorem dL_law_378 : decode cL_law 378 = .ok (.iadd, 1) := by decide +kernel
theorem dL_law_379 : decode cL_law 379 = .ok (.iaload, 1) := by decide +kernel
theorem dL_law_380 : decode cL_law 380 = .ok (.aload_n 0, 1) := by decide +kernel
theorem dL_law_381 : decode cL_law 381 = .ok (.iload 4, 2) := by decide +kernel
theorem dL_law_383 : decode cL_law 383 = .ok (.iconst 4, 1) := by decide +kernel
theorem dL_law_384 : decode cL_law 384 = .ok (.iadd, 1) := by decide +kernel
theorem dL_law_385 : decode cL_law 385 = .ok (.iaload, 1) := by decide +kernel
theorem dL_law_386 : decode cL_law 386 = .ok (.aload_n 0, 1) := by decide +kernel
theorem dL_law_387 : decode cL_law 387 = .ok (.iload 4, 2) := by decide +kernel
theorem dL_law_389 : decode cL_law 389 = .ok (.iconst 5, 1) := by decide +kernel
theorem dL_law_390 : decode cL_law 390 = .ok (.iadd, 1) := by decide +kernel
theorem dL_law_391 : decode cL_law 391 = .ok (.iaload, 1) := by decide +kernel
theorem dL_law_392 : decode cL_law 392 = .ok (.ifCond .eq 7, 3) := by decide +kernel
theorem dL_law_395 : decode cL_law 395 = .ok (.iconst 1, 1) := by decide +kernel
theorem dL_law_396 : decode cL_law 396 = .ok (.goto 4, 3) := by decide +kernel
theorem dL_law_399 : decode cL_law 399 = .ok (.iconst 0, 1) := by decide +kernel
theorem dL_law_400 : decode cL_law 400 = .ok (.invokevirtual 98, 3) := by decide +kernel
theorem dL_law_403 : decode cL_law 403 = .ok (.istore 6, 2) := by decide +kernel
theorem dL_law_405 : decode cL_law 405 = .ok (.aload_n 2, 1) := by decide +kernel
theorem dL_law_406 : decode cL_law 406 = .ok (.invokevirtual 83, 3) := by decide +kernel
theorem dL_law_409 : decode cL_law 409 = .ok (.iload 5, 2) := by decide +kernel
theorem dL_law_411 : decode cL_law 411 = .ok (.if_icmp .eq 5, 3) := by decide +kernel
theorem dL_law_414 : decode cL_law 414 = .ok (.iconst 0, 1) := by decide +kernel
theorem dL_law_415 : decode cL_law 415 = .ok (.ireturn, 1) := by decide +kernel
theorem dL_law_416 : decode cL_law 416 = .ok (.iload 5, 2) := by decide +kernel
theorem dL_law_418 : decode cL_law 418 = .ok (.ifCond .ne 15, 3) := by decide +kernel
theorem dL_law_421 : decode cL_law 421 = .ok (.aload_n 3, 1) := by decide +kernel
theorem dL_law_422 : decode cL_law 422 = .ok (.iconst 0, 1) := by decide +kernel
theorem dL_law_423 : decode cL_law 423 = .ok (.laload, 1) := by decide +kernel
theorem dL_law_424 : decode cL_law 424 = .ok (.iload 6, 2) := by decide +kernel
theorem dL_law_426 : decode cL_law 426 = .ok (.i2l, 1) := by decide +kernel
theorem dL_law_427 : decode cL_law 427 = .ok (.lcmp, 1) := by decide +kernel
theorem dL_law_428 : decode cL_law 428 = .ok (.ifCond .eq 5, 3) := by decide +kernel
theorem dL_law_431 : decode cL_law 431 = .ok (.iconst 0, 1) := by decide +kernel
theorem dL_law_432 : decode cL_law 432 = .ok (.ireturn, 1) := by decide +kernel
theorem dL_law_433 : decode cL_law 433 = .ok (.goto 1112, 3) := by decide +kernel
theorem dL_law_436 : decode cL_law 436 = .ok (.aload_n 1, 1) := by decide +kernel
theorem dL_law_437 : decode cL_law 437 = .ok (.aload_n 0, 1) := by decide +kernel
theorem dL_law_438 : decode cL_law 438 = .ok (.iload 4, 2) := by decide +kernel
theorem dL_law_440 : decode cL_law 440 = .ok (.iconst 1, 1) := by decide +kernel
theorem dL_law_441 : decode cL_law 441 = .ok (.iadd, 1) := by decide +kernel
theorem dL_law_442 : decode cL_law 442 = .ok (.iaload, 1) := by decide +kernel
theorem dL_law_443 : decode cL_law 443 = .ok (.aload_n 0, 1) := by decide +kernel
theorem dL_law_444 : decode cL_law 444 = .ok (.iload 4, 2) := by decide +kernel
theorem dL_law_446 : decode cL_law 446 = .ok (.iconst 2, 1) := by decide +kernel
theorem dL_law_447 : decode cL_law 447 = .ok (.iadd, 1) := by decide +kernel
theorem dL_law_448 : decode cL_law 448 = .ok (.iaload, 1) := by decide +kernel
theorem dL_law_449 : decode cL_law 449 = .ok (.aload_n 0, 1) := by decide +kernel
theorem dL_law_450 : decode cL_law 450 = .ok (.iload 4, 2) := by decide +kernel
theorem dL_law_452 : decode cL_law 452 = .ok (.iconst 3, 1) := by decide +kernel
theorem dL_law_453 : decode cL_law 453 = .ok (.iadd, 1) := by decide +kernel
theorem dL_law_454 : decode cL_law 454 = .ok (.iaload, 1) := by decide +kernel
theorem dL_law_455 : decode cL_law 455 = .ok (.aload_n 0, 1) := by decide +kernel
theorem dL_law_456 : decode cL_law 456 = .ok (.iload 4, 2) := by decide +kernel
theorem dL_law_458 : decode cL_law 458 = .ok (.iconst 4, 1) := by decide +kernel
theorem dL_law_459 : decode cL_law 459 = .ok (.iadd, 1) := by decide +kernel
theorem dL_law_460 : decode cL_law 460 = .ok (.iaload, 1) := by decide +kernel
theorem dL_law_461 : decode cL_law 461 = .ok (.aload_n 3, 1) := by decide +kernel
theorem dL_law_462 : decode cL_law 462 = .ok (.invokestatic 99, 3) := by decide +kernel
theorem dL_law_465 : decode cL_law 465 = .ok (.istore 5, 2) := by decide +kernel
theorem dL_law_467 : decode cL_law 467 = .ok (.aload_n 2, 1) := by decide +kernel
theorem dL_law_468 : decode cL_law 468 = .ok (.aload_n 0, 1) := by decide +kernel
theorem dL_law_469 : decode cL_law 469 = .ok (.iload 4, 2) := by decide +kernel
theorem dL_law_471 : decode cL_law 471 = .ok (.iconst 1, 1) := by decide +kernel
theorem dL_law_472 : decode cL_law 472 = .ok (.iadd, 1) := by decide +kernel
theorem dL_law_473 : decode cL_law 473 = .ok (.iaload, 1) := by decide +kernel
end
section
theorem dL_law_474 : decode cL_law 474 = .ok (.aload_n 0, 1) := by decide +kernel
theorem dL_law_475 : decode cL_law 475 = .ok (.iload 4, 2) := by decide +kernel
theorem dL_law_477 : decode cL_law 477 = .ok (.iconst 2, 1) := by decide +kernel
theorem dL_law_478 : decode cL_law 478 = .ok (.iadd, 1) := by decide +kernel
theorem dL_law_479 : decode cL_law 479 = .ok (.iaload, 1) := by decide +kernel
theorem dL_law_480 : decode cL_law 480 = .ok (.aload_n 0, 1) := by decide +kernel
theorem dL_law_481 : decode cL_law 481 = .ok (.iload 4, 2) := by decide +kernel
theorem dL_law_483 : decode cL_law 483 = .ok (.iconst 3, 1) := by decide +kernel
theorem dL_law_484 : decode cL_law 484 = .ok (.iadd, 1) := by decide +kernel
theorem dL_law_485 : decode cL_law 485 = .ok (.iaload, 1) := by decide +kernel
theorem dL_law_486 : decode cL_law 486 = .ok (.aload_n 0, 1) := by decide +kernel
theorem dL_law_487 : decode cL_law 487 = .ok (.iload 4, 2) := by decide +kernel
theorem dL_law_489 : decode cL_law 489 = .ok (.iconst 4, 1) := by decide +kernel
theorem dL_law_490 : decode cL_law 490 = .ok (.iadd, 1) := by decide +kernel
theorem dL_law_491 : decode cL_law 491 = .ok (.iaload, 1) := by decide +kernel
theorem dL_law_492 : decode cL_law 492 = .ok (.invokevirtual 102, 3) := by decide +kernel
theorem dL_law_495 : decode cL_law 495 = .ok (.istore 6, 2) := by decide +kernel
theorem dL_law_497 : decode cL_law 497 = .ok (.aload_n 2, 1) := by decide +kernel
theorem dL_law_498 : decode cL_law 498 = .ok (.invokevirtual 83, 3) := by decide +kernel
theorem dL_law_501 : decode cL_law 501 = .ok (.iload 5, 2) := by decide +kernel
theorem dL_law_503 : decode cL_law 503 = .ok (.if_icmp .eq 5, 3) := by decide +kernel
theorem dL_law_506 : decode cL_law 506 = .ok (.iconst 0, 1) := by decide +kernel
theorem dL_law_507 : decode cL_law 507 = .ok (.ireturn, 1) := by decide +kernel
theorem dL_law_508 : decode cL_law 508 = .ok (.iload 5, 2) := by decide +kernel
theorem dL_law_510 : decode cL_law 510 = .ok (.ifCond .ne 15, 3) := by decide +kernel
theorem dL_law_513 : decode cL_law 513 = .ok (.aload_n 3, 1) := by decide +kernel
theorem dL_law_514 : decode cL_law 514 = .ok (.iconst 0, 1) := by decide +kernel
theorem dL_law_515 : decode cL_law 515 = .ok (.laload, 1) := by decide +kernel
theorem dL_law_516 : decode cL_law 516 = .ok (.iload 6, 2) := by decide +kernel
theorem dL_law_518 : decode cL_law 518 = .ok (.i2l, 1) := by decide +kernel
theorem dL_law_519 : decode cL_law 519 = .ok (.lcmp, 1) := by decide +kernel
theorem dL_law_520 : decode cL_law 520 = .ok (.ifCond .eq 5, 3) := by decide +kernel
theorem dL_law_523 : decode cL_law 523 = .ok (.iconst 0, 1) := by decide +kernel
theorem dL_law_524 : decode cL_law 524 = .ok (.ireturn, 1) := by decide +kernel
theorem dL_law_525 : decode cL_law 525 = .ok (.goto 1020, 3) := by decide +kernel
theorem dL_law_528 : decode cL_law 528 = .ok (.aload_n 1, 1) := by decide +kernel
theorem dL_law_529 : decode cL_law 529 = .ok (.invokevirtual 103, 3) := by decide +kernel
theorem dL_law_532 : decode cL_law 532 = .ok (.aload_n 2, 1) := by decide +kernel
theorem dL_law_533 : decode cL_law 533 = .ok (.invokevirtual 106, 3) := by decide +kernel
theorem dL_law_536 : decode cL_law 536 = .ok (.if_icmp .eq 1009, 3) := by decide +kernel
theorem dL_law_539 : decode cL_law 539 = .ok (.iconst 0, 1) := by decide +kernel
theorem dL_law_540 : decode cL_law 540 = .ok (.ireturn, 1) := by decide +kernel
theorem dL_law_541 : decode cL_law 541 = .ok (.aload_n 1, 1) := by decide +kernel
theorem dL_law_542 : decode cL_law 542 = .ok (.aload_n 0, 1) := by decide +kernel
theorem dL_law_543 : decode cL_law 543 = .ok (.iload 4, 2) := by decide +kernel
theorem dL_law_545 : decode cL_law 545 = .ok (.iconst 1, 1) := by decide +kernel
theorem dL_law_546 : decode cL_law 546 = .ok (.iadd, 1) := by decide +kernel
theorem dL_law_547 : decode cL_law 547 = .ok (.iaload, 1) := by decide +kernel
theorem dL_law_548 : decode cL_law 548 = .ok (.aload_n 0, 1) := by decide +kernel
theorem dL_law_549 : decode cL_law 549 = .ok (.iload 4, 2) := by decide +kernel
theorem dL_law_551 : decode cL_law 551 = .ok (.iconst 2, 1) := by decide +kernel
theorem dL_law_552 : decode cL_law 552 = .ok (.iadd, 1) := by decide +kernel
theorem dL_law_553 : decode cL_law 553 = .ok (.iaload, 1) := by decide +kernel
theorem dL_law_554 : decode cL_law 554 = .ok (.aload_n 3, 1) := by decide +kernel
theorem dL_law_555 : decode cL_law 555 = .ok (.invokestatic 107, 3) := by decide +kernel
theorem dL_law_558 : decode cL_law 558 = .ok (.istore 5, 2) := by decide +kernel
theorem dL_law_560 : decode cL_law 560 = .ok (.aload_n 2, 1) := by decide +kernel
theorem dL_law_561 : decode cL_law 561 = .ok (.aload_n 0, 1) := by decide +kernel
theorem dL_law_562 : decode cL_law 562 = .ok (.iload 4, 2) := by decide +kernel
theorem dL_law_564 : decode cL_law 564 = .ok (.iconst 1, 1) := by decide +kernel
theorem dL_law_565 : decode cL_law 565 = .ok (.iadd, 1) := by decide +kernel
theorem dL_law_566 : decode cL_law 566 = .ok (.iaload, 1) := by decide +kernel
theorem dL_law_567 : decode cL_law 567 = .ok (.aload_n 0, 1) := by decide +kernel
theorem dL_law_568 : decode cL_law 568 = .ok (.iload 4, 2) := by decide +kernel
theorem dL_law_570 : decode cL_law 570 = .ok (.iconst 2, 1) := by decide +kernel
theorem dL_law_571 : decode cL_law 571 = .ok (.iadd, 1) := by decide +kernel
theorem dL_law_572 : decode cL_law 572 = .ok (.iaload, 1) := by decide +kernel
theorem dL_law_573 : decode cL_law 573 = .ok (.invokevirtual 109, 3) := by decide +kernel
theorem dL_law_576 : decode cL_law 576 = .ok (.istore 6, 2) := by decide +kernel
theorem dL_law_578 : decode cL_law 578 = .ok (.aload_n 2, 1) := by decide +kernel
theorem dL_law_579 : decode cL_law 579 = .ok (.invokevirtual 83, 3) := by decide +kernel
theorem dL_law_582 : decode cL_law 582 = .ok (.iload 5, 2) := by decide +kernel
theorem dL_law_584 : decode cL_law 584 = .ok (.if_icmp .eq 5, 3) := by decide +kernel
theorem dL_law_587 : decode cL_law 587 = .ok (.iconst 0, 1) := by decide +kernel
theorem dL_law_588 : decode cL_law 588 = .ok (.ireturn, 1) := by decide +kernel
theorem dL_law_589 : decode cL_law 589 = .ok (.iload 5, 2) := by decide +kernel
theorem dL_law_591 : decode cL_law 591 = .ok (.ifCond .ne 15, 3) := by decide +kernel
theorem dL_law_594 : decode cL_law 594 = .ok (.aload_n 3, 1) := by decide +kernel
theorem dL_law_595 : decode cL_law 595 = .ok (.iconst 0, 1) := by decide +kernel
theorem dL_law_596 : decode cL_law 596 = .ok (.laload, 1) := by decide +kernel
theorem dL_law_597 : decode cL_law 597 = .ok (.iload 6, 2) := by decide +kernel
theorem dL_law_599 : decode cL_law 599 = .ok (.i2l, 1) := by decide +kernel
theorem dL_law_600 : decode cL_law 600 = .ok (.lcmp, 1) := by decide +kernel
theorem dL_law_601 : decode cL_law 601 = .ok (.ifCond .eq 5, 3) := by decide +kernel
theorem dL_law_604 : decode cL_law 604 = .ok (.iconst 0, 1) := by decide +kernel
theorem dL_law_605 : decode cL_law 605 = .ok (.ireturn, 1) := by decide +kernel
theorem dL_law_606 : decode cL_law 606 = .ok (.goto 939, 3) := by decide +kernel
theorem dL_law_609 : decode cL_law 609 = .ok (.aload_n 1, 1) := by decide +kernel
theorem dL_law_610 : decode cL_law 610 = .ok (.aload_n 0, 1) := by decide +kernel
theorem dL_law_611 : decode cL_law 611 = .ok (.iload 4, 2) := by decide +kernel
theorem dL_law_613 : decode cL_law 613 = .ok (.iconst 1, 1) := by decide +kernel
theorem dL_law_614 : decode cL_law 614 = .ok (.iadd, 1) := by decide +kernel
theorem dL_law_615 : decode cL_law 615 = .ok (.iaload, 1) := by decide +kernel
theorem dL_law_616 : decode cL_law 616 = .ok (.aload_n 0, 1) := by decide +kernel
theorem dL_law_617 : decode cL_law 617 = .ok (.iload 4, 2) := by decide +kernel
theorem dL_law_619 : decode cL_law 619 = .ok (.iconst 2, 1) := by decide +kernel
theorem dL_law_620 : decode cL_law 620 = .ok (.iadd, 1) := by decide +kernel
theorem dL_law_621 : decode cL_law 621 = .ok (.iaload, 1) := by decide +kernel
theorem dL_law_622 : decode cL_law 622 = .ok (.aload_n 3, 1) := by decide +kernel
theorem dL_law_623 : decode cL_law 623 = .ok (.invokestatic 110, 3) := by decide +kernel
theorem dL_law_626 : decode cL_law 626 = .ok (.istore 5, 2) := by decide +kernel
theorem dL_law_628 : decode cL_law 628 = .ok (.aload_n 2, 1) := by decide +kernel
theorem dL_law_629 : decode cL_law 629 = .ok (.aload_n 0, 1) := by decide +kernel
theorem dL_law_630 : decode cL_law 630 = .ok (.iload 4, 2) := by decide +kernel
theorem dL_law_632 : decode cL_law 632 = .ok (.iconst 1, 1) := by decide +kernel
theorem dL_law_633 : decode cL_law 633 = .ok (.iadd, 1) := by decide +kernel
theorem dL_law_634 : decode cL_law 634 = .ok (.iaload, 1) := by decide +kernel
theorem dL_law_635 : decode cL_law 635 = .ok (.aload_n 0, 1) := by decide +kernel
theorem dL_law_636 : decode cL_law 636 = .ok (.iload 4, 2) := by decide +kernel
theorem dL_law_638 : decode cL_law 638 = .ok (.iconst 2, 1) := by decide +kernel
theorem dL_law_639 : decode cL_law 639 = .ok (.iadd, 1) := by decide +kernel
theorem dL_law_640 : decode cL_law 640 = .ok (.iaload, 1) := by decide +kernel
theorem dL_law_641 : decode cL_law 641 = .ok (.invokevirtual 112, 3) := by decide +kernel
theorem dL_law_644 : decode cL_law 644 = .ok (.istore 6, 2) := by decide +kernel
theorem dL_law_646 : decode cL_law 646 = .ok (.aload_n 2, 1) := by decide +kernel
theorem dL_law_647 : decode cL_law 647 = .ok (.invokevirtual 83, 3) := by decide +kernel
theorem dL_law_650 : decode cL_law 650 = .ok (.iload 5, 2) := by decide +kernel
theorem dL_law_652 : decode cL_law 652 = .ok (.if_icmp .eq 5, 3) := by decide +kernel
theorem dL_law_655 : decode cL_law 655 = .ok (.iconst 0, 1) := by decide +kernel
theorem dL_law_656 : decode cL_law 656 = .ok (.ireturn, 1) := by decide +kernel
theorem dL_law_657 : decode cL_law 657 = .ok (.iload 5, 2) := by decide +kernel
theorem dL_law_659 : decode cL_law 659 = .ok (.ifCond .ne 15, 3) := by decide +kernel
theorem dL_law_662 : decode cL_law 662 = .ok (.aload_n 3, 1) := by decide +kernel
theorem dL_law_663 : decode cL_law 663 = .ok (.iconst 0, 1) := by decide +kernel
theorem dL_law_664 : decode cL_law 664 = .ok (.laload, 1) := by decide +kernel
theorem dL_law_665 : decode cL_law 665 = .ok (.iload 6, 2) := by decide +kernel
theorem dL_law_667 : decode cL_law 667 = .ok (.i2l, 1) := by decide +kernel
theorem dL_law_668 : decode cL_law 668 = .ok (.lcmp, 1) := by decide +kernel
theorem dL_law_669 : decode cL_law 669 = .ok (.ifCond .eq 5, 3) := by decide +kernel
theorem dL_law_672 : decode cL_law 672 = .ok (.iconst 0, 1) := by decide +kernel
theorem dL_law_673 : decode cL_law 673 = .ok (.ireturn, 1) := by decide +kernel
theorem dL_law_674 : decode cL_law 674 = .ok (.goto 871, 3) := by decide +kernel
theorem dL_law_677 : decode cL_law 677 = .ok (.aload_n 1, 1) := by decide +kernel
theorem dL_law_678 : decode cL_law 678 = .ok (.aload_n 0, 1) := by decide +kernel
theorem dL_law_679 : decode cL_law 679 = .ok (.iload 4, 2) := by decide +kernel
theorem dL_law_681 : decode cL_law 681 = .ok (.iconst 1, 1) := by decide +kernel
theorem dL_law_682 : decode cL_law 682 = .ok (.iadd, 1) := by decide +kernel
theorem dL_law_683 : decode cL_law 683 = .ok (.iaload, 1) := by decide +kernel
theorem dL_law_684 : decode cL_law 684 = .ok (.aload_n 3, 1) := by decide +kernel
theorem dL_law_685 : decode cL_law 685 = .ok (.invokestatic 113, 3) := by decide +kernel
theorem dL_law_688 : decode cL_law 688 = .ok (.istore 5, 2) := by decide +kernel
theorem dL_law_690 : decode cL_law 690 = .ok (.aload_n 2, 1) := by decide +kernel
theorem dL_law_691 : decode cL_law 691 = .ok (.aload_n 0, 1) := by decide +kernel
theorem dL_law_692 : decode cL_law 692 = .ok (.iload 4, 2) := by decide +kernel
theorem dL_law_694 : decode cL_law 694 = .ok (.iconst 1, 1) := by decide +kernel
theorem dL_law_695 : decode cL_law 695 = .ok (.iadd, 1) := by decide +kernel
theorem dL_law_696 : decode cL_law 696 = .ok (.iaload, 1) := by decide +kernel
theorem dL_law_697 : decode cL_law 697 = .ok (.invokevirtual 115, 3) := by decide +kernel
theorem dL_law_700 : decode cL_law 700 = .ok (.istore 6, 2) := by decide +kernel
theorem dL_law_702 : decode cL_law 702 = .ok (.aload_n 2, 1) := by decide +kernel
theorem dL_law_703 : decode cL_law 703 = .ok (.invokevirtual 83, 3) := by decide +kernel
theorem dL_law_706 : decode cL_law 706 = .ok (.iload 5, 2) := by decide +kernel
theorem dL_law_708 : decode cL_law 708 = .ok (.if_icmp .eq 5, 3) := by decide +kernel
theorem dL_law_711 : decode cL_law 711 = .ok (.iconst 0, 1) := by decide +kernel
theorem dL_law_712 : decode cL_law 712 = .ok (.ireturn, 1) := by decide +kernel
theorem dL_law_713 : decode cL_law 713 = .ok (.iload 5, 2) := by decide +kernel
theorem dL_law_715 : decode cL_law 715 = .ok (.ifCond .ne 15, 3) := by decide +kernel
theorem dL_law_718 : decode cL_law 718 = .ok (.aload_n 3, 1) := by decide +kernel
theorem dL_law_719 : decode cL_law 719 = .ok (.iconst 0, 1) := by decide +kernel
theorem dL_law_720 : decode cL_law 720 = .ok (.laload, 1) := by decide +kernel
theorem dL_law_721 : decode cL_law 721 = .ok (.iload 6, 2) := by decide +kernel
theorem dL_law_723 : decode cL_law 723 = .ok (.i2l, 1) := by decide +kernel
theorem dL_law_724 : decode cL_law 724 = .ok (.lcmp, 1) := by decide +kernel
theorem dL_law_725 : decode cL_law 725 = .ok (.ifCond .eq 5, 3) := by decide +kernel
theorem dL_law_728 : decode cL_law 728 = .ok (.iconst 0, 1) := by decide +kernel
theorem dL_law_729 : decode cL_law 729 = .ok (.ireturn, 1) := by decide +kernel
theorem dL_law_730 : decode cL_law 730 = .ok (.goto 815, 3) := by decide +kernel
theorem dL_law_733 : decode cL_law 733 = .ok (.aload_n 1, 1) := by decide +kernel
theorem dL_law_734 : decode cL_law 734 = .ok (.aload_n 0, 1) := by decide +kernel
theorem dL_law_735 : decode cL_law 735 = .ok (.iload 4, 2) := by decide +kernel
theorem dL_law_737 : decode cL_law 737 = .ok (.iconst 1, 1) := by decide +kernel
theorem dL_law_738 : decode cL_law 738 = .ok (.iadd, 1) := by decide +kernel
theorem dL_law_739 : decode cL_law 739 = .ok (.iaload, 1) := by decide +kernel
theorem dL_law_740 : decode cL_law 740 = .ok (.aload_n 0, 1) := by decide +kernel
theorem dL_law_741 : decode cL_law 741 = .ok (.iload 4, 2) := by decide +kernel
theorem dL_law_743 : decode cL_law 743 = .ok (.iconst 2, 1) := by decide +kernel
theorem dL_law_744 : decode cL_law 744 = .ok (.iadd, 1) := by decide +kernel
theorem dL_law_745 : decode cL_law 745 = .ok (.iaload, 1) := by decide +kernel
theorem dL_law_746 : decode cL_law 746 = .ok (.aload_n 3, 1) := by decide +kernel
theorem dL_law_747 : decode cL_law 747 = .ok (.invokestatic 116, 3) := by decide +kernel
theorem dL_law_750 : decode cL_law 750 = .ok (.istore 5, 2) := by decide +kernel
theorem dL_law_752 : decode cL_law 752 = .ok (.aload_n 2, 1) := by decide +kernel
theorem dL_law_753 : decode cL_law 753 = .ok (.aload_n 0, 1) := by decide +kernel
theorem dL_law_754 : decode cL_law 754 = .ok (.iload 4, 2) := by decide +kernel
theorem dL_law_756 : decode cL_law 756 = .ok (.iconst 1, 1) := by decide +kernel
theorem dL_law_757 : decode cL_law 757 = .ok (.iadd, 1) := by decide +kernel
theorem dL_law_758 : decode cL_law 758 = .ok (.iaload, 1) := by decide +kernel
theorem dL_law_759 : decode cL_law 759 = .ok (.aload_n 0, 1) := by decide +kernel
theorem dL_law_760 : decode cL_law 760 = .ok (.iload 4, 2) := by decide +kernel
theorem dL_law_762 : decode cL_law 762 = .ok (.iconst 2, 1) := by decide +kernel
theorem dL_law_763 : decode cL_law 763 = .ok (.iadd, 1) := by decide +kernel
theorem dL_law_764 : decode cL_law 764 = .ok (.iaload, 1) := by decide +kernel
theorem dL_law_765 : decode cL_law 765 = .ok (.invokevirtual 118, 3) := by decide +kernel
theorem dL_law_768 : decode cL_law 768 = .ok (.istore 6, 2) := by decide +kernel
theorem dL_law_770 : decode cL_law 770 = .ok (.aload_n 2, 1) := by decide +kernel
theorem dL_law_771 : decode cL_law 771 = .ok (.invokevirtual 83, 3) := by decide +kernel
theorem dL_law_774 : decode cL_law 774 = .ok (.iload 5, 2) := by decide +kernel
theorem dL_law_776 : decode cL_law 776 = .ok (.if_icmp .eq 5, 3) := by decide +kernel
theorem dL_law_779 : decode cL_law 779 = .ok (.iconst 0, 1) := by decide +kernel
theorem dL_law_780 : decode cL_law 780 = .ok (.ireturn, 1) := by decide +kernel
theorem dL_law_781 : decode cL_law 781 = .ok (.iload 5, 2) := by decide +kernel
theorem dL_law_783 : decode cL_law 783 = .ok (.ifCond .ne 15, 3) := by decide +kernel
theorem dL_law_786 : decode cL_law 786 = .ok (.aload_n 3, 1) := by decide +kernel
theorem dL_law_787 : decode cL_law 787 = .ok (.iconst 0, 1) := by decide +kernel
theorem dL_law_788 : decode cL_law 788 = .ok (.laload, 1) := by decide +kernel
theorem dL_law_789 : decode cL_law 789 = .ok (.iload 6, 2) := by decide +kernel
theorem dL_law_791 : decode cL_law 791 = .ok (.i2l, 1) := by decide +kernel
theorem dL_law_792 : decode cL_law 792 = .ok (.lcmp, 1) := by decide +kernel
theorem dL_law_793 : decode cL_law 793 = .ok (.ifCond .eq 5, 3) := by decide +kernel
theorem dL_law_796 : decode cL_law 796 = .ok (.iconst 0, 1) := by decide +kernel
theorem dL_law_797 : decode cL_law 797 = .ok (.ireturn, 1) := by decide +kernel
theorem dL_law_798 : decode cL_law 798 = .ok (.goto 747, 3) := by decide +kernel
theorem dL_law_801 : decode cL_law 801 = .ok (.aload_n 1, 1) := by decide +kernel
theorem dL_law_802 : decode cL_law 802 = .ok (.aload_n 0, 1) := by decide +kernel
theorem dL_law_803 : decode cL_law 803 = .ok (.iload 4, 2) := by decide +kernel
theorem dL_law_805 : decode cL_law 805 = .ok (.iconst 1, 1) := by decide +kernel
theorem dL_law_806 : decode cL_law 806 = .ok (.iadd, 1) := by decide +kernel
theorem dL_law_807 : decode cL_law 807 = .ok (.iaload, 1) := by decide +kernel
theorem dL_law_808 : decode cL_law 808 = .ok (.aload_n 3, 1) := by decide +kernel
theorem dL_law_809 : decode cL_law 809 = .ok (.invokestatic 119, 3) := by decide +kernel
theorem dL_law_812 : decode cL_law 812 = .ok (.istore 5, 2) := by decide +kernel
theorem dL_law_814 : decode cL_law 814 = .ok (.aload_n 2, 1) := by decide +kernel
theorem dL_law_815 : decode cL_law 815 = .ok (.aload_n 0, 1) := by decide +kernel
theorem dL_law_816 : decode cL_law 816 = .ok (.iload 4, 2) := by decide +kernel
theorem dL_law_818 : decode cL_law 818 = .ok (.iconst 1, 1) := by decide +kernel
theorem dL_law_819 : decode cL_law 819 = .ok (.iadd, 1) := by decide +kernel
theorem dL_law_820 : decode cL_law 820 = .ok (.iaload, 1) := by decide +kernel
theorem dL_law_821 : decode cL_law 821 = .ok (.invokevirtual 121, 3) := by decide +kernel
theorem dL_law_824 : decode cL_law 824 = .ok (.istore 6, 2) := by decide +kernel
theorem dL_law_826 : decode cL_law 826 = .ok (.aload_n 2, 1) := by decide +kernel
theorem dL_law_827 : decode cL_law 827 = .ok (.invokevirtual 83, 3) := by decide +kernel
theorem dL_law_830 : decode cL_law 830 = .ok (.iload 5, 2) := by decide +kernel
theorem dL_law_832 : decode cL_law 832 = .ok (.if_icmp .eq 5, 3) := by decide +kernel
theorem dL_law_835 : decode cL_law 835 = .ok (.iconst 0, 1) := by decide +kernel
theorem dL_law_836 : decode cL_law 836 = .ok (.ireturn, 1) := by decide +kernel
theorem dL_law_837 : decode cL_law 837 = .ok (.iload 5, 2) := by decide +kernel
theorem dL_law_839 : decode cL_law 839 = .ok (.ifCond .ne 15, 3) := by decide +kernel
theorem dL_law_842 : decode cL_law 842 = .ok (.aload_n 3, 1) := by decide +kernel
theorem dL_law_843 : decode cL_law 843 = .ok (.iconst 0, 1) := by decide +kernel
theorem dL_law_844 : decode cL_law 844 = .ok (.laload, 1) := by decide +kernel
theorem dL_law_845 : decode cL_law 845 = .ok (.iload 6, 2) := by decide +kernel
theorem dL_law_847 : decode cL_law 847 = .ok (.i2l, 1) := by decide +kernel
theorem dL_law_848 : decode cL_law 848 = .ok (.lcmp, 1) := by decide +kernel
theorem dL_law_849 : decode cL_law 849 = .ok (.ifCond .eq 5, 3) := by decide +kernel
theorem dL_law_852 : decode cL_law 852 = .ok (.iconst 0, 1) := by decide +kernel
theorem dL_law_853 : decode cL_law 853 = .ok (.ireturn, 1) := by decide +kernel
theorem dL_law_854 : decode cL_law 854 = .ok (.goto 691, 3) := by decide +kernel
theorem dL_law_857 : decode cL_law 857 = .ok (.aload_n 1, 1) := by decide +kernel
theorem dL_law_858 : decode cL_law 858 = .ok (.aload_n 0, 1) := by decide +kernel
theorem dL_law_859 : decode cL_law 859 = .ok (.iload 4, 2) := by decide +kernel
theorem dL_law_861 : decode cL_law 861 = .ok (.iconst 1, 1) := by decide +kernel
theorem dL_law_862 : decode cL_law 862 = .ok (.iadd, 1) := by decide +kernel
theorem dL_law_863 : decode cL_law 863 = .ok (.iaload, 1) := by decide +kernel
theorem dL_law_864 : decode cL_law 864 = .ok (.aload_n 0, 1) := by decide +kernel
theorem dL_law_865 : decode cL_law 865 = .ok (.iload 4, 2) := by decide +kernel
theorem dL_law_867 : decode cL_law 867 = .ok (.iconst 2, 1) := by decide +kernel
theorem dL_law_868 : decode cL_law 868 = .ok (.iadd, 1) := by decide +kernel
theorem dL_law_869 : decode cL_law 869 = .ok (.iaload, 1) := by decide +kernel
theorem dL_law_870 : decode cL_law 870 = .ok (.aload_n 0, 1) := by decide +kernel
theorem dL_law_871 : decode cL_law 871 = .ok (.iload 4, 2) := by decide +kernel
end
section
theorem dL_law_873 : decode cL_law 873 = .ok (.iconst 3, 1) := by decide +kernel
theorem dL_law_874 : decode cL_law 874 = .ok (.iadd, 1) := by decide +kernel
theorem dL_law_875 : decode cL_law 875 = .ok (.iaload, 1) := by decide +kernel
theorem dL_law_876 : decode cL_law 876 = .ok (.aload_n 0, 1) := by decide +kernel
theorem dL_law_877 : decode cL_law 877 = .ok (.iload 4, 2) := by decide +kernel
theorem dL_law_879 : decode cL_law 879 = .ok (.iconst 4, 1) := by decide +kernel
theorem dL_law_880 : decode cL_law 880 = .ok (.iadd, 1) := by decide +kernel
theorem dL_law_881 : decode cL_law 881 = .ok (.iaload, 1) := by decide +kernel
theorem dL_law_882 : decode cL_law 882 = .ok (.aload_n 3, 1) := by decide +kernel
theorem dL_law_883 : decode cL_law 883 = .ok (.invokestatic 122, 3) := by decide +kernel
theorem dL_law_886 : decode cL_law 886 = .ok (.istore 5, 2) := by decide +kernel
theorem dL_law_888 : decode cL_law 888 = .ok (.aload_n 2, 1) := by decide +kernel
theorem dL_law_889 : decode cL_law 889 = .ok (.aload_n 0, 1) := by decide +kernel
theorem dL_law_890 : decode cL_law 890 = .ok (.iload 4, 2) := by decide +kernel
theorem dL_law_892 : decode cL_law 892 = .ok (.iconst 1, 1) := by decide +kernel
theorem dL_law_893 : decode cL_law 893 = .ok (.iadd, 1) := by decide +kernel
theorem dL_law_894 : decode cL_law 894 = .ok (.iaload, 1) := by decide +kernel
theorem dL_law_895 : decode cL_law 895 = .ok (.aload_n 0, 1) := by decide +kernel
theorem dL_law_896 : decode cL_law 896 = .ok (.iload 4, 2) := by decide +kernel
theorem dL_law_898 : decode cL_law 898 = .ok (.iconst 2, 1) := by decide +kernel
theorem dL_law_899 : decode cL_law 899 = .ok (.iadd, 1) := by decide +kernel
theorem dL_law_900 : decode cL_law 900 = .ok (.iaload, 1) := by decide +kernel
theorem dL_law_901 : decode cL_law 901 = .ok (.aload_n 0, 1) := by decide +kernel
theorem dL_law_902 : decode cL_law 902 = .ok (.iload 4, 2) := by decide +kernel
theorem dL_law_904 : decode cL_law 904 = .ok (.iconst 3, 1) := by decide +kernel
theorem dL_law_905 : decode cL_law 905 = .ok (.iadd, 1) := by decide +kernel
theorem dL_law_906 : decode cL_law 906 = .ok (.iaload, 1) := by decide +kernel
theorem dL_law_907 : decode cL_law 907 = .ok (.aload_n 0, 1) := by decide +kernel
theorem dL_law_908 : decode cL_law 908 = .ok (.iload 4, 2) := by decide +kernel
theorem dL_law_910 : decode cL_law 910 = .ok (.iconst 4, 1) := by decide +kernel
theorem dL_law_911 : decode cL_law 911 = .ok (.iadd, 1) := by decide +kernel
theorem dL_law_912 : decode cL_law 912 = .ok (.iaload, 1) := by decide +kernel
theorem dL_law_913 : decode cL_law 913 = .ok (.invokevirtual 124, 3) := by decide +kernel
theorem dL_law_916 : decode cL_law 916 = .ok (.istore 6, 2) := by decide +kernel
theorem dL_law_918 : decode cL_law 918 = .ok (.aload_n 2, 1) := by decide +kernel
theorem dL_law_919 : decode cL_law 919 = .ok (.invokevirtual 83, 3) := by decide +kernel
theorem dL_law_922 : decode cL_law 922 = .ok (.iload 5, 2) := by decide +kernel
theorem dL_law_924 : decode cL_law 924 = .ok (.if_icmp .eq 5, 3) := by decide +kernel
theorem dL_law_927 : decode cL_law 927 = .ok (.iconst 0, 1) := by decide +kernel
theorem dL_law_928 : decode cL_law 928 = .ok (.ireturn, 1) := by decide +kernel
theorem dL_law_929 : decode cL_law 929 = .ok (.iload 5, 2) := by decide +kernel
theorem dL_law_931 : decode cL_law 931 = .ok (.ifCond .ne 22, 3) := by decide +kernel
theorem dL_law_934 : decode cL_law 934 = .ok (.aload_n 3, 1) := by decide +kernel
theorem dL_law_935 : decode cL_law 935 = .ok (.iconst 0, 1) := by decide +kernel
theorem dL_law_936 : decode cL_law 936 = .ok (.laload, 1) := by decide +kernel
theorem dL_law_937 : decode cL_law 937 = .ok (.iload 6, 2) := by decide +kernel
theorem dL_law_939 : decode cL_law 939 = .ok (.ifCond .eq 7, 3) := by decide +kernel
theorem dL_law_942 : decode cL_law 942 = .ok (.lconst 1, 1) := by decide +kernel
theorem dL_law_943 : decode cL_law 943 = .ok (.goto 4, 3) := by decide +kernel
theorem dL_law_946 : decode cL_law 946 = .ok (.lconst 0, 1) := by decide +kernel
theorem dL_law_947 : decode cL_law 947 = .ok (.lcmp, 1) := by decide +kernel
theorem dL_law_948 : decode cL_law 948 = .ok (.ifCond .eq 5, 3) := by decide +kernel
theorem dL_law_951 : decode cL_law 951 = .ok (.iconst 0, 1) := by decide +kernel
theorem dL_law_952 : decode cL_law 952 = .ok (.ireturn, 1) := by decide +kernel
theorem dL_law_953 : decode cL_law 953 = .ok (.goto 592, 3) := by decide +kernel
theorem dL_law_956 : decode cL_law 956 = .ok (.aload_n 1, 1) := by decide +kernel
theorem dL_law_957 : decode cL_law 957 = .ok (.aload_n 0, 1) := by decide +kernel
theorem dL_law_958 : decode cL_law 958 = .ok (.iload 4, 2) := by decide +kernel
theorem dL_law_960 : decode cL_law 960 = .ok (.iconst 1, 1) := by decide +kernel
theorem dL_law_961 : decode cL_law 961 = .ok (.iadd, 1) := by decide +kernel
theorem dL_law_962 : decode cL_law 962 = .ok (.iaload, 1) := by decide +kernel
theorem dL_law_963 : decode cL_law 963 = .ok (.aload_n 0, 1) := by decide +kernel
theorem dL_law_964 : decode cL_law 964 = .ok (.iload 4, 2) := by decide +kernel
theorem dL_law_966 : decode cL_law 966 = .ok (.iconst 2, 1) := by decide +kernel
theorem dL_law_967 : decode cL_law 967 = .ok (.iadd, 1) := by decide +kernel
theorem dL_law_968 : decode cL_law 968 = .ok (.iaload, 1) := by decide +kernel
theorem dL_law_969 : decode cL_law 969 = .ok (.aload_n 0, 1) := by decide +kernel
theorem dL_law_970 : decode cL_law 970 = .ok (.iload 4, 2) := by decide +kernel
theorem dL_law_972 : decode cL_law 972 = .ok (.iconst 3, 1) := by decide +kernel
theorem dL_law_973 : decode cL_law 973 = .ok (.iadd, 1) := by decide +kernel
theorem dL_law_974 : decode cL_law 974 = .ok (.iaload, 1) := by decide +kernel
theorem dL_law_975 : decode cL_law 975 = .ok (.aload_n 0, 1) := by decide +kernel
theorem dL_law_976 : decode cL_law 976 = .ok (.iload 4, 2) := by decide +kernel
theorem dL_law_978 : decode cL_law 978 = .ok (.iconst 4, 1) := by decide +kernel
theorem dL_law_979 : decode cL_law 979 = .ok (.iadd, 1) := by decide +kernel
theorem dL_law_980 : decode cL_law 980 = .ok (.iaload, 1) := by decide +kernel
theorem dL_law_981 : decode cL_law 981 = .ok (.aload_n 3, 1) := by decide +kernel
theorem dL_law_982 : decode cL_law 982 = .ok (.invokestatic 125, 3) := by decide +kernel
theorem dL_law_985 : decode cL_law 985 = .ok (.istore 5, 2) := by decide +kernel
theorem dL_law_987 : decode cL_law 987 = .ok (.aload_n 2, 1) := by decide +kernel
theorem dL_law_988 : decode cL_law 988 = .ok (.aload_n 0, 1) := by decide +kernel
theorem dL_law_989 : decode cL_law 989 = .ok (.iload 4, 2) := by decide +kernel
theorem dL_law_991 : decode cL_law 991 = .ok (.iconst 1, 1) := by decide +kernel
theorem dL_law_992 : decode cL_law 992 = .ok (.iadd, 1) := by decide +kernel
theorem dL_law_993 : decode cL_law 993 = .ok (.iaload, 1) := by decide +kernel
theorem dL_law_994 : decode cL_law 994 = .ok (.aload_n 0, 1) := by decide +kernel
theorem dL_law_995 : decode cL_law 995 = .ok (.iload 4, 2) := by decide +kernel
theorem dL_law_997 : decode cL_law 997 = .ok (.iconst 2, 1) := by decide +kernel
theorem dL_law_998 : decode cL_law 998 = .ok (.iadd, 1) := by decide +kernel
theorem dL_law_999 : decode cL_law 999 = .ok (.iaload, 1) := by decide +kernel
theorem dL_law_1000 : decode cL_law 1000 = .ok (.aload_n 0, 1) := by decide +kernel
theorem dL_law_1001 : decode cL_law 1001 = .ok (.iload 4, 2) := by decide +kernel
theorem dL_law_1003 : decode cL_law 1003 = .ok (.iconst 3, 1) := by decide +kernel
theorem dL_law_1004 : decode cL_law 1004 = .ok (.iadd, 1) := by decide +kernel
theorem dL_law_1005 : decode cL_law 1005 = .ok (.iaload, 1) := by decide +kernel
theorem dL_law_1006 : decode cL_law 1006 = .ok (.aload_n 0, 1) := by decide +kernel
theorem dL_law_1007 : decode cL_law 1007 = .ok (.iload 4, 2) := by decide +kernel
theorem dL_law_1009 : decode cL_law 1009 = .ok (.iconst 4, 1) := by decide +kernel
theorem dL_law_1010 : decode cL_law 1010 = .ok (.iadd, 1) := by decide +kernel
theorem dL_law_1011 : decode cL_law 1011 = .ok (.iaload, 1) := by decide +kernel
theorem dL_law_1012 : decode cL_law 1012 = .ok (.invokevirtual 127, 3) := by decide +kernel
theorem dL_law_1015 : decode cL_law 1015 = .ok (.istore 6, 2) := by decide +kernel
theorem dL_law_1017 : decode cL_law 1017 = .ok (.aload_n 2, 1) := by decide +kernel
theorem dL_law_1018 : decode cL_law 1018 = .ok (.invokevirtual 83, 3) := by decide +kernel
theorem dL_law_1021 : decode cL_law 1021 = .ok (.iload 5, 2) := by decide +kernel
theorem dL_law_1023 : decode cL_law 1023 = .ok (.if_icmp .eq 5, 3) := by decide +kernel
theorem dL_law_1026 : decode cL_law 1026 = .ok (.iconst 0, 1) := by decide +kernel
theorem dL_law_1027 : decode cL_law 1027 = .ok (.ireturn, 1) := by decide +kernel
theorem dL_law_1028 : decode cL_law 1028 = .ok (.iload 5, 2) := by decide +kernel
theorem dL_law_1030 : decode cL_law 1030 = .ok (.ifCond .ne 15, 3) := by decide +kernel
theorem dL_law_1033 : decode cL_law 1033 = .ok (.aload_n 3, 1) := by decide +kernel
theorem dL_law_1034 : decode cL_law 1034 = .ok (.iconst 0, 1) := by decide +kernel
theorem dL_law_1035 : decode cL_law 1035 = .ok (.laload, 1) := by decide +kernel
theorem dL_law_1036 : decode cL_law 1036 = .ok (.iload 6, 2) := by decide +kernel
theorem dL_law_1038 : decode cL_law 1038 = .ok (.i2l, 1) := by decide +kernel
theorem dL_law_1039 : decode cL_law 1039 = .ok (.lcmp, 1) := by decide +kernel
theorem dL_law_1040 : decode cL_law 1040 = .ok (.ifCond .eq 5, 3) := by decide +kernel
theorem dL_law_1043 : decode cL_law 1043 = .ok (.iconst 0, 1) := by decide +kernel
theorem dL_law_1044 : decode cL_law 1044 = .ok (.ireturn, 1) := by decide +kernel
theorem dL_law_1045 : decode cL_law 1045 = .ok (.goto 500, 3) := by decide +kernel
theorem dL_law_1048 : decode cL_law 1048 = .ok (.aload_n 1, 1) := by decide +kernel
theorem dL_law_1049 : decode cL_law 1049 = .ok (.aload_n 0, 1) := by decide +kernel
theorem dL_law_1050 : decode cL_law 1050 = .ok (.iload 4, 2) := by decide +kernel
theorem dL_law_1052 : decode cL_law 1052 = .ok (.iconst 1, 1) := by decide +kernel
theorem dL_law_1053 : decode cL_law 1053 = .ok (.iadd, 1) := by decide +kernel
theorem dL_law_1054 : decode cL_law 1054 = .ok (.iaload, 1) := by decide +kernel
theorem dL_law_1055 : decode cL_law 1055 = .ok (.aload_n 0, 1) := by decide +kernel
theorem dL_law_1056 : decode cL_law 1056 = .ok (.iload 4, 2) := by decide +kernel
theorem dL_law_1058 : decode cL_law 1058 = .ok (.iconst 2, 1) := by decide +kernel
theorem dL_law_1059 : decode cL_law 1059 = .ok (.iadd, 1) := by decide +kernel
theorem dL_law_1060 : decode cL_law 1060 = .ok (.iaload, 1) := by decide +kernel
theorem dL_law_1061 : decode cL_law 1061 = .ok (.aload_n 0, 1) := by decide +kernel
theorem dL_law_1062 : decode cL_law 1062 = .ok (.iload 4, 2) := by decide +kernel
theorem dL_law_1064 : decode cL_law 1064 = .ok (.iconst 3, 1) := by decide +kernel
theorem dL_law_1065 : decode cL_law 1065 = .ok (.iadd, 1) := by decide +kernel
theorem dL_law_1066 : decode cL_law 1066 = .ok (.iaload, 1) := by decide +kernel
theorem dL_law_1067 : decode cL_law 1067 = .ok (.aload_n 0, 1) := by decide +kernel
theorem dL_law_1068 : decode cL_law 1068 = .ok (.iload 4, 2) := by decide +kernel
theorem dL_law_1070 : decode cL_law 1070 = .ok (.iconst 4, 1) := by decide +kernel
theorem dL_law_1071 : decode cL_law 1071 = .ok (.iadd, 1) := by decide +kernel
theorem dL_law_1072 : decode cL_law 1072 = .ok (.iaload, 1) := by decide +kernel
theorem dL_law_1073 : decode cL_law 1073 = .ok (.aload_n 3, 1) := by decide +kernel
theorem dL_law_1074 : decode cL_law 1074 = .ok (.invokestatic 128, 3) := by decide +kernel
theorem dL_law_1077 : decode cL_law 1077 = .ok (.istore 5, 2) := by decide +kernel
theorem dL_law_1079 : decode cL_law 1079 = .ok (.aload_n 2, 1) := by decide +kernel
theorem dL_law_1080 : decode cL_law 1080 = .ok (.aload_n 0, 1) := by decide +kernel
theorem dL_law_1081 : decode cL_law 1081 = .ok (.iload 4, 2) := by decide +kernel
theorem dL_law_1083 : decode cL_law 1083 = .ok (.iconst 1, 1) := by decide +kernel
theorem dL_law_1084 : decode cL_law 1084 = .ok (.iadd, 1) := by decide +kernel
theorem dL_law_1085 : decode cL_law 1085 = .ok (.iaload, 1) := by decide +kernel
theorem dL_law_1086 : decode cL_law 1086 = .ok (.aload_n 0, 1) := by decide +kernel
theorem dL_law_1087 : decode cL_law 1087 = .ok (.iload 4, 2) := by decide +kernel
theorem dL_law_1089 : decode cL_law 1089 = .ok (.iconst 2, 1) := by decide +kernel
theorem dL_law_1090 : decode cL_law 1090 = .ok (.iadd, 1) := by decide +kernel
theorem dL_law_1091 : decode cL_law 1091 = .ok (.iaload, 1) := by decide +kernel
theorem dL_law_1092 : decode cL_law 1092 = .ok (.aload_n 0, 1) := by decide +kernel
theorem dL_law_1093 : decode cL_law 1093 = .ok (.iload 4, 2) := by decide +kernel
theorem dL_law_1095 : decode cL_law 1095 = .ok (.iconst 3, 1) := by decide +kernel
theorem dL_law_1096 : decode cL_law 1096 = .ok (.iadd, 1) := by decide +kernel
theorem dL_law_1097 : decode cL_law 1097 = .ok (.iaload, 1) := by decide +kernel
theorem dL_law_1098 : decode cL_law 1098 = .ok (.aload_n 0, 1) := by decide +kernel
theorem dL_law_1099 : decode cL_law 1099 = .ok (.iload 4, 2) := by decide +kernel
theorem dL_law_1101 : decode cL_law 1101 = .ok (.iconst 4, 1) := by decide +kernel
theorem dL_law_1102 : decode cL_law 1102 = .ok (.iadd, 1) := by decide +kernel
theorem dL_law_1103 : decode cL_law 1103 = .ok (.iaload, 1) := by decide +kernel
theorem dL_law_1104 : decode cL_law 1104 = .ok (.invokevirtual 130, 3) := by decide +kernel
theorem dL_law_1107 : decode cL_law 1107 = .ok (.istore 6, 2) := by decide +kernel
theorem dL_law_1109 : decode cL_law 1109 = .ok (.aload_n 2, 1) := by decide +kernel
theorem dL_law_1110 : decode cL_law 1110 = .ok (.invokevirtual 83, 3) := by decide +kernel
theorem dL_law_1113 : decode cL_law 1113 = .ok (.iload 5, 2) := by decide +kernel
theorem dL_law_1115 : decode cL_law 1115 = .ok (.if_icmp .eq 5, 3) := by decide +kernel
theorem dL_law_1118 : decode cL_law 1118 = .ok (.iconst 0, 1) := by decide +kernel
theorem dL_law_1119 : decode cL_law 1119 = .ok (.ireturn, 1) := by decide +kernel
theorem dL_law_1120 : decode cL_law 1120 = .ok (.iload 5, 2) := by decide +kernel
theorem dL_law_1122 : decode cL_law 1122 = .ok (.ifCond .ne 15, 3) := by decide +kernel
theorem dL_law_1125 : decode cL_law 1125 = .ok (.aload_n 3, 1) := by decide +kernel
theorem dL_law_1126 : decode cL_law 1126 = .ok (.iconst 0, 1) := by decide +kernel
theorem dL_law_1127 : decode cL_law 1127 = .ok (.laload, 1) := by decide +kernel
theorem dL_law_1128 : decode cL_law 1128 = .ok (.iload 6, 2) := by decide +kernel
theorem dL_law_1130 : decode cL_law 1130 = .ok (.i2l, 1) := by decide +kernel
theorem dL_law_1131 : decode cL_law 1131 = .ok (.lcmp, 1) := by decide +kernel
theorem dL_law_1132 : decode cL_law 1132 = .ok (.ifCond .eq 5, 3) := by decide +kernel
theorem dL_law_1135 : decode cL_law 1135 = .ok (.iconst 0, 1) := by decide +kernel
theorem dL_law_1136 : decode cL_law 1136 = .ok (.ireturn, 1) := by decide +kernel
theorem dL_law_1137 : decode cL_law 1137 = .ok (.goto 408, 3) := by decide +kernel
theorem dL_law_1140 : decode cL_law 1140 = .ok (.aload_n 1, 1) := by decide +kernel
theorem dL_law_1141 : decode cL_law 1141 = .ok (.aload_n 0, 1) := by decide +kernel
theorem dL_law_1142 : decode cL_law 1142 = .ok (.iload 4, 2) := by decide +kernel
theorem dL_law_1144 : decode cL_law 1144 = .ok (.iconst 1, 1) := by decide +kernel
theorem dL_law_1145 : decode cL_law 1145 = .ok (.iadd, 1) := by decide +kernel
theorem dL_law_1146 : decode cL_law 1146 = .ok (.iaload, 1) := by decide +kernel
theorem dL_law_1147 : decode cL_law 1147 = .ok (.aload_n 0, 1) := by decide +kernel
theorem dL_law_1148 : decode cL_law 1148 = .ok (.iload 4, 2) := by decide +kernel
theorem dL_law_1150 : decode cL_law 1150 = .ok (.iconst 2, 1) := by decide +kernel
theorem dL_law_1151 : decode cL_law 1151 = .ok (.iadd, 1) := by decide +kernel
theorem dL_law_1152 : decode cL_law 1152 = .ok (.iaload, 1) := by decide +kernel
theorem dL_law_1153 : decode cL_law 1153 = .ok (.aload_n 0, 1) := by decide +kernel
theorem dL_law_1154 : decode cL_law 1154 = .ok (.iload 4, 2) := by decide +kernel
theorem dL_law_1156 : decode cL_law 1156 = .ok (.iconst 3, 1) := by decide +kernel
theorem dL_law_1157 : decode cL_law 1157 = .ok (.iadd, 1) := by decide +kernel
theorem dL_law_1158 : decode cL_law 1158 = .ok (.iaload, 1) := by decide +kernel
theorem dL_law_1159 : decode cL_law 1159 = .ok (.aload_n 0, 1) := by decide +kernel
theorem dL_law_1160 : decode cL_law 1160 = .ok (.iload 4, 2) := by decide +kernel
theorem dL_law_1162 : decode cL_law 1162 = .ok (.iconst 4, 1) := by decide +kernel
theorem dL_law_1163 : decode cL_law 1163 = .ok (.iadd, 1) := by decide +kernel
theorem dL_law_1164 : decode cL_law 1164 = .ok (.iaload, 1) := by decide +kernel
theorem dL_law_1165 : decode cL_law 1165 = .ok (.aload_n 3, 1) := by decide +kernel
theorem dL_law_1166 : decode cL_law 1166 = .ok (.invokestatic 131, 3) := by decide +kernel
theorem dL_law_1169 : decode cL_law 1169 = .ok (.istore 5, 2) := by decide +kernel
theorem dL_law_1171 : decode cL_law 1171 = .ok (.aload_n 2, 1) := by decide +kernel
theorem dL_law_1172 : decode cL_law 1172 = .ok (.aload_n 0, 1) := by decide +kernel
theorem dL_law_1173 : decode cL_law 1173 = .ok (.iload 4, 2) := by decide +kernel
theorem dL_law_1175 : decode cL_law 1175 = .ok (.iconst 1, 1) := by decide +kernel
theorem dL_law_1176 : decode cL_law 1176 = .ok (.iadd, 1) := by decide +kernel
theorem dL_law_1177 : decode cL_law 1177 = .ok (.iaload, 1) := by decide +kernel
theorem dL_law_1178 : decode cL_law 1178 = .ok (.aload_n 0, 1) := by decide +kernel
theorem dL_law_1179 : decode cL_law 1179 = .ok (.iload 4, 2) := by decide +kernel
theorem dL_law_1181 : decode cL_law 1181 = .ok (.iconst 2, 1) := by decide +kernel
theorem dL_law_1182 : decode cL_law 1182 = .ok (.iadd, 1) := by decide +kernel
theorem dL_law_1183 : decode cL_law 1183 = .ok (.iaload, 1) := by decide +kernel
theorem dL_law_1184 : decode cL_law 1184 = .ok (.aload_n 0, 1) := by decide +kernel
theorem dL_law_1185 : decode cL_law 1185 = .ok (.iload 4, 2) := by decide +kernel
theorem dL_law_1187 : decode cL_law 1187 = .ok (.iconst 3, 1) := by decide +kernel
theorem dL_law_1188 : decode cL_law 1188 = .ok (.iadd, 1) := by decide +kernel
theorem dL_law_1189 : decode cL_law 1189 = .ok (.iaload, 1) := by decide +kernel
theorem dL_law_1190 : decode cL_law 1190 = .ok (.aload_n 0, 1) := by decide +kernel
theorem dL_law_1191 : decode cL_law 1191 = .ok (.iload 4, 2) := by decide +kernel
theorem dL_law_1193 : decode cL_law 1193 = .ok (.iconst 4, 1) := by decide +kernel
theorem dL_law_1194 : decode cL_law 1194 = .ok (.iadd, 1) := by decide +kernel
theorem dL_law_1195 : decode cL_law 1195 = .ok (.iaload, 1) := by decide +kernel
theorem dL_law_1196 : decode cL_law 1196 = .ok (.invokevirtual 133, 3) := by decide +kernel
theorem dL_law_1199 : decode cL_law 1199 = .ok (.istore 6, 2) := by decide +kernel
theorem dL_law_1201 : decode cL_law 1201 = .ok (.aload_n 2, 1) := by decide +kernel
theorem dL_law_1202 : decode cL_law 1202 = .ok (.invokevirtual 83, 3) := by decide +kernel
theorem dL_law_1205 : decode cL_law 1205 = .ok (.iload 5, 2) := by decide +kernel
theorem dL_law_1207 : decode cL_law 1207 = .ok (.if_icmp .eq 5, 3) := by decide +kernel
theorem dL_law_1210 : decode cL_law 1210 = .ok (.iconst 0, 1) := by decide +kernel
theorem dL_law_1211 : decode cL_law 1211 = .ok (.ireturn, 1) := by decide +kernel
theorem dL_law_1212 : decode cL_law 1212 = .ok (.iload 5, 2) := by decide +kernel
theorem dL_law_1214 : decode cL_law 1214 = .ok (.ifCond .ne 15, 3) := by decide +kernel
theorem dL_law_1217 : decode cL_law 1217 = .ok (.aload_n 3, 1) := by decide +kernel
theorem dL_law_1218 : decode cL_law 1218 = .ok (.iconst 0, 1) := by decide +kernel
theorem dL_law_1219 : decode cL_law 1219 = .ok (.laload, 1) := by decide +kernel
theorem dL_law_1220 : decode cL_law 1220 = .ok (.iload 6, 2) := by decide +kernel
theorem dL_law_1222 : decode cL_law 1222 = .ok (.i2l, 1) := by decide +kernel
theorem dL_law_1223 : decode cL_law 1223 = .ok (.lcmp, 1) := by decide +kernel
theorem dL_law_1224 : decode cL_law 1224 = .ok (.ifCond .eq 5, 3) := by decide +kernel
theorem dL_law_1227 : decode cL_law 1227 = .ok (.iconst 0, 1) := by decide +kernel
theorem dL_law_1228 : decode cL_law 1228 = .ok (.ireturn, 1) := by decide +kernel
theorem dL_law_1229 : decode cL_law 1229 = .ok (.goto 316, 3) := by decide +kernel
theorem dL_law_1232 : decode cL_law 1232 = .ok (.aload_n 1, 1) := by decide +kernel
theorem dL_law_1233 : decode cL_law 1233 = .ok (.aload_n 0, 1) := by decide +kernel
theorem dL_law_1234 : decode cL_law 1234 = .ok (.iload 4, 2) := by decide +kernel
theorem dL_law_1236 : decode cL_law 1236 = .ok (.iconst 1, 1) := by decide +kernel
theorem dL_law_1237 : decode cL_law 1237 = .ok (.iadd, 1) := by decide +kernel
theorem dL_law_1238 : decode cL_law 1238 = .ok (.iaload, 1) := by decide +kernel
theorem dL_law_1239 : decode cL_law 1239 = .ok (.aload_n 0, 1) := by decide +kernel
theorem dL_law_1240 : decode cL_law 1240 = .ok (.iload 4, 2) := by decide +kernel
theorem dL_law_1242 : decode cL_law 1242 = .ok (.iconst 2, 1) := by decide +kernel
theorem dL_law_1243 : decode cL_law 1243 = .ok (.iadd, 1) := by decide +kernel
end
section
theorem dL_law_1244 : decode cL_law 1244 = .ok (.iaload, 1) := by decide +kernel
theorem dL_law_1245 : decode cL_law 1245 = .ok (.aload_n 0, 1) := by decide +kernel
theorem dL_law_1246 : decode cL_law 1246 = .ok (.iload 4, 2) := by decide +kernel
theorem dL_law_1248 : decode cL_law 1248 = .ok (.iconst 3, 1) := by decide +kernel
theorem dL_law_1249 : decode cL_law 1249 = .ok (.iadd, 1) := by decide +kernel
theorem dL_law_1250 : decode cL_law 1250 = .ok (.iaload, 1) := by decide +kernel
theorem dL_law_1251 : decode cL_law 1251 = .ok (.aload_n 0, 1) := by decide +kernel
theorem dL_law_1252 : decode cL_law 1252 = .ok (.iload 4, 2) := by decide +kernel
theorem dL_law_1254 : decode cL_law 1254 = .ok (.iconst 4, 1) := by decide +kernel
theorem dL_law_1255 : decode cL_law 1255 = .ok (.iadd, 1) := by decide +kernel
theorem dL_law_1256 : decode cL_law 1256 = .ok (.iaload, 1) := by decide +kernel
theorem dL_law_1257 : decode cL_law 1257 = .ok (.aload_n 0, 1) := by decide +kernel
theorem dL_law_1258 : decode cL_law 1258 = .ok (.iload 4, 2) := by decide +kernel
theorem dL_law_1260 : decode cL_law 1260 = .ok (.iconst 5, 1) := by decide +kernel
theorem dL_law_1261 : decode cL_law 1261 = .ok (.iadd, 1) := by decide +kernel
theorem dL_law_1262 : decode cL_law 1262 = .ok (.iaload, 1) := by decide +kernel
theorem dL_law_1263 : decode cL_law 1263 = .ok (.aload_n 3, 1) := by decide +kernel
theorem dL_law_1264 : decode cL_law 1264 = .ok (.invokestatic 134, 3) := by decide +kernel
theorem dL_law_1267 : decode cL_law 1267 = .ok (.istore 5, 2) := by decide +kernel
theorem dL_law_1269 : decode cL_law 1269 = .ok (.aload_n 2, 1) := by decide +kernel
theorem dL_law_1270 : decode cL_law 1270 = .ok (.aload_n 0, 1) := by decide +kernel
theorem dL_law_1271 : decode cL_law 1271 = .ok (.iload 4, 2) := by decide +kernel
theorem dL_law_1273 : decode cL_law 1273 = .ok (.iconst 1, 1) := by decide +kernel
theorem dL_law_1274 : decode cL_law 1274 = .ok (.iadd, 1) := by decide +kernel
theorem dL_law_1275 : decode cL_law 1275 = .ok (.iaload, 1) := by decide +kernel
theorem dL_law_1276 : decode cL_law 1276 = .ok (.aload_n 0, 1) := by decide +kernel
theorem dL_law_1277 : decode cL_law 1277 = .ok (.iload 4, 2) := by decide +kernel
theorem dL_law_1279 : decode cL_law 1279 = .ok (.iconst 2, 1) := by decide +kernel
theorem dL_law_1280 : decode cL_law 1280 = .ok (.iadd, 1) := by decide +kernel
theorem dL_law_1281 : decode cL_law 1281 = .ok (.iaload, 1) := by decide +kernel
theorem dL_law_1282 : decode cL_law 1282 = .ok (.aload_n 0, 1) := by decide +kernel
theorem dL_law_1283 : decode cL_law 1283 = .ok (.iload 4, 2) := by decide +kernel
theorem dL_law_1285 : decode cL_law 1285 = .ok (.iconst 3, 1) := by decide +kernel
theorem dL_law_1286 : decode cL_law 1286 = .ok (.iadd, 1) := by decide +kernel
theorem dL_law_1287 : decode cL_law 1287 = .ok (.iaload, 1) := by decide +kernel
theorem dL_law_1288 : decode cL_law 1288 = .ok (.aload_n 0, 1) := by decide +kernel
theorem dL_law_1289 : decode cL_law 1289 = .ok (.iload 4, 2) := by decide +kernel
theorem dL_law_1291 : decode cL_law 1291 = .ok (.iconst 4, 1) := by decide +kernel
theorem dL_law_1292 : decode cL_law 1292 = .ok (.iadd, 1) := by decide +kernel
theorem dL_law_1293 : decode cL_law 1293 = .ok (.iaload, 1) := by decide +kernel
theorem dL_law_1294 : decode cL_law 1294 = .ok (.aload_n 0, 1) := by decide +kernel
theorem dL_law_1295 : decode cL_law 1295 = .ok (.iload 4, 2) := by decide +kernel
theorem dL_law_1297 : decode cL_law 1297 = .ok (.iconst 5, 1) := by decide +kernel
theorem dL_law_1298 : decode cL_law 1298 = .ok (.iadd, 1) := by decide +kernel
theorem dL_law_1299 : decode cL_law 1299 = .ok (.iaload, 1) := by decide +kernel
theorem dL_law_1300 : decode cL_law 1300 = .ok (.invokevirtual 137, 3) := by decide +kernel
theorem dL_law_1303 : decode cL_law 1303 = .ok (.istore 6, 2) := by decide +kernel
theorem dL_law_1305 : decode cL_law 1305 = .ok (.aload_n 2, 1) := by decide +kernel
theorem dL_law_1306 : decode cL_law 1306 = .ok (.invokevirtual 83, 3) := by decide +kernel
theorem dL_law_1309 : decode cL_law 1309 = .ok (.iload 5, 2) := by decide +kernel
theorem dL_law_1311 : decode cL_law 1311 = .ok (.if_icmp .eq 5, 3) := by decide +kernel
theorem dL_law_1314 : decode cL_law 1314 = .ok (.iconst 0, 1) := by decide +kernel
theorem dL_law_1315 : decode cL_law 1315 = .ok (.ireturn, 1) := by decide +kernel
theorem dL_law_1316 : decode cL_law 1316 = .ok (.iload 5, 2) := by decide +kernel
theorem dL_law_1318 : decode cL_law 1318 = .ok (.ifCond .ne 15, 3) := by decide +kernel
theorem dL_law_1321 : decode cL_law 1321 = .ok (.aload_n 3, 1) := by decide +kernel
theorem dL_law_1322 : decode cL_law 1322 = .ok (.iconst 0, 1) := by decide +kernel
theorem dL_law_1323 : decode cL_law 1323 = .ok (.laload, 1) := by decide +kernel
theorem dL_law_1324 : decode cL_law 1324 = .ok (.iload 6, 2) := by decide +kernel
theorem dL_law_1326 : decode cL_law 1326 = .ok (.i2l, 1) := by decide +kernel
theorem dL_law_1327 : decode cL_law 1327 = .ok (.lcmp, 1) := by decide +kernel
theorem dL_law_1328 : decode cL_law 1328 = .ok (.ifCond .eq 5, 3) := by decide +kernel
theorem dL_law_1331 : decode cL_law 1331 = .ok (.iconst 0, 1) := by decide +kernel
theorem dL_law_1332 : decode cL_law 1332 = .ok (.ireturn, 1) := by decide +kernel
theorem dL_law_1333 : decode cL_law 1333 = .ok (.goto 212, 3) := by decide +kernel
theorem dL_law_1336 : decode cL_law 1336 = .ok (.aload_n 1, 1) := by decide +kernel
theorem dL_law_1337 : decode cL_law 1337 = .ok (.invokevirtual 138, 3) := by decide +kernel
theorem dL_law_1340 : decode cL_law 1340 = .ok (.aload_n 2, 1) := by decide +kernel
theorem dL_law_1341 : decode cL_law 1341 = .ok (.invokevirtual 141, 3) := by decide +kernel
theorem dL_law_1344 : decode cL_law 1344 = .ok (.if_icmp .eq 201, 3) := by decide +kernel
theorem dL_law_1347 : decode cL_law 1347 = .ok (.iconst 0, 1) := by decide +kernel
theorem dL_law_1348 : decode cL_law 1348 = .ok (.ireturn, 1) := by decide +kernel
theorem dL_law_1349 : decode cL_law 1349 = .ok (.aload_n 1, 1) := by decide +kernel
theorem dL_law_1350 : decode cL_law 1350 = .ok (.aload_n 0, 1) := by decide +kernel
theorem dL_law_1351 : decode cL_law 1351 = .ok (.iload 4, 2) := by decide +kernel
theorem dL_law_1353 : decode cL_law 1353 = .ok (.iconst 1, 1) := by decide +kernel
theorem dL_law_1354 : decode cL_law 1354 = .ok (.iadd, 1) := by decide +kernel
theorem dL_law_1355 : decode cL_law 1355 = .ok (.iaload, 1) := by decide +kernel
theorem dL_law_1356 : decode cL_law 1356 = .ok (.aload_n 0, 1) := by decide +kernel
theorem dL_law_1357 : decode cL_law 1357 = .ok (.iload 4, 2) := by decide +kernel
theorem dL_law_1359 : decode cL_law 1359 = .ok (.iconst 2, 1) := by decide +kernel
theorem dL_law_1360 : decode cL_law 1360 = .ok (.iadd, 1) := by decide +kernel
theorem dL_law_1361 : decode cL_law 1361 = .ok (.iaload, 1) := by decide +kernel
theorem dL_law_1362 : decode cL_law 1362 = .ok (.aload_n 0, 1) := by decide +kernel
theorem dL_law_1363 : decode cL_law 1363 = .ok (.iload 4, 2) := by decide +kernel
theorem dL_law_1365 : decode cL_law 1365 = .ok (.iconst 3, 1) := by decide +kernel
theorem dL_law_1366 : decode cL_law 1366 = .ok (.iadd, 1) := by decide +kernel
theorem dL_law_1367 : decode cL_law 1367 = .ok (.iaload, 1) := by decide +kernel
theorem dL_law_1368 : decode cL_law 1368 = .ok (.aload_n 0, 1) := by decide +kernel
theorem dL_law_1369 : decode cL_law 1369 = .ok (.iload 4, 2) := by decide +kernel
theorem dL_law_1371 : decode cL_law 1371 = .ok (.iconst 4, 1) := by decide +kernel
theorem dL_law_1372 : decode cL_law 1372 = .ok (.iadd, 1) := by decide +kernel
theorem dL_law_1373 : decode cL_law 1373 = .ok (.iaload, 1) := by decide +kernel
theorem dL_law_1374 : decode cL_law 1374 = .ok (.aload_n 3, 1) := by decide +kernel
theorem dL_law_1375 : decode cL_law 1375 = .ok (.invokestatic 142, 3) := by decide +kernel
theorem dL_law_1378 : decode cL_law 1378 = .ok (.istore 5, 2) := by decide +kernel
theorem dL_law_1380 : decode cL_law 1380 = .ok (.aload_n 2, 1) := by decide +kernel
theorem dL_law_1381 : decode cL_law 1381 = .ok (.aload_n 0, 1) := by decide +kernel
theorem dL_law_1382 : decode cL_law 1382 = .ok (.iload 4, 2) := by decide +kernel
theorem dL_law_1384 : decode cL_law 1384 = .ok (.iconst 1, 1) := by decide +kernel
theorem dL_law_1385 : decode cL_law 1385 = .ok (.iadd, 1) := by decide +kernel
theorem dL_law_1386 : decode cL_law 1386 = .ok (.iaload, 1) := by decide +kernel
theorem dL_law_1387 : decode cL_law 1387 = .ok (.aload_n 0, 1) := by decide +kernel
theorem dL_law_1388 : decode cL_law 1388 = .ok (.iload 4, 2) := by decide +kernel
theorem dL_law_1390 : decode cL_law 1390 = .ok (.iconst 2, 1) := by decide +kernel
theorem dL_law_1391 : decode cL_law 1391 = .ok (.iadd, 1) := by decide +kernel
theorem dL_law_1392 : decode cL_law 1392 = .ok (.iaload, 1) := by decide +kernel
theorem dL_law_1393 : decode cL_law 1393 = .ok (.aload_n 0, 1) := by decide +kernel
theorem dL_law_1394 : decode cL_law 1394 = .ok (.iload 4, 2) := by decide +kernel
theorem dL_law_1396 : decode cL_law 1396 = .ok (.iconst 3, 1) := by decide +kernel
theorem dL_law_1397 : decode cL_law 1397 = .ok (.iadd, 1) := by decide +kernel
theorem dL_law_1398 : decode cL_law 1398 = .ok (.iaload, 1) := by decide +kernel
theorem dL_law_1399 : decode cL_law 1399 = .ok (.aload_n 0, 1) := by decide +kernel
theorem dL_law_1400 : decode cL_law 1400 = .ok (.iload 4, 2) := by decide +kernel
theorem dL_law_1402 : decode cL_law 1402 = .ok (.iconst 4, 1) := by decide +kernel
theorem dL_law_1403 : decode cL_law 1403 = .ok (.iadd, 1) := by decide +kernel
theorem dL_law_1404 : decode cL_law 1404 = .ok (.iaload, 1) := by decide +kernel
theorem dL_law_1405 : decode cL_law 1405 = .ok (.invokevirtual 144, 3) := by decide +kernel
theorem dL_law_1408 : decode cL_law 1408 = .ok (.istore 6, 2) := by decide +kernel
theorem dL_law_1410 : decode cL_law 1410 = .ok (.aload_n 2, 1) := by decide +kernel
theorem dL_law_1411 : decode cL_law 1411 = .ok (.invokevirtual 83, 3) := by decide +kernel
theorem dL_law_1414 : decode cL_law 1414 = .ok (.iload 5, 2) := by decide +kernel
theorem dL_law_1416 : decode cL_law 1416 = .ok (.if_icmp .eq 5, 3) := by decide +kernel
theorem dL_law_1419 : decode cL_law 1419 = .ok (.iconst 0, 1) := by decide +kernel
theorem dL_law_1420 : decode cL_law 1420 = .ok (.ireturn, 1) := by decide +kernel
theorem dL_law_1421 : decode cL_law 1421 = .ok (.iload 5, 2) := by decide +kernel
theorem dL_law_1423 : decode cL_law 1423 = .ok (.ifCond .ne 15, 3) := by decide +kernel
theorem dL_law_1426 : decode cL_law 1426 = .ok (.aload_n 3, 1) := by decide +kernel
theorem dL_law_1427 : decode cL_law 1427 = .ok (.iconst 0, 1) := by decide +kernel
theorem dL_law_1428 : decode cL_law 1428 = .ok (.laload, 1) := by decide +kernel
theorem dL_law_1429 : decode cL_law 1429 = .ok (.iload 6, 2) := by decide +kernel
theorem dL_law_1431 : decode cL_law 1431 = .ok (.i2l, 1) := by decide +kernel
theorem dL_law_1432 : decode cL_law 1432 = .ok (.lcmp, 1) := by decide +kernel
theorem dL_law_1433 : decode cL_law 1433 = .ok (.ifCond .eq 5, 3) := by decide +kernel
theorem dL_law_1436 : decode cL_law 1436 = .ok (.iconst 0, 1) := by decide +kernel
theorem dL_law_1437 : decode cL_law 1437 = .ok (.ireturn, 1) := by decide +kernel
theorem dL_law_1438 : decode cL_law 1438 = .ok (.goto 107, 3) := by decide +kernel
theorem dL_law_1441 : decode cL_law 1441 = .ok (.aload_n 1, 1) := by decide +kernel
theorem dL_law_1442 : decode cL_law 1442 = .ok (.aload_n 0, 1) := by decide +kernel
theorem dL_law_1443 : decode cL_law 1443 = .ok (.iload 4, 2) := by decide +kernel
theorem dL_law_1445 : decode cL_law 1445 = .ok (.iconst 1, 1) := by decide +kernel
theorem dL_law_1446 : decode cL_law 1446 = .ok (.iadd, 1) := by decide +kernel
theorem dL_law_1447 : decode cL_law 1447 = .ok (.iaload, 1) := by decide +kernel
theorem dL_law_1448 : decode cL_law 1448 = .ok (.aload_n 0, 1) := by decide +kernel
theorem dL_law_1449 : decode cL_law 1449 = .ok (.iload 4, 2) := by decide +kernel
theorem dL_law_1451 : decode cL_law 1451 = .ok (.iconst 2, 1) := by decide +kernel
theorem dL_law_1452 : decode cL_law 1452 = .ok (.iadd, 1) := by decide +kernel
theorem dL_law_1453 : decode cL_law 1453 = .ok (.iaload, 1) := by decide +kernel
theorem dL_law_1454 : decode cL_law 1454 = .ok (.aload_n 0, 1) := by decide +kernel
theorem dL_law_1455 : decode cL_law 1455 = .ok (.iload 4, 2) := by decide +kernel
theorem dL_law_1457 : decode cL_law 1457 = .ok (.iconst 3, 1) := by decide +kernel
theorem dL_law_1458 : decode cL_law 1458 = .ok (.iadd, 1) := by decide +kernel
theorem dL_law_1459 : decode cL_law 1459 = .ok (.iaload, 1) := by decide +kernel
theorem dL_law_1460 : decode cL_law 1460 = .ok (.aload_n 0, 1) := by decide +kernel
theorem dL_law_1461 : decode cL_law 1461 = .ok (.iload 4, 2) := by decide +kernel
theorem dL_law_1463 : decode cL_law 1463 = .ok (.iconst 4, 1) := by decide +kernel
theorem dL_law_1464 : decode cL_law 1464 = .ok (.iadd, 1) := by decide +kernel
theorem dL_law_1465 : decode cL_law 1465 = .ok (.iaload, 1) := by decide +kernel
theorem dL_law_1466 : decode cL_law 1466 = .ok (.aload_n 0, 1) := by decide +kernel
theorem dL_law_1467 : decode cL_law 1467 = .ok (.iload 4, 2) := by decide +kernel
theorem dL_law_1469 : decode cL_law 1469 = .ok (.iconst 5, 1) := by decide +kernel
theorem dL_law_1470 : decode cL_law 1470 = .ok (.iadd, 1) := by decide +kernel
theorem dL_law_1471 : decode cL_law 1471 = .ok (.iaload, 1) := by decide +kernel
theorem dL_law_1472 : decode cL_law 1472 = .ok (.aload_n 3, 1) := by decide +kernel
theorem dL_law_1473 : decode cL_law 1473 = .ok (.invokestatic 145, 3) := by decide +kernel
theorem dL_law_1476 : decode cL_law 1476 = .ok (.istore 5, 2) := by decide +kernel
theorem dL_law_1478 : decode cL_law 1478 = .ok (.aload_n 2, 1) := by decide +kernel
theorem dL_law_1479 : decode cL_law 1479 = .ok (.aload_n 0, 1) := by decide +kernel
theorem dL_law_1480 : decode cL_law 1480 = .ok (.iload 4, 2) := by decide +kernel
theorem dL_law_1482 : decode cL_law 1482 = .ok (.iconst 1, 1) := by decide +kernel
theorem dL_law_1483 : decode cL_law 1483 = .ok (.iadd, 1) := by decide +kernel
theorem dL_law_1484 : decode cL_law 1484 = .ok (.iaload, 1) := by decide +kernel
theorem dL_law_1485 : decode cL_law 1485 = .ok (.aload_n 0, 1) := by decide +kernel
theorem dL_law_1486 : decode cL_law 1486 = .ok (.iload 4, 2) := by decide +kernel
theorem dL_law_1488 : decode cL_law 1488 = .ok (.iconst 2, 1) := by decide +kernel
theorem dL_law_1489 : decode cL_law 1489 = .ok (.iadd, 1) := by decide +kernel
theorem dL_law_1490 : decode cL_law 1490 = .ok (.iaload, 1) := by decide +kernel
theorem dL_law_1491 : decode cL_law 1491 = .ok (.aload_n 0, 1) := by decide +kernel
theorem dL_law_1492 : decode cL_law 1492 = .ok (.iload 4, 2) := by decide +kernel
theorem dL_law_1494 : decode cL_law 1494 = .ok (.iconst 3, 1) := by decide +kernel
theorem dL_law_1495 : decode cL_law 1495 = .ok (.iadd, 1) := by decide +kernel
theorem dL_law_1496 : decode cL_law 1496 = .ok (.iaload, 1) := by decide +kernel
theorem dL_law_1497 : decode cL_law 1497 = .ok (.aload_n 0, 1) := by decide +kernel
theorem dL_law_1498 : decode cL_law 1498 = .ok (.iload 4, 2) := by decide +kernel
theorem dL_law_1500 : decode cL_law 1500 = .ok (.iconst 4, 1) := by decide +kernel
theorem dL_law_1501 : decode cL_law 1501 = .ok (.iadd, 1) := by decide +kernel
theorem dL_law_1502 : decode cL_law 1502 = .ok (.iaload, 1) := by decide +kernel
theorem dL_law_1503 : decode cL_law 1503 = .ok (.aload_n 0, 1) := by decide +kernel
theorem dL_law_1504 : decode cL_law 1504 = .ok (.iload 4, 2) := by decide +kernel
theorem dL_law_1506 : decode cL_law 1506 = .ok (.iconst 5, 1) := by decide +kernel
theorem dL_law_1507 : decode cL_law 1507 = .ok (.iadd, 1) := by decide +kernel
theorem dL_law_1508 : decode cL_law 1508 = .ok (.iaload, 1) := by decide +kernel
theorem dL_law_1509 : decode cL_law 1509 = .ok (.invokevirtual 147, 3) := by decide +kernel
theorem dL_law_1512 : decode cL_law 1512 = .ok (.istore 6, 2) := by decide +kernel
theorem dL_law_1514 : decode cL_law 1514 = .ok (.aload_n 2, 1) := by decide +kernel
theorem dL_law_1515 : decode cL_law 1515 = .ok (.invokevirtual 83, 3) := by decide +kernel
theorem dL_law_1518 : decode cL_law 1518 = .ok (.iload 5, 2) := by decide +kernel
theorem dL_law_1520 : decode cL_law 1520 = .ok (.if_icmp .eq 5, 3) := by decide +kernel
theorem dL_law_1523 : decode cL_law 1523 = .ok (.iconst 0, 1) := by decide +kernel
theorem dL_law_1524 : decode cL_law 1524 = .ok (.ireturn, 1) := by decide +kernel
theorem dL_law_1525 : decode cL_law 1525 = .ok (.iload 5, 2) := by decide +kernel
theorem dL_law_1527 : decode cL_law 1527 = .ok (.ifCond .ne 15, 3) := by decide +kernel
theorem dL_law_1530 : decode cL_law 1530 = .ok (.aload_n 3, 1) := by decide +kernel
theorem dL_law_1531 : decode cL_law 1531 = .ok (.iconst 0, 1) := by decide +kernel
theorem dL_law_1532 : decode cL_law 1532 = .ok (.laload, 1) := by decide +kernel
theorem dL_law_1533 : decode cL_law 1533 = .ok (.iload 6, 2) := by decide +kernel
theorem dL_law_1535 : decode cL_law 1535 = .ok (.i2l, 1) := by decide +kernel
theorem dL_law_1536 : decode cL_law 1536 = .ok (.lcmp, 1) := by decide +kernel
theorem dL_law_1537 : decode cL_law 1537 = .ok (.ifCond .eq 5, 3) := by decide +kernel
theorem dL_law_1540 : decode cL_law 1540 = .ok (.iconst 0, 1) := by decide +kernel
theorem dL_law_1541 : decode cL_law 1541 = .ok (.ireturn, 1) := by decide +kernel
theorem dL_law_1542 : decode cL_law 1542 = .ok (.goto 3, 3) := by decide +kernel
theorem dL_law_1545 : decode cL_law 1545 = .ok (.iinc 4 6, 3) := by decide +kernel
theorem dL_law_1548 : decode cL_law 1548 = .ok (.goto (-1525), 3) := by decide +kernel
theorem dL_law_1551 : decode cL_law 1551 = .ok (.iconst 1, 1) := by decide +kernel
theorem dL_law_1552 : decode cL_law 1552 = .ok (.ireturn, 1) := by decide +kernel
abbrev vwCl : List vw_C := [(RJx4a65c, TJx4a65c, 3), (RX0, TX0, 3), (RX1, TX1, 3), (RX2, TX2, 10), (RX3, TX3, 21)]
end
section
/-! OUR BASE: what every method may lean on (ENV), contracts over a heap (m_Pc, m_B), rows over naturals (nI) -/
abbrev m_K : Type := va_G × (Nat → ClassId) × (Nat → Nat)
/-- the array classes: ints, booleans, Forms, Objects, longs -/
def m_ty (K : m_K) : List (ClassId × FieldType) := [(K.2.1 0, .int), (K.2.1 1, .boolean), (K.2.1 2, .object "PhraseCatalogue$Form"), (K.2.1 3, .object "java/lang/Object"), (K.2.1 4, .long)]
def m_txt : List (Nat × String) := [(60, "the source falls back on no language"), (71, "the chain would go round"), (84, "there is no such sign"), (88, "the draft is full"), (95, "the draft is empty"), (116, "the form is not there"), (153, "nothing is told"), (155, "the form has no sign at this place"), (175, "there is no place below 0"), (180, "there is no such key"), (182, "there is no such language"), (184, "there is no such gender"), (186, "there is no such number class"), (191, "a number is not below 0"), (193, "ones and few are 0 to 100")]
def m_ini (X : String) : MethodName := ⟨X, "<init>", "(Ljava/lang/String;)V"⟩
def m_gc : MethodName := ⟨"java/lang/Object", "getClass", "()Ljava/lang/Class;"⟩
def m_IO : String := "java/lang/IndexOutOfBoundsException"
def m_IA : String := "java/lang/IllegalArgumentException"
def m_IS : String := "java/lang/IllegalStateException"
def m_RT : List String := ["java/lang/RuntimeException", "java/lang/Exception"]
def m_dec : List MethodName := [m_ini "java/lang/RuntimeException", m_ini "java/lang/Exception", m_ini "java/lang/Throwable", m_gc]
def m_cas : List (String × String) := [(m_IO, m_IO), (m_IA, m_IA), (m_IS, m_IS), ("[I", "java/lang/Cloneable"), ("PhraseCatalogue$Pair", "java/lang/Object")]
def m_nca : List (String × String) := [(m_IA, m_IO), (m_IS, m_IO), (m_IS, m_IA)]
/-- what a state gives to every method of ours, whatever cells of A have changed -/
def ENV (K : m_K) (A : Nat → Prop) (U : State) : Prop :=
  va_K K.1 vwCl (m_ty K) U ∧ vx_Zq Bundle.tN "UNASSIGNED_STACK" Bundle.steD A U U.heap ∧ vx_Zq Bundle.tN "SUPPRESSED_SENTINEL" Bundle.listD A U U.heap ∧
  (∀ q ∈ m_txt, ∃ sa, vk_R RX2 q.1 q.2 sa U) ∧ (∀ x ∈ m_dec, va_Nw (.declares x) U) ∧ (∀ q ∈ m_cas, va_Nw (.castable q.1 q.2) U) ∧ (∀ q ∈ m_nca, va_Nc q.1 q.2 U) ∧
  va_Z "java/util/ArrayList" "DEFAULTCAPACITY_EMPTY_ELEMENTDATA" "[Ljava/lang/Object;" (.ref (K.2.2 0)) A U U.heap ∧ va_T (.object "java/lang/Object") (K.2.2 0) 0 (fun _ => .null) A U U.heap ∧
  va_Mi "[Ljava/lang/Object;" (K.2.2 1) U ∧ va_AO "java/lang/Object" U ∧ va_AO "PhraseCatalogue$Form" U
theorem ENV.k {K : m_K} {A : Nat → Prop} {U : State} (h : ENV K A U) : va_K K.1 vwCl (m_ty K) U := h.1
theorem ENV.to {K : m_K} {A : Nat → Prop} {s U : State} (h : ENV K A s) (ha : s.vm.Alike U.vm) (hq : ∀ a : Nat, a < s.heap.size → ¬ A a → U.heap[a]? = s.heap[a]?)
    (h4 : ∀ q ∈ m_txt, ∃ sa, vk_R RX2 q.1 q.2 sa U) (h5 : ∀ x ∈ m_dec, va_Nw (.declares x) U) (h6 : ∀ q ∈ m_cas, va_Nw (.castable q.1 q.2) U) : ENV K A U := by
  obtain ⟨a1, a2, a3, a4, a5, a6, a7, a8, a9, b1, b2, b3⟩ := h
  exact ⟨a1.moved ha, vx_Zq.moved ha (a2.kept hq), vx_Zq.moved ha (a3.kept hq), h4, h5, h6, fun q h => va_Nc.moved ha (a7 q h), va_Z.moved ha (a8.kept hq), va_T.moved ha (a9.kept hq), va_Mi.moved ha b1, va_AO.moved ha b2, va_AO.moved ha b3⟩
theorem ENV.warm {K : m_K} {A : Nat → Prop} {s U : State} {H : Heap} {locs : List Loc} (h : ENV K A s) (hS : va_S A s.heap H locs) (hU : U.heap = H) (hW : s.WarmedH U.vm) : ENV K A U :=
  h.to hW.alike (fun a h1 h2 => by rw [hU]; exact hS.2.1 a h1 h2) (fun q hq => by obtain ⟨sa, k⟩ := h.2.2.2.1 q hq; exact ⟨sa, vk_R.warm hW k⟩) (fun x hx => va_Nw.warmD hW (h.2.2.2.2.1 x hx)) (fun q hq => va_Nw.warmC hW (h.2.2.2.2.2.1 q hq))
theorem ENV.calling {K : m_K} {A : Nat → Prop} {U : State} {g : JFrame} {mk : MethodId} {a : Array Value} (h : ENV K A U) : ENV K A (U.calling g mk a) :=
  h.to (Vm.Alike.refl U.vm) (fun _ _ _ => rfl) (fun q hq => by obtain ⟨sa, k⟩ := h.2.2.2.1 q hq; exact ⟨sa, vk_R.same rfl k⟩) (fun x hx => va_Nw.same rfl rfl (h.2.2.2.2.1 x hx)) (fun q hq => va_Nw.same rfl rfl (h.2.2.2.2.2.1 q hq))
theorem ENV.narrow {K : m_K} {A B : Nat → Prop} {U : State} (h : ENV K A U) (hAB : ∀ q, B q → A q) : ENV K B U := by
  obtain ⟨a1, a2, a3, a4, a5, a6, a7, a8, a9, b1, b2, b3⟩ := h
  exact ⟨a1, a2.narrow hAB, a3.narrow hAB, a4, a5, a6, a7, a8.narrow hAB, a9.narrow hAB, b1, b2, b3⟩
/-- a contract's start: the arguments, the heap, the environment; its end: the new heap -/
def m_Pc (K : m_K) (A : Nat → Prop) (H0 : Heap) (av : List Value) : Array Value → State → Prop := va_Pc av (fun U => U.heap = H0 ∧ ENV K A U)
def m_B : Heap → State → Prop := fun H1 t => t.heap = H1
theorem m_blind {K : m_K} {A : Nat → Prop} {H0 : Heap} {av : List Value} : FrameBlind (m_Pc K A H0 av) := fun _ _ _ _ q => ⟨q.1, q.2.1, q.2.2.calling⟩
/-- a throw: nothing that was there has changed -/
def m_same (H0 H1 : Heap) : Prop := H0.size ≤ H1.size ∧ ∀ q : Nat, q < H0.size → H1[q]? = H0[q]?
theorem m_same.rf {H : Heap} : m_same H H := ⟨Nat.le_refl _, fun _ _ => rfl⟩
theorem m_same.trans {H0 H1 H2 : Heap} (h : m_same H0 H1) (k : m_same H1 H2) : m_same H0 H2 := ⟨Nat.le_trans h.1 k.1, fun q hq => (k.2 q (Nat.lt_of_lt_of_le hq h.1)).trans (h.2 q hq)⟩
theorem m_same.P {D : va_G} {cl : List vw_C} {ws : va_W} {H0 H1 : Heap} (h : m_same H0 H1) (hP : va_P D cl ws H0) : va_P D cl ws H1 := hP.kept (fun k q hk => h.2 _ ((hP k q hk).lt))
def m_X (pE : String → Prop) (H0 : Heap) (A : Nat → Prop) : String → State → State → Prop := vx_X (S := Heap) (fun H1 => m_same H0 H1) (fun E H1 t => t.heap = H1 ∧ pE E) A
def bI (b : Bool) : Int32 := if b then 1 else 0
def oI (r : Option Nat) : Int32 := match r with
  | none => -1
  | some k => nI k
theorem m_ofW {l : Launch} {y : MethodName} {ws ws' : List Cond} {rm : Room} {K : m_K} {A : Nat → Prop} {H0 : Heap} {av : List Value} {Qc : Array Value → State → Outcome → State → Prop} {mc ms : Nat} {cc : ByteArray} {maxL : Nat} {ret : Option FieldType} (hy : plainName y.cls = true) (hw : ws = Cond.code y cc maxL ret :: ws') (hlen : (lg_sl av).length ≤ maxL)
    (body : ∀ (p : Program) (e : Env) (s : State) (m : MethodId) (args : Array Value) (below : List Frame) (meth : Method) (c : Code) (ls : Array Slot), p.tables.exec = Jvm.exec → c.code = cc → meth.sig.returnType = ret → c.maxLocals = maxL → s.vm.findClass y.cls = some m.cls → (∀ w ∈ ws, w.before args s = true) → meth.locks = false → meth.name = y.name → ENV K A s → va_S A s.heap H0 [] → lv_has ls maxL (lv_args 0 av) → W p l e rm s m args below meth c H0 [] 0 0 (MQ below Qc args s mc ms A) (F0 m 0 ls [])) : Met l y ws rm (m_Pc K A H0 av) Qc mc ms A := by
  refine Met.ofW hy hw ?_
  intro p e s m args below meth c s₁ B hml hv
  obtain ⟨hargs, hh, hE⟩ := hv
  have hl := lv_entry av hlen
  have he : entryFrame m args maxL = F0 m 0 ((lg_sl av ++ List.replicate (maxL - (lg_sl av).length) Slot.unset).toArray) [] := by rw [hargs, lg_entry_eq]
  rw [he]
  have hS : va_S A s.heap H0 [] := by rw [← hh]; exact va_S.rf
  have k := body p e s m args below meth c _ B.exec B.bytes B.returns hml (findClass_of_methodNamed B.named) (atoms_spec (ws := ws) B.pre) B.notSynchronized (name_of_methodNamed B.named B.method).1 hE hS hl
  rw [hh]
  exact k
theorem m_ofX {l : Launch} {y : MethodName} {ws ws' : List Cond} {rm : Room} {K : m_K} {A : Nat → Prop} {H0 : Heap} {av : List Value} {Qc : Array Value → State → Outcome → State → Prop} {XC : String → State → State → Prop} {mc ms : Nat} {cc : ByteArray} {maxL : Nat} {ret : Option FieldType} (hy : plainName y.cls = true) (hw : ws = Cond.code y cc maxL ret :: ws') (hlen : (lg_sl av).length ≤ maxL)
    (body : ∀ (p : Program) (e : Env) (s : State) (m : MethodId) (args : Array Value) (below : List Frame) (meth : Method) (c : Code) (ls : Array Slot), p.tables.exec = Jvm.exec → c.code = cc → meth.sig.returnType = ret → c.maxLocals = maxL → s.vm.findClass y.cls = some m.cls → (∀ w ∈ ws, w.before args s = true) → meth.locks = false → meth.name = y.name → (∀ x ∈ c.exceptionTable.toList, False) → ENV K A s → va_S A s.heap H0 [] → lv_has ls maxL (lv_args 0 av) → W p l e rm s m args below meth c H0 [] 0 0 (vx_MQ below Qc XC args s mc ms A) (F0 m 0 ls [])) : vx_Met l y ws rm (m_Pc K A H0 av) Qc XC mc ms A := by
  refine vx_ofW hy hw ?_
  intro p e s m args below meth c s₁ B hml ht hv
  obtain ⟨hargs, hh, hE⟩ := hv
  have hl := lv_entry av hlen
  have he : entryFrame m args maxL = F0 m 0 ((lg_sl av ++ List.replicate (maxL - (lg_sl av).length) Slot.unset).toArray) [] := by rw [hargs, lg_entry_eq]
  rw [he]
  have hS : va_S A s.heap H0 [] := by rw [← hh]; exact va_S.rf
  have k := body p e s m args below meth c _ B.exec B.bytes B.returns hml (findClass_of_methodNamed B.named) (atoms_spec (ws := ws) B.pre) B.notSynchronized (name_of_methodNamed B.named B.method).1 ht hE hS hl
  rw [hh]
  exact k
/-- a body with handlers that throws nothing itself -/
theorem m_ofH {l : Launch} {y : MethodName} {ws ws' : List Cond} {rm : Room} {K : m_K} {A : Nat → Prop} {H0 : Heap} {av : List Value} {Qc : Array Value → State → Outcome → State → Prop} {mc ms : Nat} {cc : ByteArray} {maxL : Nat} {ret : Option FieldType} {hh : List (Nat × Nat × Nat × Nat)} (hy : plainName y.cls = true) (hw : ws = Cond.codeWith y cc maxL ret hh :: ws') (hlen : (lg_sl av).length ≤ maxL)
    (body : ∀ (p : Program) (e : Env) (s : State) (m : MethodId) (args : Array Value) (below : List Frame) (meth : Method) (c : Code) (ls : Array Slot), p.tables.exec = Jvm.exec → c.code = cc → meth.sig.returnType = ret → c.maxLocals = maxL → s.vm.findClass y.cls = some m.cls → (∀ w ∈ ws, w.before args s = true) → meth.locks = false → c.exceptionTable.toList = tableOf hh → ENV K A s → va_S A s.heap H0 [] → lv_has ls maxL (lv_args 0 av) → W p l e rm s m args below meth c H0 [] 0 0 (MQ below Qc args s mc ms A) (F0 m 0 ls [])) : Met l y ws rm (m_Pc K A H0 av) Qc mc ms A := by
  refine va_MetW hy hw ?_
  intro p e s m args below meth c s₁ B hml hv
  obtain ⟨hargs, hhp, hE⟩ := hv
  have hl := lv_entry av hlen
  have he : entryFrame m args maxL = F0 m 0 ((lg_sl av ++ List.replicate (maxL - (lg_sl av).length) Slot.unset).toArray) [] := by rw [hargs, lg_entry_eq]
  rw [he]
  have hS : va_S A s.heap H0 [] := by rw [← hhp]; exact va_S.rf
  have ht := atoms_spec (ws := ws) B.pre
  have k := body p e s m args below meth c _ B.exec B.bytes B.returns hml (findClass_of_methodNamed B.named) ht B.notSynchronized (vx_table (x := y) B (ht _ (by rw [hw]; exact List.mem_cons_self))) hE hS hl
  rw [hhp]
  exact k
theorem m_inc (a : Nat) : nI a + Int32.ofInt 1 = nI (a + 1) := nI_1 a
theorem m_lt (n : Nat) : n < 2147483648 → n < 2 ^ 31 := id
section MB
variable {p : Program} {l : Launch} {e : Env} {R : Room} {s : State} {m : MethodId} {args : Array Value} {below : List Frame} {meth : Method} {c : Code} {H : Heap} {locs : List Loc} {cells slots : Nat} {Q : State → Prop}
variable {cc : ByteArray} {pc : Nat} {ls : Array Slot} {rest : List Value} {K : m_K} {A : Nat → Prop} {ws : va_W} {H0 : Heap}
theorem m_iadd (hx : p.tables.exec = Jvm.exec) (hb : c.code = cc) {a b : Nat} (d : decode cc pc = .ok (.iadd, 1)) (k : W p l e R s m args below meth c H locs cells slots Q (F0 m (pc + 1) ls (.int (nI (a + b)) :: rest))) : W p l e R s m args below meth c H locs cells slots Q (F0 m pc ls (.int (nI b) :: .int (nI a) :: rest)) := lv_iadd hx hb d (by rw [nI_add]; exact k)
theorem m_imul (hx : p.tables.exec = Jvm.exec) (hb : c.code = cc) {a b : Nat} (d : decode cc pc = .ok (.imul, 1)) (k : W p l e R s m args below meth c H locs cells slots Q (F0 m (pc + 1) ls (.int (nI (a * b)) :: rest))) : W p l e R s m args below meth c H locs cells slots Q (F0 m pc ls (.int (nI b) :: .int (nI a) :: rest)) := lv_imul hx hb d (by rw [pk_mul]; exact k)
theorem m_isub (hx : p.tables.exec = Jvm.exec) (hb : c.code = cc) {a b : Nat} (h : b ≤ a) (d : decode cc pc = .ok (.isub, 1)) (k : W p l e R s m args below meth c H locs cells slots Q (F0 m (pc + 1) ls (.int (nI (a - b)) :: rest))) : W p l e R s m args below meth c H locs cells slots Q (F0 m pc ls (.int (nI b) :: .int (nI a) :: rest)) := lv_isub hx hb d (by rw [pk_sub h]; exact k)
theorem m_idiv (hx : p.tables.exec = Jvm.exec) (hb : c.code = cc) {a b : Nat} (ha : a < 2147483648) (h0 : 0 < b) (h2 : b < 2147483648) (d : decode cc pc = .ok (.idiv, 1)) (k : W p l e R s m args below meth c H locs cells slots Q (F0 m (pc + 1) ls (.int (nI (a / b)) :: rest))) : W p l e R s m args below meth c H locs cells slots Q (F0 m pc ls (.int (nI b) :: .int (nI a) :: rest)) := lv_idiv hx hb d (nI_ne0 h0 h2) (by rw [pk_div ha h0 h2]; exact k)
theorem m_irem (hx : p.tables.exec = Jvm.exec) (hb : c.code = cc) {a b : Nat} (ha : a < 2147483648) (h0 : 0 < b) (h2 : b < 2147483648) (d : decode cc pc = .ok (.irem, 1)) (k : W p l e R s m args below meth c H locs cells slots Q (F0 m (pc + 1) ls (.int (nI (a % b)) :: rest))) : W p l e R s m args below meth c H locs cells slots Q (F0 m pc ls (.int (nI b) :: .int (nI a) :: rest)) := lv_irem hx hb d (nI_ne0 h0 h2) (by rw [pk_rem ha h0 h2]; exact k)
theorem m_icmp_lt (hx : p.tables.exec = Jvm.exec) (hb : c.code = cc) {a b : Nat} (ha : a < 2147483648) (h2 : b < 2147483648) {off : Int} {tgt : Nat} (d : decode cc pc = .ok (.if_icmp .lt off, 3)) (ht : (pc : Int) + off = (tgt : Int)) (kt : a < b → W p l e R s m args below meth c H locs cells slots Q (F0 m tgt ls (rest))) (kf : ¬ a < b → W p l e R s m args below meth c H locs cells slots Q (F0 m (pc + 3) ls (rest))) : W p l e R s m args below meth c H locs cells slots Q (F0 m pc ls (.int (nI b) :: .int (nI a) :: rest)) := lv_icmp_lt hx hb d ht (fun z => kt ((nI_ltI ha h2).mp z)) (fun z => kf (fun q => z ((nI_ltI ha h2).mpr q)))
theorem m_icmp_ge (hx : p.tables.exec = Jvm.exec) (hb : c.code = cc) {a b : Nat} (ha : a < 2147483648) (h2 : b < 2147483648) {off : Int} {tgt : Nat} (d : decode cc pc = .ok (.if_icmp .ge off, 3)) (ht : (pc : Int) + off = (tgt : Int)) (kt : b ≤ a → W p l e R s m args below meth c H locs cells slots Q (F0 m tgt ls (rest))) (kf : ¬ b ≤ a → W p l e R s m args below meth c H locs cells slots Q (F0 m (pc + 3) ls (rest))) : W p l e R s m args below meth c H locs cells slots Q (F0 m pc ls (.int (nI b) :: .int (nI a) :: rest)) := lv_icmp_ge hx hb d ht (fun z => kt ((nI_leI h2 ha).mp z)) (fun z => kf (fun q => z ((nI_leI h2 ha).mpr q)))
theorem m_icmp_gt (hx : p.tables.exec = Jvm.exec) (hb : c.code = cc) {a b : Nat} (ha : a < 2147483648) (h2 : b < 2147483648) {off : Int} {tgt : Nat} (d : decode cc pc = .ok (.if_icmp .gt off, 3)) (ht : (pc : Int) + off = (tgt : Int)) (kt : b < a → W p l e R s m args below meth c H locs cells slots Q (F0 m tgt ls (rest))) (kf : ¬ b < a → W p l e R s m args below meth c H locs cells slots Q (F0 m (pc + 3) ls (rest))) : W p l e R s m args below meth c H locs cells slots Q (F0 m pc ls (.int (nI b) :: .int (nI a) :: rest)) := lv_icmp_gt hx hb d ht (fun z => kt ((nI_ltI h2 ha).mp z)) (fun z => kf (fun q => z ((nI_ltI h2 ha).mpr q)))
theorem m_icmp_le (hx : p.tables.exec = Jvm.exec) (hb : c.code = cc) {a b : Nat} (ha : a < 2147483648) (h2 : b < 2147483648) {off : Int} {tgt : Nat} (d : decode cc pc = .ok (.if_icmp .le off, 3)) (ht : (pc : Int) + off = (tgt : Int)) (kt : a ≤ b → W p l e R s m args below meth c H locs cells slots Q (F0 m tgt ls (rest))) (kf : ¬ a ≤ b → W p l e R s m args below meth c H locs cells slots Q (F0 m (pc + 3) ls (rest))) : W p l e R s m args below meth c H locs cells slots Q (F0 m pc ls (.int (nI b) :: .int (nI a) :: rest)) := lv_icmp_le hx hb d ht (fun z => kt ((nI_leI ha h2).mp z)) (fun z => kf (fun q => z ((nI_leI ha h2).mpr q)))
theorem m_icmp_eq (hx : p.tables.exec = Jvm.exec) (hb : c.code = cc) {a b : Nat} (ha : a < 2147483648) (h2 : b < 2147483648) {off : Int} {tgt : Nat} (d : decode cc pc = .ok (.if_icmp .eq off, 3)) (ht : (pc : Int) + off = (tgt : Int)) (kt : a = b → W p l e R s m args below meth c H locs cells slots Q (F0 m tgt ls (rest))) (kf : ¬ a = b → W p l e R s m args below meth c H locs cells slots Q (F0 m (pc + 3) ls (rest))) : W p l e R s m args below meth c H locs cells slots Q (F0 m pc ls (.int (nI b) :: .int (nI a) :: rest)) := lv_icmp_eq hx hb d ht (fun z => kt ((nI_eq ha h2).mp z)) (fun z => kf (fun q => z ((nI_eq ha h2).mpr q)))
theorem m_icmp_ne (hx : p.tables.exec = Jvm.exec) (hb : c.code = cc) {a b : Nat} (ha : a < 2147483648) (h2 : b < 2147483648) {off : Int} {tgt : Nat} (d : decode cc pc = .ok (.if_icmp .ne off, 3)) (ht : (pc : Int) + off = (tgt : Int)) (kt : ¬ a = b → W p l e R s m args below meth c H locs cells slots Q (F0 m tgt ls (rest))) (kf : a = b → W p l e R s m args below meth c H locs cells slots Q (F0 m (pc + 3) ls (rest))) : W p l e R s m args below meth c H locs cells slots Q (F0 m pc ls (.int (nI b) :: .int (nI a) :: rest)) := lv_icmp_ne hx hb d ht (fun z => kt (fun q => z ((nI_eq ha h2).mpr q))) (fun z => kf ((nI_eq ha h2).mp z))
theorem m_z (a : Nat) : nI 0 = (0 : Int32) := nI_0
theorem m_if_eq (hx : p.tables.exec = Jvm.exec) (hb : c.code = cc) {a : Nat} (ha : a < 2147483648) {off : Int} {tgt : Nat} (d : decode cc pc = .ok (.ifCond .eq off, 3)) (ht : (pc : Int) + off = (tgt : Int)) (kt : a = 0 → W p l e R s m args below meth c H locs cells slots Q (F0 m tgt ls (rest))) (kf : ¬ a = 0 → W p l e R s m args below meth c H locs cells slots Q (F0 m (pc + 3) ls (rest))) : W p l e R s m args below meth c H locs cells slots Q (F0 m pc ls (.int (nI a) :: rest)) := by
  refine lv_if_eq hx hb d ht (fun z => kt ?_) (fun z => kf (fun q => z ?_))
  · rw [← nI_0] at z; exact (nI_eq ha (by decide)).mp z
  · rw [← nI_0]; exact (nI_eq ha (by decide)).mpr q
theorem m_if_gt (hx : p.tables.exec = Jvm.exec) (hb : c.code = cc) {a : Nat} (ha : a < 2147483648) {off : Int} {tgt : Nat} (d : decode cc pc = .ok (.ifCond .gt off, 3)) (ht : (pc : Int) + off = (tgt : Int)) (kt : 0 < a → W p l e R s m args below meth c H locs cells slots Q (F0 m tgt ls (rest))) (kf : ¬ 0 < a → W p l e R s m args below meth c H locs cells slots Q (F0 m (pc + 3) ls (rest))) : W p l e R s m args below meth c H locs cells slots Q (F0 m pc ls (.int (nI a) :: rest)) := by
  refine lv_if_gt hx hb d ht (fun z => kt ?_) (fun z => kf (fun q => z ?_))
  · rw [← nI_0] at z; exact (nI_ltI (by decide) ha).mp z
  · rw [← nI_0]; exact (nI_ltI (by decide) ha).mpr q
theorem m_if_le (hx : p.tables.exec = Jvm.exec) (hb : c.code = cc) {a : Nat} (ha : a < 2147483648) {off : Int} {tgt : Nat} (d : decode cc pc = .ok (.ifCond .le off, 3)) (ht : (pc : Int) + off = (tgt : Int)) (kt : a ≤ 0 → W p l e R s m args below meth c H locs cells slots Q (F0 m tgt ls (rest))) (kf : ¬ a ≤ 0 → W p l e R s m args below meth c H locs cells slots Q (F0 m (pc + 3) ls (rest))) : W p l e R s m args below meth c H locs cells slots Q (F0 m pc ls (.int (nI a) :: rest)) := by
  refine lv_if_le hx hb d ht (fun z => kt ?_) (fun z => kf (fun q => z ?_))
  · rw [← nI_0] at z; exact (nI_leI ha (by decide)).mp z
  · rw [← nI_0]; exact (nI_leI ha (by decide)).mpr q
theorem m_if_ne (hx : p.tables.exec = Jvm.exec) (hb : c.code = cc) {a : Nat} (ha : a < 2147483648) {off : Int} {tgt : Nat} (d : decode cc pc = .ok (.ifCond .ne off, 3)) (ht : (pc : Int) + off = (tgt : Int)) (kt : ¬ a = 0 → W p l e R s m args below meth c H locs cells slots Q (F0 m tgt ls (rest))) (kf : a = 0 → W p l e R s m args below meth c H locs cells slots Q (F0 m (pc + 3) ls (rest))) : W p l e R s m args below meth c H locs cells slots Q (F0 m pc ls (.int (nI a) :: rest)) := lv_if_ne hx hb d ht (fun z => kt (fun q => z (by rw [q]; exact nI_0))) (fun z => kf ((nI_eq ha (by decide)).mp (z.trans nI_0.symm)))
theorem m_if_lt (hx : p.tables.exec = Jvm.exec) (hb : c.code = cc) {a : Nat} (ha : a < 2147483648) {off : Int} {tgt : Nat} (d : decode cc pc = .ok (.ifCond .lt off, 3)) (ht : (pc : Int) + off = (tgt : Int)) (kf : W p l e R s m args below meth c H locs cells slots Q (F0 m (pc + 3) ls (rest))) : W p l e R s m args below meth c H locs cells slots Q (F0 m pc ls (.int (nI a) :: rest)) := lv_if_lt hx hb d ht (fun z => absurd z (nI_pos ha)) (fun _ => kf)
theorem m_if_ge (hx : p.tables.exec = Jvm.exec) (hb : c.code = cc) {a : Nat} (ha : a < 2147483648) {off : Int} {tgt : Nat} (d : decode cc pc = .ok (.ifCond .ge off, 3)) (ht : (pc : Int) + off = (tgt : Int)) (kt : W p l e R s m args below meth c H locs cells slots Q (F0 m tgt ls (rest))) : W p l e R s m args below meth c H locs cells slots Q (F0 m pc ls (.int (nI a) :: rest)) := lv_if_ge hx hb d ht (fun _ => kt) (fun z => absurd (nI_pos' ha) z)
theorem bI_0 {b : Bool} : bI b = 0 ↔ b = false := by cases b <;> decide
theorem m_if_eq_b (hx : p.tables.exec = Jvm.exec) (hb : c.code = cc) {b : Bool} {off : Int} {tgt : Nat} (d : decode cc pc = .ok (.ifCond .eq off, 3)) (ht : (pc : Int) + off = (tgt : Int)) (kt : b = false → W p l e R s m args below meth c H locs cells slots Q (F0 m tgt ls (rest))) (kf : b = true → W p l e R s m args below meth c H locs cells slots Q (F0 m (pc + 3) ls (rest))) : W p l e R s m args below meth c H locs cells slots Q (F0 m pc ls (.int (bI b) :: rest)) := lv_if_eq hx hb d ht (fun z => kt (bI_0.mp z)) (fun z => kf (by cases b with
    | true => rfl
    | false => exact absurd rfl z))
theorem m_if_ne_b (hx : p.tables.exec = Jvm.exec) (hb : c.code = cc) {b : Bool} {off : Int} {tgt : Nat} (d : decode cc pc = .ok (.ifCond .ne off, 3)) (ht : (pc : Int) + off = (tgt : Int)) (kt : b = true → W p l e R s m args below meth c H locs cells slots Q (F0 m tgt ls (rest))) (kf : b = false → W p l e R s m args below meth c H locs cells slots Q (F0 m (pc + 3) ls (rest))) : W p l e R s m args below meth c H locs cells slots Q (F0 m pc ls (.int (bI b) :: rest)) := lv_if_ne hx hb d ht (fun z => kt (by cases b with
    | true => rfl
    | false => exact absurd rfl z)) (fun z => kf (by cases b with
    | true => exact absurd z (by decide)
    | false => rfl))
theorem m_ifnull (hx : p.tables.exec = Jvm.exec) (hb : c.code = cc) {r : Option Nat} {off : Int} {tgt : Nat} (d : decode cc pc = .ok (.ifnull off, 3)) (ht : (pc : Int) + off = (tgt : Int)) (kt : r = none → W p l e R s m args below meth c H locs cells slots Q (F0 m tgt ls (rest))) (kf : ∀ a, r = some a → W p l e R s m args below meth c H locs cells slots Q (F0 m (pc + 3) ls (rest))) : W p l e R s m args below meth c H locs cells slots Q (F0 m pc ls (va_rf r :: rest)) := by
  cases r with
  | none => exact lv_ifnullN hx hb d ht (kt rfl)
  | some a => exact lv_ifnull hx hb d (kf a rfl)
theorem m_ifnonnull (hx : p.tables.exec = Jvm.exec) (hb : c.code = cc) {r : Option Nat} {off : Int} {tgt : Nat} (d : decode cc pc = .ok (.ifnonnull off, 3)) (ht : (pc : Int) + off = (tgt : Int)) (kt : ∀ a, r = some a → W p l e R s m args below meth c H locs cells slots Q (F0 m tgt ls (rest))) (kf : r = none → W p l e R s m args below meth c H locs cells slots Q (F0 m (pc + 3) ls (rest))) : W p l e R s m args below meth c H locs cells slots Q (F0 m pc ls (va_rf r :: rest)) := by
  cases r with
  | none => exact lv_ifnonnullN hx hb d (kf rfl)
  | some a => exact lv_ifnonnull hx hb d ht (kt a rfl)
theorem m_aload_nq (hx : p.tables.exec = Jvm.exec) (hb : c.code = cc) {k : Fin 4} {i : Nat} {r : Option Nat} (d : decode cc pc = .ok (.aload_n k, 1)) (hi : (k : Nat) = i) (hl : ls[i]? = some (.val (va_rf r))) (k9 : W p l e R s m args below meth c H locs cells slots Q (F0 m (pc + 1) ls (va_rf r :: rest))) : W p l e R s m args below meth c H locs cells slots Q (F0 m pc ls (rest)) := by
  cases r with
  | none => exact lv_aload_nN hx hb d hi hl k9
  | some a => exact lv_aload_n hx hb d hi hl k9
theorem m_aloadq (hx : p.tables.exec = Jvm.exec) (hb : c.code = cc)  {i : Nat} {r : Option Nat} (d : decode cc pc = .ok (.aload i, 2))  (hl : ls[i]? = some (.val (va_rf r))) (k9 : W p l e R s m args below meth c H locs cells slots Q (F0 m (pc + 2) ls (va_rf r :: rest))) : W p l e R s m args below meth c H locs cells slots Q (F0 m pc ls (rest)) := by
  cases r with
  | none => exact lv_aloadN hx hb d hl k9
  | some a => exact lv_aload hx hb d hl k9
theorem m_astore_nq (hx : p.tables.exec = Jvm.exec) (hb : c.code = cc) {k : Fin 4} {i nL : Nat} {r : Option Nat} {lv lv' : List (Nat × Value)} (d : decode cc pc = .ok (.astore_n k, 1)) (hi : (k : Nat) = i) (h : lv_has ls nL lv) (hn : i < nL) (hl : ∀ v : Value, v.category = 1 → (i, v) :: lv.filter (fun q => !(q.1 == i) && !(q.1 + 1 == i && q.2.category == 2)) = (i, v) :: lv') (kk : ∀ ls' : Array Slot, lv_has ls' nL ((i, va_rf r) :: lv') → W p l e R s m args below meth c H locs cells slots Q (F0 m (pc + 1) ls' (rest))) : W p l e R s m args below meth c H locs cells slots Q (F0 m pc ls (va_rf r :: rest)) := by
  cases r with
  | none => exact lv_astore_nN hx hb d hi h hn (hl .null rfl) kk
  | some a => exact lv_astore_n hx hb d hi h hn (hl (.ref a) rfl) kk
theorem m_astoreq (hx : p.tables.exec = Jvm.exec) (hb : c.code = cc)  {i nL : Nat} {r : Option Nat} {lv lv' : List (Nat × Value)} (d : decode cc pc = .ok (.astore i, 2))  (h : lv_has ls nL lv) (hn : i < nL) (hl : ∀ v : Value, v.category = 1 → (i, v) :: lv.filter (fun q => !(q.1 == i) && !(q.1 + 1 == i && q.2.category == 2)) = (i, v) :: lv') (kk : ∀ ls' : Array Slot, lv_has ls' nL ((i, va_rf r) :: lv') → W p l e R s m args below meth c H locs cells slots Q (F0 m (pc + 2) ls' (rest))) : W p l e R s m args below meth c H locs cells slots Q (F0 m pc ls (va_rf r :: rest)) := by
  cases r with
  | none => exact lv_astoreN hx hb d h hn (hl .null rfl) kk
  | some a => exact lv_astore hx hb d h hn (hl (.ref a) rfl) kk
theorem m_iald (hx : p.tables.exec = Jvm.exec) (hb : c.code = cc) (hK : va_K K.1 vwCl (m_ty K) s) (hP : va_P K.1 vwCl ws H) (q0 : Nat) {a n k : Nat} {f : Nat → Int32} (ha : ws[q0]? = some (a, .inl (K.2.1 0, n, .inl f))) (hk : k < n) (hn : n < 2147483648) {x : Int32} (hv : f k = x) (d : decode cc pc = .ok (.iaload, 1)) (kk : W p l e R s m args below meth c H locs cells slots Q (F0 m (pc + 1) ls (.int x :: rest))) : W p l e R s m args below meth c H locs cells slots Q (F0 m pc ls (.int (nI k) :: .ref a :: rest)) := va_iald hx hb hK hP q0 0 ha rfl (vp_in_nI hk hn) d (by rw [nI_clamp (Nat.lt_trans hk hn), hv]; exact kk)
theorem m_zald (hx : p.tables.exec = Jvm.exec) (hb : c.code = cc) (hK : va_K K.1 vwCl (m_ty K) s) (hP : va_P K.1 vwCl ws H) (q0 : Nat) {a n k : Nat} {f : Nat → Int32} (ha : ws[q0]? = some (a, .inl (K.2.1 1, n, .inl f))) (hk : k < n) (hn : n < 2147483648) {x : Int32} (hv : f k = x) (d : decode cc pc = .ok (.baload, 1)) (kk : W p l e R s m args below meth c H locs cells slots Q (F0 m (pc + 1) ls (.int x :: rest))) : W p l e R s m args below meth c H locs cells slots Q (F0 m pc ls (.int (nI k) :: .ref a :: rest)) := va_zald hx hb hK hP q0 1 ha rfl (vp_in_nI hk hn) d (by rw [nI_clamp (Nat.lt_trans hk hn), hv]; exact kk)
theorem m_aald2 (hx : p.tables.exec = Jvm.exec) (hb : c.code = cc) (hK : va_K K.1 vwCl (m_ty K) s) (hP : va_P K.1 vwCl ws H) (q0 : Nat) {a n k : Nat} {f : Nat → Option Nat} (ha : ws[q0]? = some (a, .inl (K.2.1 2, n, .inr (.inr (.inr (.inr f)))))) (hk : k < n) (hn : n < 2147483648) {x : Option Nat} (hv : f k = x) (d : decode cc pc = .ok (.aaload, 1)) (kk : W p l e R s m args below meth c H locs cells slots Q (F0 m (pc + 1) ls (va_rf x :: rest))) : W p l e R s m args below meth c H locs cells slots Q (F0 m pc ls (.int (nI k) :: .ref a :: rest)) := va_aldq hx hb hK hP q0 2 ha rfl (vp_in_nI hk hn) d (by rw [nI_clamp (Nat.lt_trans hk hn), hv]; exact kk)
theorem m_aald3 (hx : p.tables.exec = Jvm.exec) (hb : c.code = cc) (hK : va_K K.1 vwCl (m_ty K) s) (hP : va_P K.1 vwCl ws H) (q0 : Nat) {a n k : Nat} {f : Nat → Option Nat} (ha : ws[q0]? = some (a, .inl (K.2.1 3, n, .inr (.inr (.inr (.inr f)))))) (hk : k < n) (hn : n < 2147483648) {x : Option Nat} (hv : f k = x) (d : decode cc pc = .ok (.aaload, 1)) (kk : W p l e R s m args below meth c H locs cells slots Q (F0 m (pc + 1) ls (va_rf x :: rest))) : W p l e R s m args below meth c H locs cells slots Q (F0 m pc ls (.int (nI k) :: .ref a :: rest)) := va_aldq hx hb hK hP q0 3 ha rfl (vp_in_nI hk hn) d (by rw [nI_clamp (Nat.lt_trans hk hn), hv]; exact kk)
theorem m_iast (hx : p.tables.exec = Jvm.exec) (hb : c.code = cc) (hK : va_K K.1 vwCl (m_ty K) s) (hP : va_P K.1 vwCl ws H) (hD : va_D A ws) (hS : va_S A H0 H locs) (q0 : Nat) {a n k : Nat} {x : Int32} {f : Nat → Int32} (ha : ws[q0]? = some (a, .inl (K.2.1 0, n, .inl f))) (hk : k < n) (hn : n < 2147483648) (d : decode cc pc = .ok (.iastore, 1)) (kk : (∀ (H1 : Heap) (locs1 : List Loc), va_P K.1 vwCl (ws.set q0 (a, .inl (K.2.1 0, n, .inl (upd f k x)))) H1 → va_D A (ws.set q0 (a, .inl (K.2.1 0, n, .inl (upd f k x)))) → va_S A H0 H1 locs1 → W p l e R s m args below meth c H1 locs1 cells slots Q (F0 m (pc + 1) ls (rest)))) : W p l e R s m args below meth c H locs cells slots Q (F0 m pc ls (.int x :: .int (nI k) :: .ref a :: rest)) := va_iast hx hb hK hP hD hS q0 0 ha rfl (vp_in_nI hk hn) d (by rw [nI_clamp (Nat.lt_trans hk hn)]; exact kk)
theorem m_nar_b (b : Bool) : vp_nar .boolean (bI b) = bI b := by cases b <;> decide
theorem m_zast (hx : p.tables.exec = Jvm.exec) (hb : c.code = cc) (hK : va_K K.1 vwCl (m_ty K) s) (hP : va_P K.1 vwCl ws H) (hD : va_D A ws) (hS : va_S A H0 H locs) (q0 : Nat) {a n k : Nat} {x : Bool} {f : Nat → Int32} (ha : ws[q0]? = some (a, .inl (K.2.1 1, n, .inl f))) (hk : k < n) (hn : n < 2147483648) (d : decode cc pc = .ok (.bastore, 1)) (kk : (∀ (H1 : Heap) (locs1 : List Loc), va_P K.1 vwCl (ws.set q0 (a, .inl (K.2.1 1, n, .inl (upd f k (bI x))))) H1 → va_D A (ws.set q0 (a, .inl (K.2.1 1, n, .inl (upd f k (bI x))))) → va_S A H0 H1 locs1 → W p l e R s m args below meth c H1 locs1 cells slots Q (F0 m (pc + 1) ls (rest)))) : W p l e R s m args below meth c H locs cells slots Q (F0 m pc ls (.int (bI x) :: .int (nI k) :: .ref a :: rest)) := va_zast hx hb hK hP hD hS q0 1 ha rfl (vp_in_nI hk hn) d (by rw [nI_clamp (Nat.lt_trans hk hn), m_nar_b]; exact kk)
theorem m_aast2 (hx : p.tables.exec = Jvm.exec) (hb : c.code = cc) (hK : va_K K.1 vwCl (m_ty K) s) (hP : va_P K.1 vwCl ws H) (hD : va_D A ws) (hS : va_S A H0 H locs) (q0 qk : Nat) {a n k v : Nat} {vs : List Value} {f : Nat → Option Nat} (ha : ws[q0]? = some (a, .inl (K.2.1 2, n, .inr (.inr (.inr (.inr f)))))) (hv : ws[qk]? = some (v, .inr (1, vs))) (hk : k < n) (hn : n < 2147483648) (d : decode cc pc = .ok (.aastore, 1)) (kk : (∀ (H1 : Heap) (locs1 : List Loc), va_P K.1 vwCl (ws.set q0 (a, .inl (K.2.1 2, n, .inr (.inr (.inr (.inr (va_up f k (some v)))))))) H1 → va_D A (ws.set q0 (a, .inl (K.2.1 2, n, .inr (.inr (.inr (.inr (va_up f k (some v)))))))) → va_S A H0 H1 locs1 → W p l e R s m args below meth c H1 locs1 cells slots Q (F0 m (pc + 1) ls (rest)))) : W p l e R s m args below meth c H locs cells slots Q (F0 m pc ls (.ref v :: .int (nI k) :: .ref a :: rest)) := va_astq hx hb hK hP hD hS q0 2 qk 1 ha (r := (RX0, TX0, 3)) rfl hv rfl (vp_in_nI hk hn) d (by rw [nI_clamp (Nat.lt_trans hk hn)]; exact kk)
theorem m_aastN2 (hx : p.tables.exec = Jvm.exec) (hb : c.code = cc) (hK : va_K K.1 vwCl (m_ty K) s) (hP : va_P K.1 vwCl ws H) (hD : va_D A ws) (hS : va_S A H0 H locs) (q0 : Nat) {a n k : Nat} {f : Nat → Option Nat} (ha : ws[q0]? = some (a, .inl (K.2.1 2, n, .inr (.inr (.inr (.inr f)))))) (hk : k < n) (hn : n < 2147483648) (d : decode cc pc = .ok (.aastore, 1)) (kk : (∀ (H1 : Heap) (locs1 : List Loc), va_P K.1 vwCl (ws.set q0 (a, .inl (K.2.1 2, n, .inr (.inr (.inr (.inr (va_up f k none))))))) H1 → va_D A (ws.set q0 (a, .inl (K.2.1 2, n, .inr (.inr (.inr (.inr (va_up f k none))))))) → va_S A H0 H1 locs1 → W p l e R s m args below meth c H1 locs1 cells slots Q (F0 m (pc + 1) ls (rest)))) : W p l e R s m args below meth c H locs cells slots Q (F0 m pc ls (.null :: .int (nI k) :: .ref a :: rest)) := va_astqN hx hb hK hP hD hS q0 2 ha rfl (vp_in_nI hk hn) d (by rw [nI_clamp (Nat.lt_trans hk hn)]; exact kk)
theorem m_aastN3 (hx : p.tables.exec = Jvm.exec) (hb : c.code = cc) (hK : va_K K.1 vwCl (m_ty K) s) (hP : va_P K.1 vwCl ws H) (hD : va_D A ws) (hS : va_S A H0 H locs) (q0 : Nat) {a n k : Nat} {f : Nat → Option Nat} (ha : ws[q0]? = some (a, .inl (K.2.1 3, n, .inr (.inr (.inr (.inr f)))))) (hk : k < n) (hn : n < 2147483648) (d : decode cc pc = .ok (.aastore, 1)) (kk : (∀ (H1 : Heap) (locs1 : List Loc), va_P K.1 vwCl (ws.set q0 (a, .inl (K.2.1 3, n, .inr (.inr (.inr (.inr (va_up f k none))))))) H1 → va_D A (ws.set q0 (a, .inl (K.2.1 3, n, .inr (.inr (.inr (.inr (va_up f k none))))))) → va_S A H0 H1 locs1 → W p l e R s m args below meth c H1 locs1 cells slots Q (F0 m (pc + 1) ls (rest)))) : W p l e R s m args below meth c H locs cells slots Q (F0 m pc ls (.null :: .int (nI k) :: .ref a :: rest)) := va_astqN hx hb hK hP hD hS q0 3 ha rfl (vp_in_nI hk hn) d (by rw [nI_clamp (Nat.lt_trans hk hn)]; exact kk)
theorem m_newi (hx : p.tables.exec = Jvm.exec) (hb : c.code = cc) (hK : va_K K.1 vwCl (m_ty K) s) (hP : va_P K.1 vwCl ws H) (hD : va_D A ws) (hS : va_S A H0 H locs) (hA : ∀ q, H0.size ≤ q → A q) (harr : (Cond.arrayClass (newarray.typeOf .int)).before args s = true) {k : Nat} (hk : k < 65536) (hc : cells + 1 ≤ R.cells) (hs : slots + k ≤ R.slots) (d : decode cc pc = .ok (.newarray .int, 2)) (kk : ∀ (q : Nat) (H1 : Heap), q = H.size → m_same H H1 → va_P K.1 vwCl (ws ++ [(q, .inl (K.2.1 0, k, .inl (fun _ => 0)))]) H1 → va_D A (ws ++ [(q, .inl (K.2.1 0, k, .inl (fun _ => 0)))]) → va_S A H0 H1 locs → W p l e R s m args below meth c H1 locs (cells + 1) (slots + k) Q (F0 m (pc + 2) ls (.ref q :: rest))) : W p l e R s m args below meth c H locs cells slots Q (F0 m pc ls (.int (nI k) :: rest)) := by
  have hkk : k < 2147483648 := by omega
  refine va_newaK hx hb (atype := .int) harr rfl d rfl (nI_pos hkk) (nI_clamp hkk) (show k * componentBytes .int ≤ 536870912 by have : componentBytes .int ≤ 8 := (by decide); exact Nat.le_trans (Nat.mul_le_mul (Nat.le_of_lt hk) this) (by decide)) hc hs rfl fun H1 cA e1 z1 o1 hAr hNm => ?_
  have e : cA = K.2.1 0 := Option.some.inj (hNm.symm.trans (hK.2 0 _ rfl).2)
  subst e
  have hq : ∀ (j : Nat) (x : Nat × va_E), ws[j]? = some x → H1[x.1]? = H[x.1]? := fun j x hx => o1 x.1 ((hP j x hx).lt)
  refine kk H.size H1 rfl ⟨by omega, o1⟩ ((hP.kept hq).app (fun j x hx => ?_)) (hD.push hP rfl (hA _ hS.1)) ⟨Nat.le_trans hS.1 (by omega), fun x h1 h2 => (o1 x (Nat.lt_of_lt_of_le h1 hS.1)).trans (hS.2.1 x h1 h2), hS.2.2⟩
  have hz : j < 1 := (List.getElem?_eq_some_iff.mp hx).1
  rw [show j = 0 by omega] at hx
  cases hx
  exact e1
theorem m_newz (hx : p.tables.exec = Jvm.exec) (hb : c.code = cc) (hK : va_K K.1 vwCl (m_ty K) s) (hP : va_P K.1 vwCl ws H) (hD : va_D A ws) (hS : va_S A H0 H locs) (hA : ∀ q, H0.size ≤ q → A q) (harr : (Cond.arrayClass (newarray.typeOf .boolean)).before args s = true) {k : Nat} (hk : k < 65536) (hc : cells + 1 ≤ R.cells) (hs : slots + k ≤ R.slots) (d : decode cc pc = .ok (.newarray .boolean, 2)) (kk : ∀ (q : Nat) (H1 : Heap), q = H.size → m_same H H1 → va_P K.1 vwCl (ws ++ [(q, .inl (K.2.1 1, k, .inl (fun _ => 0)))]) H1 → va_D A (ws ++ [(q, .inl (K.2.1 1, k, .inl (fun _ => 0)))]) → va_S A H0 H1 locs → W p l e R s m args below meth c H1 locs (cells + 1) (slots + k) Q (F0 m (pc + 2) ls (.ref q :: rest))) : W p l e R s m args below meth c H locs cells slots Q (F0 m pc ls (.int (nI k) :: rest)) := by
  have hkk : k < 2147483648 := by omega
  refine va_newaK hx hb (atype := .boolean) harr rfl d rfl (nI_pos hkk) (nI_clamp hkk) (show k * componentBytes .boolean ≤ 536870912 by have : componentBytes .boolean ≤ 8 := (by decide); exact Nat.le_trans (Nat.mul_le_mul (Nat.le_of_lt hk) this) (by decide)) hc hs rfl fun H1 cA e1 z1 o1 hAr hNm => ?_
  have e : cA = K.2.1 1 := Option.some.inj (hNm.symm.trans (hK.2 1 _ rfl).2)
  subst e
  have hq : ∀ (j : Nat) (x : Nat × va_E), ws[j]? = some x → H1[x.1]? = H[x.1]? := fun j x hx => o1 x.1 ((hP j x hx).lt)
  refine kk H.size H1 rfl ⟨by omega, o1⟩ ((hP.kept hq).app (fun j x hx => ?_)) (hD.push hP rfl (hA _ hS.1)) ⟨Nat.le_trans hS.1 (by omega), fun x h1 h2 => (o1 x (Nat.lt_of_lt_of_le h1 hS.1)).trans (hS.2.1 x h1 h2), hS.2.2⟩
  have hz : j < 1 := (List.getElem?_eq_some_iff.mp hx).1
  rw [show j = 0 by omega] at hx
  cases hx
  exact e1
theorem m_out {pE : String → Prop} {H1 : Heap} {locs1 : List Loc} {Qc : Array Value → State → Outcome → State → Prop} {mc ms : Nat} {E : String} {ce : Cell} {q9 : Nat} (ht : ∀ x ∈ c.exceptionTable.toList, False) (hlk : meth.locks = false) (hE : pE E) (hk : m_same H0 H1) (hS : va_S A s.heap H1 locs1) (h1 : H1[q9]? = some ce) (h2 : ce.vm = .none) (h3 : s.vm.findClass E = some ce.cls) (hc : cells ≤ mc) (hs : slots ≤ ms) : vx_W p l e R s m args below meth c H1 locs1 cells slots (vx_MQ below Qc (m_X pE H0 A) args s mc ms A) (F0 m pc ls rest) q9 :=
  vx_out (fun x hx => (ht x hx).elim) hlk h1 h2 h3 (fun t e _ => ⟨H1, hk, ⟨e, hE⟩, hS.F e⟩) hS.2.2 hc hs
theorem m_hgIO : ∀ w ∈ Cond.classLink RX2 58 m_IO :: Cond.initialized m_IO :: vx_atS RX2 62 m_IO m_RT, vx_ot w = true := by decide +kernel
theorem m_hbIO : ∀ w ∈ (vx_atS RX2 62 m_IO m_RT).filter (fun w => !goodWord w), w ∈ ([.declares (m_ini "java/lang/RuntimeException"), .declares (m_ini "java/lang/Exception"), .declares (m_ini "java/lang/Throwable"), .castable m_IO m_IO] : List Cond) := by decide +kernel
theorem m_thrIO (hx : p.tables.exec = Jvm.exec) (hb : c.code = cc) (hl0 : l.stackTraces = false) (hown : s.vm.findClass RX2 = some m.cls) (hE : ENV K A s) (hk : (Cond.classLink RX2 58 m_IO).before args s = true) (hini : (Cond.initialized m_IO).before args s = true) (hgw : ∀ w ∈ (vx_atS RX2 62 m_IO m_RT).filter goodWord, w.before args s = true) {is : Nat} {text : String} (hm : (is, text) ∈ m_txt)
    (hS : va_S A s.heap H locs) (hh : m_same H0 H) (hsize : ls.size = c.maxLocals) (d0 : decode cc pc = .ok (.new 58, 3)) (d3 : decode cc (pc + 3) = .ok (.dup, 1)) (d4 : decode cc (pc + 4) = .ok (.ldc is, 2)) (d6 : decode cc (pc + 6) = .ok (.invokespecial 62, 3)) (d9 : decode cc (pc + 9) = .ok (.athrow, 1))
    (ht : ∀ x ∈ c.exceptionTable.toList, False) (hlk : meth.locks = false) (hRf : 5 < R.frames) (hRl : (rest.map fun v => v.category).sum + 82 ≤ R.locals) (hRc : cells + 1 ≤ R.cells) (hRs : slots + 6 ≤ R.slots) {pE : String → Prop} (hpE : pE m_IO) {Qc : Array Value → State → Outcome → State → Prop} {mc ms : Nat} (hc : cells + 1 ≤ mc) (hs : slots + 6 ≤ ms) :
    W p l e R s m args below meth c H locs cells slots (vx_MQ below Qc (m_X pE H0 A) args s mc ms A) (F0 m pc ls rest) := by
  obtain ⟨sa, hstr⟩ := hE.2.2.2.1 _ hm
  have hd := hE.2.2.2.2.1
  refine vx_throwS (A := A) (own := RX2) (cls := m_IO) (names := m_RT) (ik := 58) (ic := 62) (is := is) (text := text) hx hb hl0 hown (by decide) (by decide) hk hini hstr (vx_hat hgw m_hbIO ?_) m_hgIO hE.2.1 hE.2.2.1 hS hsize d0 d3 d4 d6 d9 (fun x hx => (ht x hx).elim) hRf hRl hRc hRs hlk (fun t ha z1 z2 => ⟨t.heap, hh.trans ⟨z1, z2⟩, ⟨rfl, hpE⟩, Nat.le_trans hS.1 z1, fun q h1 h2 => (z2 q (Nat.lt_of_lt_of_le h1 hS.1)).trans (hS.2.1 q h1 h2)⟩) hS.2.2 hc hs
  exact vx_c (va_Nw.use rfl (hd _ (by simp [m_dec]))) (vx_c (va_Nw.use rfl (hd _ (by simp [m_dec]))) (vx_c (va_Nw.use rfl (hd _ (by simp [m_dec]))) (vx_c (va_Nw.use rfl (hE.2.2.2.2.2.1 (m_IO, m_IO) (by simp [m_cas]))) vx_n)))
theorem m_hgIA : ∀ w ∈ Cond.classLink RX2 69 m_IA :: Cond.initialized m_IA :: vx_atS RX2 73 m_IA m_RT, vx_ot w = true := by decide +kernel
theorem m_hbIA : ∀ w ∈ (vx_atS RX2 73 m_IA m_RT).filter (fun w => !goodWord w), w ∈ ([.declares (m_ini "java/lang/RuntimeException"), .declares (m_ini "java/lang/Exception"), .declares (m_ini "java/lang/Throwable"), .castable m_IA m_IA] : List Cond) := by decide +kernel
theorem m_thrIA (hx : p.tables.exec = Jvm.exec) (hb : c.code = cc) (hl0 : l.stackTraces = false) (hown : s.vm.findClass RX2 = some m.cls) (hE : ENV K A s) (hk : (Cond.classLink RX2 69 m_IA).before args s = true) (hini : (Cond.initialized m_IA).before args s = true) (hgw : ∀ w ∈ (vx_atS RX2 73 m_IA m_RT).filter goodWord, w.before args s = true) {is : Nat} {text : String} (hm : (is, text) ∈ m_txt)
    (hS : va_S A s.heap H locs) (hh : m_same H0 H) (hsize : ls.size = c.maxLocals) (d0 : decode cc pc = .ok (.new 69, 3)) (d3 : decode cc (pc + 3) = .ok (.dup, 1)) (d4 : decode cc (pc + 4) = .ok (.ldc is, 2)) (d6 : decode cc (pc + 6) = .ok (.invokespecial 73, 3)) (d9 : decode cc (pc + 9) = .ok (.athrow, 1))
    (ht : ∀ x ∈ c.exceptionTable.toList, False) (hlk : meth.locks = false) (hRf : 5 < R.frames) (hRl : (rest.map fun v => v.category).sum + 82 ≤ R.locals) (hRc : cells + 1 ≤ R.cells) (hRs : slots + 6 ≤ R.slots) {pE : String → Prop} (hpE : pE m_IA) {Qc : Array Value → State → Outcome → State → Prop} {mc ms : Nat} (hc : cells + 1 ≤ mc) (hs : slots + 6 ≤ ms) :
    W p l e R s m args below meth c H locs cells slots (vx_MQ below Qc (m_X pE H0 A) args s mc ms A) (F0 m pc ls rest) := by
  obtain ⟨sa, hstr⟩ := hE.2.2.2.1 _ hm
  have hd := hE.2.2.2.2.1
  refine vx_throwS (A := A) (own := RX2) (cls := m_IA) (names := m_RT) (ik := 69) (ic := 73) (is := is) (text := text) hx hb hl0 hown (by decide) (by decide) hk hini hstr (vx_hat hgw m_hbIA ?_) m_hgIA hE.2.1 hE.2.2.1 hS hsize d0 d3 d4 d6 d9 (fun x hx => (ht x hx).elim) hRf hRl hRc hRs hlk (fun t ha z1 z2 => ⟨t.heap, hh.trans ⟨z1, z2⟩, ⟨rfl, hpE⟩, Nat.le_trans hS.1 z1, fun q h1 h2 => (z2 q (Nat.lt_of_lt_of_le h1 hS.1)).trans (hS.2.1 q h1 h2)⟩) hS.2.2 hc hs
  exact vx_c (va_Nw.use rfl (hd _ (by simp [m_dec]))) (vx_c (va_Nw.use rfl (hd _ (by simp [m_dec]))) (vx_c (va_Nw.use rfl (hd _ (by simp [m_dec]))) (vx_c (va_Nw.use rfl (hE.2.2.2.2.2.1 (m_IA, m_IA) (by simp [m_cas]))) vx_n)))
theorem m_hgIS : ∀ w ∈ Cond.classLink RX2 86 m_IS :: Cond.initialized m_IS :: vx_atS RX2 90 m_IS m_RT, vx_ot w = true := by decide +kernel
theorem m_hbIS : ∀ w ∈ (vx_atS RX2 90 m_IS m_RT).filter (fun w => !goodWord w), w ∈ ([.declares (m_ini "java/lang/RuntimeException"), .declares (m_ini "java/lang/Exception"), .declares (m_ini "java/lang/Throwable"), .castable m_IS m_IS] : List Cond) := by decide +kernel
theorem m_thrIS (hx : p.tables.exec = Jvm.exec) (hb : c.code = cc) (hl0 : l.stackTraces = false) (hown : s.vm.findClass RX2 = some m.cls) (hE : ENV K A s) (hk : (Cond.classLink RX2 86 m_IS).before args s = true) (hini : (Cond.initialized m_IS).before args s = true) (hgw : ∀ w ∈ (vx_atS RX2 90 m_IS m_RT).filter goodWord, w.before args s = true) {is : Nat} {text : String} (hm : (is, text) ∈ m_txt)
    (hS : va_S A s.heap H locs) (hh : m_same H0 H) (hsize : ls.size = c.maxLocals) (d0 : decode cc pc = .ok (.new 86, 3)) (d3 : decode cc (pc + 3) = .ok (.dup, 1)) (d4 : decode cc (pc + 4) = .ok (.ldc is, 2)) (d6 : decode cc (pc + 6) = .ok (.invokespecial 90, 3)) (d9 : decode cc (pc + 9) = .ok (.athrow, 1))
    (ht : ∀ x ∈ c.exceptionTable.toList, False) (hlk : meth.locks = false) (hRf : 5 < R.frames) (hRl : (rest.map fun v => v.category).sum + 82 ≤ R.locals) (hRc : cells + 1 ≤ R.cells) (hRs : slots + 6 ≤ R.slots) {pE : String → Prop} (hpE : pE m_IS) {Qc : Array Value → State → Outcome → State → Prop} {mc ms : Nat} (hc : cells + 1 ≤ mc) (hs : slots + 6 ≤ ms) :
    W p l e R s m args below meth c H locs cells slots (vx_MQ below Qc (m_X pE H0 A) args s mc ms A) (F0 m pc ls rest) := by
  obtain ⟨sa, hstr⟩ := hE.2.2.2.1 _ hm
  have hd := hE.2.2.2.2.1
  refine vx_throwS (A := A) (own := RX2) (cls := m_IS) (names := m_RT) (ik := 86) (ic := 90) (is := is) (text := text) hx hb hl0 hown (by decide) (by decide) hk hini hstr (vx_hat hgw m_hbIS ?_) m_hgIS hE.2.1 hE.2.2.1 hS hsize d0 d3 d4 d6 d9 (fun x hx => (ht x hx).elim) hRf hRl hRc hRs hlk (fun t ha z1 z2 => ⟨t.heap, hh.trans ⟨z1, z2⟩, ⟨rfl, hpE⟩, Nat.le_trans hS.1 z1, fun q h1 h2 => (z2 q (Nat.lt_of_lt_of_le h1 hS.1)).trans (hS.2.1 q h1 h2)⟩) hS.2.2 hc hs
  exact vx_c (va_Nw.use rfl (hd _ (by simp [m_dec]))) (vx_c (va_Nw.use rfl (hd _ (by simp [m_dec]))) (vx_c (va_Nw.use rfl (hd _ (by simp [m_dec]))) (vx_c (va_Nw.use rfl (hE.2.2.2.2.2.1 (m_IS, m_IS) (by simp [m_cas]))) vx_n)))
theorem m_cVi {Ts : List Cond} {own : String} {C : String} {b : Nat} {index maxL nL mc ms n : Nat} {y : MethodName} {bytes : ByteArray} {ret : Option FieldType} {ws2 : List Cond} {rm : Room} {As av st : List Value} {post : Int32 → Heap → Prop} (S : CallFix p m c cc nL s args Ts own) (hE : ENV K A s) (hS : va_S A s.heap H locs) {A1 : Nat → Prop} (hsub : ∀ q, A1 q → A q) (hM : Met l y ws2 rm (m_Pc K A1 H av) (va_Qi post m_B A1) mc ms A1) (cw : CallW R s args own C index y bytes maxL ret ws2 rm mc ms n) (hrecv : ∃ cell : Cell, H[b]? = some cell ∧ cell.vm.isStatics = false ∧ s.vm.findClass C = some cell.cls) (hav : av = .ref b :: As) (hn : As.length = n) (hsize : ls.size = nL) (hst : st = As.reverse ++ .ref b :: rest) (hcat : (rest.map fun v => v.category).sum ≤ 8) (hdg : decode cc pc = .ok (.invokevirtual index, 3)) (hf : cells + mc ≤ R.cells ∧ slots + ms ≤ R.slots)  (kk : ∀ (r : Int32) (H1 : Heap) (locs1 : List Loc), post r H1 → va_S A s.heap H1 locs1 → (∀ q : Nat, q < H.size → ¬ A1 q → H1[q]? = H[q]?) → W p l e R s m args below meth c H1 locs1 (cells + mc) (slots + ms) Q (F0 m (pc + 3) ls (.int r :: rest))) : W p l e R s m args below meth c H locs cells slots Q (F0 m pc ls (st)) := by
  subst hav
  exact va_calli (va_runV (As := As) (rest := rest) S hM cw ⟨m_blind, hrecv, fun U hU hW => ⟨rfl, hU, (hE.warm hS hU hW).narrow hsub⟩⟩ rfl hn hsize hst (lv_room hcat) hdg hf) hS (fun q _ h => hsub q h) (fun q h => hsub q h) (fun r u t H1 locs1 ht hvm hp hB hz hk hS1 => by
    have e : H1 = u := ht.symm.trans hB
    subst e
    exact kk r H1 locs1 hp hS1 hk)
theorem m_xVi {Ts : List Cond} {own : String} {C : String} {b : Nat} {index maxL nL mc ms n : Nat} {y : MethodName} {bytes : ByteArray} {ret : Option FieldType} {ws2 : List Cond} {rm : Room} {As av st : List Value} {post : Int32 → Heap → Prop} {pE : String → Prop} (S : CallFix p m c cc nL s args Ts own) (hE : ENV K A s) (hS : va_S A s.heap H locs) {A1 : Nat → Prop} (hsub : ∀ q, A1 q → A q) (hM : vx_Met l y ws2 rm (m_Pc K A1 H av) (va_Qi post m_B A1) (m_X pE H A1) mc ms A1) (cw : CallW R s args own C index y bytes maxL ret ws2 rm mc ms n) (hrecv : ∃ cell : Cell, H[b]? = some cell ∧ cell.vm.isStatics = false ∧ s.vm.findClass C = some cell.cls) (hav : av = .ref b :: As) (hn : As.length = n) (hsize : ls.size = nL) (hst : st = As.reverse ++ .ref b :: rest) (hcat : (rest.map fun v => v.category).sum ≤ 8) (hdg : decode cc pc = .ok (.invokevirtual index, 3)) (hf : cells + mc ≤ R.cells ∧ slots + ms ≤ R.slots) (kx : ∀ (E : String) (ce : Cell) (q9 : Addr) (H1 : Heap) (locs1 : List Loc), pE E → m_same H H1 → va_S A s.heap H1 locs1 → H1[q9]? = some ce → ce.vm = .none → s.vm.findClass E = some ce.cls → vx_W p l e R s m args below meth c H1 locs1 (cells + mc) (slots + ms) Q (F0 m pc ls rest) q9) (kk : ∀ (r : Int32) (H1 : Heap) (locs1 : List Loc), post r H1 → va_S A s.heap H1 locs1 → (∀ q : Nat, q < H.size → ¬ A1 q → H1[q]? = H[q]?) → W p l e R s m args below meth c H1 locs1 (cells + mc) (slots + ms) Q (F0 m (pc + 3) ls (.int r :: rest))) : W p l e R s m args below meth c H locs cells slots Q (F0 m pc ls (st)) := by
  subst hav
  exact vx_calli (vx_runV (As := As) (rest := rest) S hM cw ⟨m_blind, hrecv, fun U hU hW => ⟨rfl, hU, (hE.warm hS hU hW).narrow hsub⟩⟩ rfl hn hsize hst (lv_room hcat) hdg hf) hS (fun q _ h => hsub q h) (fun q h => hsub q h) (fun q _ h => hsub q h) (fun E ce q9 u t H1 locs1 ht hvm hp hB hz hk hS1 g1 g2 g3 => by
    have e : H1 = u := ht.symm.trans hB.1
    subst e
    exact kx E ce q9 H1 locs1 hB.2 hp hS1 g1 g2 g3) (fun r u t H1 locs1 ht hvm hp hB hz hk hS1 => by
    have e : H1 = u := ht.symm.trans hB
    subst e
    exact kk r H1 locs1 hp hS1 hk)
theorem m_cVv {Ts : List Cond} {own : String} {C : String} {b : Nat} {index maxL nL mc ms n : Nat} {y : MethodName} {bytes : ByteArray} {ret : Option FieldType} {ws2 : List Cond} {rm : Room} {As av st : List Value} {post : Heap → Prop} (S : CallFix p m c cc nL s args Ts own) (hE : ENV K A s) (hS : va_S A s.heap H locs) {A1 : Nat → Prop} (hsub : ∀ q, A1 q → A q) (hM : Met l y ws2 rm (m_Pc K A1 H av) (va_Qv post m_B A1) mc ms A1) (cw : CallW R s args own C index y bytes maxL ret ws2 rm mc ms n) (hrecv : ∃ cell : Cell, H[b]? = some cell ∧ cell.vm.isStatics = false ∧ s.vm.findClass C = some cell.cls) (hav : av = .ref b :: As) (hn : As.length = n) (hsize : ls.size = nL) (hst : st = As.reverse ++ .ref b :: rest) (hcat : (rest.map fun v => v.category).sum ≤ 8) (hdg : decode cc pc = .ok (.invokevirtual index, 3)) (hf : cells + mc ≤ R.cells ∧ slots + ms ≤ R.slots)  (kk : ∀ (H1 : Heap) (locs1 : List Loc), post H1 → va_S A s.heap H1 locs1 → (∀ q : Nat, q < H.size → ¬ A1 q → H1[q]? = H[q]?) → W p l e R s m args below meth c H1 locs1 (cells + mc) (slots + ms) Q (F0 m (pc + 3) ls (rest))) : W p l e R s m args below meth c H locs cells slots Q (F0 m pc ls (st)) := by
  subst hav
  exact va_callv (va_runV (As := As) (rest := rest) S hM cw ⟨m_blind, hrecv, fun U hU hW => ⟨rfl, hU, (hE.warm hS hU hW).narrow hsub⟩⟩ rfl hn hsize hst (lv_room hcat) hdg hf) hS (fun q _ h => hsub q h) (fun q h => hsub q h) (fun u t H1 locs1 ht hvm hp hB hz hk hS1 => by
    have e : H1 = u := ht.symm.trans hB
    subst e
    exact kk H1 locs1 hp hS1 hk)
theorem m_xVv {Ts : List Cond} {own : String} {C : String} {b : Nat} {index maxL nL mc ms n : Nat} {y : MethodName} {bytes : ByteArray} {ret : Option FieldType} {ws2 : List Cond} {rm : Room} {As av st : List Value} {post : Heap → Prop} {pE : String → Prop} (S : CallFix p m c cc nL s args Ts own) (hE : ENV K A s) (hS : va_S A s.heap H locs) {A1 : Nat → Prop} (hsub : ∀ q, A1 q → A q) (hM : vx_Met l y ws2 rm (m_Pc K A1 H av) (va_Qv post m_B A1) (m_X pE H A1) mc ms A1) (cw : CallW R s args own C index y bytes maxL ret ws2 rm mc ms n) (hrecv : ∃ cell : Cell, H[b]? = some cell ∧ cell.vm.isStatics = false ∧ s.vm.findClass C = some cell.cls) (hav : av = .ref b :: As) (hn : As.length = n) (hsize : ls.size = nL) (hst : st = As.reverse ++ .ref b :: rest) (hcat : (rest.map fun v => v.category).sum ≤ 8) (hdg : decode cc pc = .ok (.invokevirtual index, 3)) (hf : cells + mc ≤ R.cells ∧ slots + ms ≤ R.slots) (kx : ∀ (E : String) (ce : Cell) (q9 : Addr) (H1 : Heap) (locs1 : List Loc), pE E → m_same H H1 → va_S A s.heap H1 locs1 → H1[q9]? = some ce → ce.vm = .none → s.vm.findClass E = some ce.cls → vx_W p l e R s m args below meth c H1 locs1 (cells + mc) (slots + ms) Q (F0 m pc ls rest) q9) (kk : ∀ (H1 : Heap) (locs1 : List Loc), post H1 → va_S A s.heap H1 locs1 → (∀ q : Nat, q < H.size → ¬ A1 q → H1[q]? = H[q]?) → W p l e R s m args below meth c H1 locs1 (cells + mc) (slots + ms) Q (F0 m (pc + 3) ls (rest))) : W p l e R s m args below meth c H locs cells slots Q (F0 m pc ls (st)) := by
  subst hav
  exact vx_callv (vx_runV (As := As) (rest := rest) S hM cw ⟨m_blind, hrecv, fun U hU hW => ⟨rfl, hU, (hE.warm hS hU hW).narrow hsub⟩⟩ rfl hn hsize hst (lv_room hcat) hdg hf) hS (fun q _ h => hsub q h) (fun q h => hsub q h) (fun q _ h => hsub q h) (fun E ce q9 u t H1 locs1 ht hvm hp hB hz hk hS1 g1 g2 g3 => by
    have e : H1 = u := ht.symm.trans hB.1
    subst e
    exact kx E ce q9 H1 locs1 hB.2 hp hS1 g1 g2 g3) (fun u t H1 locs1 ht hvm hp hB hz hk hS1 => by
    have e : H1 = u := ht.symm.trans hB
    subst e
    exact kk H1 locs1 hp hS1 hk)
theorem m_cVq {Ts : List Cond} {own : String} {C : String} {b : Nat} {index maxL nL mc ms n : Nat} {y : MethodName} {bytes : ByteArray} {ret : Option FieldType} {ws2 : List Cond} {rm : Room} {As av st : List Value} {post : Option Nat → Heap → Prop} (S : CallFix p m c cc nL s args Ts own) (hE : ENV K A s) (hS : va_S A s.heap H locs) {A1 : Nat → Prop} (hsub : ∀ q, A1 q → A q) (hM : Met l y ws2 rm (m_Pc K A1 H av) (va_Qq post m_B A1) mc ms A1) (cw : CallW R s args own C index y bytes maxL ret ws2 rm mc ms n) (hrecv : ∃ cell : Cell, H[b]? = some cell ∧ cell.vm.isStatics = false ∧ s.vm.findClass C = some cell.cls) (hav : av = .ref b :: As) (hn : As.length = n) (hsize : ls.size = nL) (hst : st = As.reverse ++ .ref b :: rest) (hcat : (rest.map fun v => v.category).sum ≤ 8) (hdg : decode cc pc = .ok (.invokevirtual index, 3)) (hf : cells + mc ≤ R.cells ∧ slots + ms ≤ R.slots)  (kk : ∀ (r : Option Nat) (H1 : Heap) (locs1 : List Loc), post r H1 → va_S A s.heap H1 locs1 → (∀ q : Nat, q < H.size → ¬ A1 q → H1[q]? = H[q]?) → W p l e R s m args below meth c H1 locs1 (cells + mc) (slots + ms) Q (F0 m (pc + 3) ls (va_rf r :: rest))) : W p l e R s m args below meth c H locs cells slots Q (F0 m pc ls (st)) := by
  subst hav
  exact va_callq (va_runV (As := As) (rest := rest) S hM cw ⟨m_blind, hrecv, fun U hU hW => ⟨rfl, hU, (hE.warm hS hU hW).narrow hsub⟩⟩ rfl hn hsize hst (lv_room hcat) hdg hf) hS (fun q _ h => hsub q h) (fun q h => hsub q h) (fun r u t H1 locs1 ht hvm hp hB hz hk hS1 => by
    have e : H1 = u := ht.symm.trans hB
    subst e
    exact kk r H1 locs1 hp hS1 hk)
theorem m_cSi {Ts : List Cond} {own : String} {index maxL nL mc ms n : Nat} {y : MethodName} {bytes : ByteArray} {ret : Option FieldType} {ws2 : List Cond} {rm : Room} {As av st : List Value} {post : Int32 → Heap → Prop} (S : CallFix p m c cc nL s args Ts own) (hE : ENV K A s) (hS : va_S A s.heap H locs) {A1 : Nat → Prop} (hsub : ∀ q, A1 q → A q) (hM : Met l y ws2 rm (m_Pc K A1 H av) (va_Qi post m_B A1) mc ms A1) (cw : CallB R s args own index y bytes maxL ret ws2 rm mc ms n ∧ (Cond.static y).before args s = true) (hav : As = av) (hn : As.length = n) (hsize : ls.size = nL) (hst : st = As.reverse ++ rest) (hcat : (rest.map fun v => v.category).sum ≤ 8) (hdg : decode cc pc = .ok (.invokestatic index, 3)) (hf : cells + mc ≤ R.cells ∧ slots + ms ≤ R.slots)  (kk : ∀ (r : Int32) (H1 : Heap) (locs1 : List Loc), post r H1 → va_S A s.heap H1 locs1 → (∀ q : Nat, q < H.size → ¬ A1 q → H1[q]? = H[q]?) → W p l e R s m args below meth c H1 locs1 (cells + mc) (slots + ms) Q (F0 m (pc + 3) ls (.int r :: rest))) : W p l e R s m args below meth c H locs cells slots Q (F0 m pc ls (st)) := by
  subst hav
  exact va_calli (va_runS (As := As) (rest := rest) S hM cw ⟨m_blind, fun U hU hW => ⟨rfl, hU, (hE.warm hS hU hW).narrow hsub⟩⟩ rfl hn hsize hst (lv_room hcat) hdg hf) hS (fun q _ h => hsub q h) (fun q h => hsub q h) (fun r u t H1 locs1 ht hvm hp hB hz hk hS1 => by
    have e : H1 = u := ht.symm.trans hB
    subst e
    exact kk r H1 locs1 hp hS1 hk)
theorem m_xSi {Ts : List Cond} {own : String} {index maxL nL mc ms n : Nat} {y : MethodName} {bytes : ByteArray} {ret : Option FieldType} {ws2 : List Cond} {rm : Room} {As av st : List Value} {post : Int32 → Heap → Prop} {pE : String → Prop} (S : CallFix p m c cc nL s args Ts own) (hE : ENV K A s) (hS : va_S A s.heap H locs) {A1 : Nat → Prop} (hsub : ∀ q, A1 q → A q) (hM : vx_Met l y ws2 rm (m_Pc K A1 H av) (va_Qi post m_B A1) (m_X pE H A1) mc ms A1) (cw : CallB R s args own index y bytes maxL ret ws2 rm mc ms n ∧ (Cond.static y).before args s = true) (hav : As = av) (hn : As.length = n) (hsize : ls.size = nL) (hst : st = As.reverse ++ rest) (hcat : (rest.map fun v => v.category).sum ≤ 8) (hdg : decode cc pc = .ok (.invokestatic index, 3)) (hf : cells + mc ≤ R.cells ∧ slots + ms ≤ R.slots) (kx : ∀ (E : String) (ce : Cell) (q9 : Addr) (H1 : Heap) (locs1 : List Loc), pE E → m_same H H1 → va_S A s.heap H1 locs1 → H1[q9]? = some ce → ce.vm = .none → s.vm.findClass E = some ce.cls → vx_W p l e R s m args below meth c H1 locs1 (cells + mc) (slots + ms) Q (F0 m pc ls rest) q9) (kk : ∀ (r : Int32) (H1 : Heap) (locs1 : List Loc), post r H1 → va_S A s.heap H1 locs1 → (∀ q : Nat, q < H.size → ¬ A1 q → H1[q]? = H[q]?) → W p l e R s m args below meth c H1 locs1 (cells + mc) (slots + ms) Q (F0 m (pc + 3) ls (.int r :: rest))) : W p l e R s m args below meth c H locs cells slots Q (F0 m pc ls (st)) := by
  subst hav
  exact vx_calli (vx_runS (As := As) (rest := rest) S hM cw ⟨m_blind, fun U hU hW => ⟨rfl, hU, (hE.warm hS hU hW).narrow hsub⟩⟩ rfl hn hsize hst (lv_room hcat) hdg hf) hS (fun q _ h => hsub q h) (fun q h => hsub q h) (fun q _ h => hsub q h) (fun E ce q9 u t H1 locs1 ht hvm hp hB hz hk hS1 g1 g2 g3 => by
    have e : H1 = u := ht.symm.trans hB.1
    subst e
    exact kx E ce q9 H1 locs1 hB.2 hp hS1 g1 g2 g3) (fun r u t H1 locs1 ht hvm hp hB hz hk hS1 => by
    have e : H1 = u := ht.symm.trans hB
    subst e
    exact kk r H1 locs1 hp hS1 hk)
theorem m_cSv {Ts : List Cond} {own : String} {index maxL nL mc ms n : Nat} {y : MethodName} {bytes : ByteArray} {ret : Option FieldType} {ws2 : List Cond} {rm : Room} {As av st : List Value} {post : Heap → Prop} (S : CallFix p m c cc nL s args Ts own) (hE : ENV K A s) (hS : va_S A s.heap H locs) {A1 : Nat → Prop} (hsub : ∀ q, A1 q → A q) (hM : Met l y ws2 rm (m_Pc K A1 H av) (va_Qv post m_B A1) mc ms A1) (cw : CallB R s args own index y bytes maxL ret ws2 rm mc ms n ∧ (Cond.static y).before args s = true) (hav : As = av) (hn : As.length = n) (hsize : ls.size = nL) (hst : st = As.reverse ++ rest) (hcat : (rest.map fun v => v.category).sum ≤ 8) (hdg : decode cc pc = .ok (.invokestatic index, 3)) (hf : cells + mc ≤ R.cells ∧ slots + ms ≤ R.slots)  (kk : ∀ (H1 : Heap) (locs1 : List Loc), post H1 → va_S A s.heap H1 locs1 → (∀ q : Nat, q < H.size → ¬ A1 q → H1[q]? = H[q]?) → W p l e R s m args below meth c H1 locs1 (cells + mc) (slots + ms) Q (F0 m (pc + 3) ls (rest))) : W p l e R s m args below meth c H locs cells slots Q (F0 m pc ls (st)) := by
  subst hav
  exact va_callv (va_runS (As := As) (rest := rest) S hM cw ⟨m_blind, fun U hU hW => ⟨rfl, hU, (hE.warm hS hU hW).narrow hsub⟩⟩ rfl hn hsize hst (lv_room hcat) hdg hf) hS (fun q _ h => hsub q h) (fun q h => hsub q h) (fun u t H1 locs1 ht hvm hp hB hz hk hS1 => by
    have e : H1 = u := ht.symm.trans hB
    subst e
    exact kk H1 locs1 hp hS1 hk)
theorem m_xSv {Ts : List Cond} {own : String} {index maxL nL mc ms n : Nat} {y : MethodName} {bytes : ByteArray} {ret : Option FieldType} {ws2 : List Cond} {rm : Room} {As av st : List Value} {post : Heap → Prop} {pE : String → Prop} (S : CallFix p m c cc nL s args Ts own) (hE : ENV K A s) (hS : va_S A s.heap H locs) {A1 : Nat → Prop} (hsub : ∀ q, A1 q → A q) (hM : vx_Met l y ws2 rm (m_Pc K A1 H av) (va_Qv post m_B A1) (m_X pE H A1) mc ms A1) (cw : CallB R s args own index y bytes maxL ret ws2 rm mc ms n ∧ (Cond.static y).before args s = true) (hav : As = av) (hn : As.length = n) (hsize : ls.size = nL) (hst : st = As.reverse ++ rest) (hcat : (rest.map fun v => v.category).sum ≤ 8) (hdg : decode cc pc = .ok (.invokestatic index, 3)) (hf : cells + mc ≤ R.cells ∧ slots + ms ≤ R.slots) (kx : ∀ (E : String) (ce : Cell) (q9 : Addr) (H1 : Heap) (locs1 : List Loc), pE E → m_same H H1 → va_S A s.heap H1 locs1 → H1[q9]? = some ce → ce.vm = .none → s.vm.findClass E = some ce.cls → vx_W p l e R s m args below meth c H1 locs1 (cells + mc) (slots + ms) Q (F0 m pc ls rest) q9) (kk : ∀ (H1 : Heap) (locs1 : List Loc), post H1 → va_S A s.heap H1 locs1 → (∀ q : Nat, q < H.size → ¬ A1 q → H1[q]? = H[q]?) → W p l e R s m args below meth c H1 locs1 (cells + mc) (slots + ms) Q (F0 m (pc + 3) ls (rest))) : W p l e R s m args below meth c H locs cells slots Q (F0 m pc ls (st)) := by
  subst hav
  exact vx_callv (vx_runS (As := As) (rest := rest) S hM cw ⟨m_blind, fun U hU hW => ⟨rfl, hU, (hE.warm hS hU hW).narrow hsub⟩⟩ rfl hn hsize hst (lv_room hcat) hdg hf) hS (fun q _ h => hsub q h) (fun q h => hsub q h) (fun q _ h => hsub q h) (fun E ce q9 u t H1 locs1 ht hvm hp hB hz hk hS1 g1 g2 g3 => by
    have e : H1 = u := ht.symm.trans hB.1
    subst e
    exact kx E ce q9 H1 locs1 hB.2 hp hS1 g1 g2 g3) (fun u t H1 locs1 ht hvm hp hB hz hk hS1 => by
    have e : H1 = u := ht.symm.trans hB
    subst e
    exact kk H1 locs1 hp hS1 hk)
theorem m_cSq {Ts : List Cond} {own : String} {index maxL nL mc ms n : Nat} {y : MethodName} {bytes : ByteArray} {ret : Option FieldType} {ws2 : List Cond} {rm : Room} {As av st : List Value} {post : Option Nat → Heap → Prop} (S : CallFix p m c cc nL s args Ts own) (hE : ENV K A s) (hS : va_S A s.heap H locs) {A1 : Nat → Prop} (hsub : ∀ q, A1 q → A q) (hM : Met l y ws2 rm (m_Pc K A1 H av) (va_Qq post m_B A1) mc ms A1) (cw : CallB R s args own index y bytes maxL ret ws2 rm mc ms n ∧ (Cond.static y).before args s = true) (hav : As = av) (hn : As.length = n) (hsize : ls.size = nL) (hst : st = As.reverse ++ rest) (hcat : (rest.map fun v => v.category).sum ≤ 8) (hdg : decode cc pc = .ok (.invokestatic index, 3)) (hf : cells + mc ≤ R.cells ∧ slots + ms ≤ R.slots)  (kk : ∀ (r : Option Nat) (H1 : Heap) (locs1 : List Loc), post r H1 → va_S A s.heap H1 locs1 → (∀ q : Nat, q < H.size → ¬ A1 q → H1[q]? = H[q]?) → W p l e R s m args below meth c H1 locs1 (cells + mc) (slots + ms) Q (F0 m (pc + 3) ls (va_rf r :: rest))) : W p l e R s m args below meth c H locs cells slots Q (F0 m pc ls (st)) := by
  subst hav
  exact va_callq (va_runS (As := As) (rest := rest) S hM cw ⟨m_blind, fun U hU hW => ⟨rfl, hU, (hE.warm hS hU hW).narrow hsub⟩⟩ rfl hn hsize hst (lv_room hcat) hdg hf) hS (fun q _ h => hsub q h) (fun q h => hsub q h) (fun r u t H1 locs1 ht hvm hp hB hz hk hS1 => by
    have e : H1 = u := ht.symm.trans hB
    subst e
    exact kk r H1 locs1 hp hS1 hk)
theorem m_cIv {Ts : List Cond} {own : String} {b : Nat} {index maxL nL mc ms n : Nat} {y : MethodName} {bytes : ByteArray} {ret : Option FieldType} {ws2 : List Cond} {rm : Room} {As av st : List Value} {post : Heap → Prop} (S : CallFix p m c cc nL s args Ts own) (hE : ENV K A s) (hS : va_S A s.heap H locs) {A1 : Nat → Prop} (hsub : ∀ q, A1 q → A q) (hM : Met l y ws2 rm (m_Pc K A1 H av) (va_Qv post m_B A1) mc ms A1) (cw : CallB R s args own index y bytes maxL none ws2 rm mc ms n ∧ y.name = "<init>" ∧ (Cond.instanceMethod y).before args s = true) (hav : av = .ref b :: As) (hn : As.length = n) (hsize : ls.size = nL) (hst : st = As.reverse ++ .ref b :: rest) (hcat : (rest.map fun v => v.category).sum ≤ 8) (hdg : decode cc pc = .ok (.invokespecial index, 3)) (hf : cells + mc ≤ R.cells ∧ slots + ms ≤ R.slots)  (kk : ∀ (H1 : Heap) (locs1 : List Loc), post H1 → va_S A s.heap H1 locs1 → (∀ q : Nat, q < H.size → ¬ A1 q → H1[q]? = H[q]?) → W p l e R s m args below meth c H1 locs1 (cells + mc) (slots + ms) Q (F0 m (pc + 3) ls (rest))) : W p l e R s m args below meth c H locs cells slots Q (F0 m pc ls (st)) := by
  subst hav
  exact va_callv (va_runI (As := As) (rest := rest) S hM cw ⟨m_blind, fun U hU hW => ⟨rfl, hU, (hE.warm hS hU hW).narrow hsub⟩⟩ rfl hn hsize hst (lv_room hcat) hdg hf) hS (fun q _ h => hsub q h) (fun q h => hsub q h) (fun u t H1 locs1 ht hvm hp hB hz hk hS1 => by
    have e : H1 = u := ht.symm.trans hB
    subst e
    exact kk H1 locs1 hp hS1 hk)
theorem m_cWi {Ts : List Cond} {own : String} {index maxL nL mc ms n : Nat} {y : MethodName} {bytes : ByteArray} {ret : Option FieldType} {ws2 : List Cond} {rm : Room} {As av st : List Value} {hh : List (Nat × Nat × Nat × Nat)} {post : Int32 → Heap → Prop} (S : CallFix p m c cc nL s args Ts own) (hE : ENV K A s) (hS : va_S A s.heap H locs) {A1 : Nat → Prop} (hsub : ∀ q, A1 q → A q) (hM : Met l y ws2 rm (m_Pc K A1 H av) (va_Qi post m_B A1) mc ms A1) (cw : vx_CSW R s args own index y bytes maxL ret hh ws2 rm mc ms n) (hav : As = av) (hn : As.length = n) (hsize : ls.size = nL) (hst : st = As.reverse ++ rest) (hcat : (rest.map fun v => v.category).sum ≤ 8) (hdg : decode cc pc = .ok (.invokestatic index, 3)) (hf : cells + mc ≤ R.cells ∧ slots + ms ≤ R.slots)  (kk : ∀ (r : Int32) (H1 : Heap) (locs1 : List Loc), post r H1 → va_S A s.heap H1 locs1 → (∀ q : Nat, q < H.size → ¬ A1 q → H1[q]? = H[q]?) → W p l e R s m args below meth c H1 locs1 (cells + mc) (slots + ms) Q (F0 m (pc + 3) ls (.int r :: rest))) : W p l e R s m args below meth c H locs cells slots Q (F0 m pc ls (st)) := by
  subst hav
  exact va_calli (vx_runSW (As := As) (rest := rest) S hM cw ⟨m_blind, fun U hU hW => ⟨rfl, hU, (hE.warm hS hU hW).narrow hsub⟩⟩ rfl hn hsize hst (lv_room hcat) hdg hf) hS (fun q _ h => hsub q h) (fun q h => hsub q h) (fun r u t H1 locs1 ht hvm hp hB hz hk hS1 => by
    have e : H1 = u := ht.symm.trans hB
    subst e
    exact kk r H1 locs1 hp hS1 hk)
theorem m_iret {post : Int32 → Heap → Prop} {mc ms : Nat} {v : Int32} (hx : p.tables.exec = Jvm.exec) (hb : c.code = cc) (hr : meth.sig.returnType = some .int) (hlk : meth.locks = false) (hS : va_S A s.heap H locs) (hc : cells ≤ mc) (hs : slots ≤ ms) (d : decode cc pc = .ok (.ireturn, 1)) (hp : post v H) : W p l e R s m args below meth c H locs cells slots (MQ below (va_Qi post m_B A) args s mc ms A) (F0 m pc ls [.int v]) := W.widen hc hs (W.iret hx hb hr (fun t ht _ => ⟨⟨v, H, rfl, hp, ht⟩, hS.F ht⟩) hS.2.2 d hlk)
theorem m_zret {post : Int32 → Heap → Prop} {mc ms : Nat} {b : Bool} (hx : p.tables.exec = Jvm.exec) (hb : c.code = cc) (hr : meth.sig.returnType = some .boolean) (hlk : meth.locks = false) (hS : va_S A s.heap H locs) (hc : cells ≤ mc) (hs : slots ≤ ms) (d : decode cc pc = .ok (.ireturn, 1)) (hp : post (bI b) H) : W p l e R s m args below meth c H locs cells slots (MQ below (va_Qi post m_B A) args s mc ms A) (F0 m pc ls [.int (bI b)]) := W.widen hc hs (W.zret hx hb hr (by cases b <;> rfl) (fun t ht _ => ⟨⟨bI b, H, rfl, hp, ht⟩, hS.F ht⟩) hS.2.2 d hlk)
theorem m_vret {post : Heap → Prop} {mc ms : Nat} (hx : p.tables.exec = Jvm.exec) (hb : c.code = cc) (hr : meth.sig.returnType = none) (hlk : meth.locks = false) (hS : va_S A s.heap H locs) (hc : cells ≤ mc) (hs : slots ≤ ms) (d : decode cc pc = .ok (.return_, 1)) (hp : post H) : W p l e R s m args below meth c H locs cells slots (MQ below (va_Qv post m_B A) args s mc ms A) (F0 m pc ls []) := W.widen hc hs (W.vret hx hb hr (fun t ht _ => ⟨⟨H, rfl, hp, ht⟩, hS.F ht⟩) hS.2.2 d hlk)
theorem m_qret {post : Option Nat → Heap → Prop} {mc ms : Nat} {r : Option Nat} {rt : FieldType} (hx : p.tables.exec = Jvm.exec) (hb : c.code = cc) (hr : meth.sig.returnType = some rt) (hrt : (∃ n, rt = .object n) ∨ ∃ t, rt = .array t) (hlk : meth.locks = false) (hS : va_S A s.heap H locs) (hc : cells ≤ mc) (hs : slots ≤ ms) (d : decode cc pc = .ok (.areturn, 1)) (hp : post r H) : W p l e R s m args below meth c H locs cells slots (MQ below (va_Qq post m_B A) args s mc ms A) (F0 m pc ls [va_rf r]) := W.widen hc hs (W.aret hx hb hr hrt (va_rf_or r) (fun t ht _ => ⟨⟨r, H, rfl, hp, ht⟩, hS.F ht⟩) hS.2.2 d hlk)
end MB
end
section
/-! WHAT A STATE IS: forms, pairs, and small facts about whole numbers -/
def okN (x : Int32) (n : Nat) : Prop := 0 ≤ x.toInt ∧ x.toInt < n
theorem okN_nI {k n : Nat} (h : k < n) (hn : n < 2147483648) : okN (nI k) n := by
  unfold okN
  rw [nI_toInt (by omega)]
  omega
theorem okN_of {x : Int32} {n : Nat} (h : okN x n) (hn : n < 2147483648) : ∃ k, k < n ∧ x = nI k := by
  obtain ⟨h1, h2⟩ := h
  have h3 : ¬ x < 0 := fun q => by
    have := Int32.lt_iff_toInt_lt.mp q
    simp at this
    omega
  obtain ⟨j, hj, e⟩ := nI_of h3
  subst e
  rw [nI_toInt hj] at h2
  exact ⟨j, by omega, rfl⟩
theorem okN_in {x : Int32} {n : Nat} (hn : n < 2147483648) (h1 : ¬ x < 0) (h2 : ¬ nI n ≤ x) : okN x n := by
  obtain ⟨j, hj, e⟩ := nI_of h1
  subst e
  exact okN_nI (Nat.lt_of_not_le fun q => h2 ((nI_leI hn hj).mpr q)) hn
theorem okN_lo {x : Int32} {n : Nat} (h : x < 0) : ¬ okN x n := fun q => by
  have := Int32.lt_iff_toInt_lt.mp h
  have h2 := q.1
  simp at this
  omega
theorem okN_hi {x : Int32} {n : Nat} (hn : n < 2147483648) (h : nI n ≤ x) : ¬ okN x n := fun q => by
  have := Int32.le_iff_toInt_le.mp h
  rw [nI_toInt hn] at this
  have h2 := q.2
  omega
theorem okN_nI_iff {k n : Nat} (hk : k < 2147483648) : okN (nI k) n ↔ k < n := by
  unfold okN
  rw [nI_toInt hk]
  omega
end
section
theorem m_gIO_X2_requireForm : ∀ w ∈ (vx_atS RX2 62 m_IO m_RT).filter goodWord, w ∈ wsX2_requireForm := by decide +kernel
theorem m_gIO_X2_requireGender : ∀ w ∈ (vx_atS RX2 62 m_IO m_RT).filter goodWord, w ∈ wsX2_requireGender := by decide +kernel
theorem m_gIO_X2_requireKey : ∀ w ∈ (vx_atS RX2 62 m_IO m_RT).filter goodWord, w ∈ wsX2_requireKey := by decide +kernel
theorem m_gIO_X2_requireLanguage : ∀ w ∈ (vx_atS RX2 62 m_IO m_RT).filter goodWord, w ∈ wsX2_requireLanguage := by decide +kernel
theorem m_gIA_X2_requireNumber : ∀ w ∈ (vx_atS RX2 73 m_IA m_RT).filter goodWord, w ∈ wsX2_requireNumber := by decide +kernel
theorem m_gIA_X2_requireNumberLimit : ∀ w ∈ (vx_atS RX2 73 m_IA m_RT).filter goodWord, w ∈ wsX2_requireNumberLimit := by decide +kernel
set_option maxHeartbeats 4000000 in
set_option maxRecDepth 100000 in
/-- requireKey: in range, or IndexOutOfBoundsException -/
theorem kX2_requireKey (l : Launch) (hl0 : l.stackTraces = false) (K : m_K) (A : Nat → Prop) (H0 : Heap) (x : Int32) : vx_Met l yX2_requireKey wsX2_requireKey ({ frames := 6, cells := 1, slots := 6, locals := 84 } : Room) (m_Pc K A H0 [.int x]) (va_Qv (fun H1 => H0 = H1 ∧ okN x 10) m_B A) (m_X (fun E => E = m_IO ∧ ¬ okN x 10) H0 A) 1 6 A := by
  refine m_ofX (by decide) rfl (Nat.le_of_ble_eq_true rfl) ?_
  intro p e s m args below meth c ls hx hb hr hml hown hts hlk hnm htab hE hS hl
  have hl : lv_has ls 1 [(0, .int x)] := hl
  have k58 := hts (.classLink RX2 58 m_IO) (by decide +kernel)
  have kk58 := hts (.initialized m_IO) (by decide +kernel)
  have kg58 : ∀ w ∈ (vx_atS RX2 62 m_IO m_RT).filter goodWord, w.before args s = true := fun w hw => hts w (m_gIO_X2_requireKey w hw)
  refine lv_iload_n hx hb dX2_requireKey_0 rfl (lv_at hl 0 rfl) ?_
  refine lv_if_lt (tgt := 10) hx hb dX2_requireKey_1 (by decide) (fun c_1 => ?_) (fun c_1 => ?_)
  · exact m_thrIO (is := 180) (text := "there is no such key") hx hb hl0 hown hE k58 kk58 kg58 (by decide +kernel) hS m_same.rf (hl.1.trans hml.symm) dX2_requireKey_10 dX2_requireKey_13 dX2_requireKey_14 dX2_requireKey_16 dX2_requireKey_19 htab hlk (Nat.le_of_ble_eq_true rfl) (Nat.le_of_ble_eq_true rfl) (Nat.le_of_ble_eq_true rfl) (Nat.le_of_ble_eq_true rfl) (⟨rfl, okN_lo c_1⟩) (Nat.le_of_ble_eq_true rfl) (Nat.le_of_ble_eq_true rfl)
  · refine lv_iload_n hx hb dX2_requireKey_4 rfl (lv_at hl 0 rfl) ?_
    refine lv_bipush (v := nI 10) hx hb dX2_requireKey_5 (by decide) ?_
    refine lv_icmp_lt (tgt := 20) hx hb dX2_requireKey_7 (by decide) (fun c_7 => ?_) (fun c_7 => ?_)
    · exact vx_ret (m_vret hx hb hr hlk hS (Nat.le_of_ble_eq_true rfl) (Nat.le_of_ble_eq_true rfl) dX2_requireKey_20 (⟨rfl, okN_in (by decide) c_1 (fun q => (Int32.not_lt.mpr q) c_7)⟩))
    · exact m_thrIO (is := 180) (text := "there is no such key") hx hb hl0 hown hE k58 kk58 kg58 (by decide +kernel) hS m_same.rf (hl.1.trans hml.symm) dX2_requireKey_10 dX2_requireKey_13 dX2_requireKey_14 dX2_requireKey_16 dX2_requireKey_19 htab hlk (Nat.le_of_ble_eq_true rfl) (Nat.le_of_ble_eq_true rfl) (Nat.le_of_ble_eq_true rfl) (Nat.le_of_ble_eq_true rfl) (⟨rfl, okN_hi (by decide) (Int32.not_lt.mp c_7)⟩) (Nat.le_of_ble_eq_true rfl) (Nat.le_of_ble_eq_true rfl)

set_option maxHeartbeats 4000000 in
set_option maxRecDepth 100000 in
/-- requireLanguage: in range, or IndexOutOfBoundsException -/
theorem kX2_requireLanguage (l : Launch) (hl0 : l.stackTraces = false) (K : m_K) (A : Nat → Prop) (H0 : Heap) (x : Int32) : vx_Met l yX2_requireLanguage wsX2_requireLanguage ({ frames := 6, cells := 1, slots := 6, locals := 84 } : Room) (m_Pc K A H0 [.int x]) (va_Qv (fun H1 => H0 = H1 ∧ okN x 6) m_B A) (m_X (fun E => E = m_IO ∧ ¬ okN x 6) H0 A) 1 6 A := by
  refine m_ofX (by decide) rfl (Nat.le_of_ble_eq_true rfl) ?_
  intro p e s m args below meth c ls hx hb hr hml hown hts hlk hnm htab hE hS hl
  have hl : lv_has ls 1 [(0, .int x)] := hl
  have k58 := hts (.classLink RX2 58 m_IO) (by decide +kernel)
  have kk58 := hts (.initialized m_IO) (by decide +kernel)
  have kg58 : ∀ w ∈ (vx_atS RX2 62 m_IO m_RT).filter goodWord, w.before args s = true := fun w hw => hts w (m_gIO_X2_requireLanguage w hw)
  refine lv_iload_n hx hb dX2_requireLanguage_0 rfl (lv_at hl 0 rfl) ?_
  refine lv_if_lt (tgt := 10) hx hb dX2_requireLanguage_1 (by decide) (fun c_1 => ?_) (fun c_1 => ?_)
  · exact m_thrIO (is := 182) (text := "there is no such language") hx hb hl0 hown hE k58 kk58 kg58 (by decide +kernel) hS m_same.rf (hl.1.trans hml.symm) dX2_requireLanguage_10 dX2_requireLanguage_13 dX2_requireLanguage_14 dX2_requireLanguage_16 dX2_requireLanguage_19 htab hlk (Nat.le_of_ble_eq_true rfl) (Nat.le_of_ble_eq_true rfl) (Nat.le_of_ble_eq_true rfl) (Nat.le_of_ble_eq_true rfl) (⟨rfl, okN_lo c_1⟩) (Nat.le_of_ble_eq_true rfl) (Nat.le_of_ble_eq_true rfl)
  · refine lv_iload_n hx hb dX2_requireLanguage_4 rfl (lv_at hl 0 rfl) ?_
    refine lv_bipush (v := nI 6) hx hb dX2_requireLanguage_5 (by decide) ?_
    refine lv_icmp_lt (tgt := 20) hx hb dX2_requireLanguage_7 (by decide) (fun c_7 => ?_) (fun c_7 => ?_)
    · exact vx_ret (m_vret hx hb hr hlk hS (Nat.le_of_ble_eq_true rfl) (Nat.le_of_ble_eq_true rfl) dX2_requireLanguage_20 (⟨rfl, okN_in (by decide) c_1 (fun q => (Int32.not_lt.mpr q) c_7)⟩))
    · exact m_thrIO (is := 182) (text := "there is no such language") hx hb hl0 hown hE k58 kk58 kg58 (by decide +kernel) hS m_same.rf (hl.1.trans hml.symm) dX2_requireLanguage_10 dX2_requireLanguage_13 dX2_requireLanguage_14 dX2_requireLanguage_16 dX2_requireLanguage_19 htab hlk (Nat.le_of_ble_eq_true rfl) (Nat.le_of_ble_eq_true rfl) (Nat.le_of_ble_eq_true rfl) (Nat.le_of_ble_eq_true rfl) (⟨rfl, okN_hi (by decide) (Int32.not_lt.mp c_7)⟩) (Nat.le_of_ble_eq_true rfl) (Nat.le_of_ble_eq_true rfl)

set_option maxHeartbeats 4000000 in
set_option maxRecDepth 100000 in
/-- requireGender: in range, or IndexOutOfBoundsException -/
theorem kX2_requireGender (l : Launch) (hl0 : l.stackTraces = false) (K : m_K) (A : Nat → Prop) (H0 : Heap) (x : Int32) : vx_Met l yX2_requireGender wsX2_requireGender ({ frames := 6, cells := 1, slots := 6, locals := 84 } : Room) (m_Pc K A H0 [.int x]) (va_Qv (fun H1 => H0 = H1 ∧ okN x 3) m_B A) (m_X (fun E => E = m_IO ∧ ¬ okN x 3) H0 A) 1 6 A := by
  refine m_ofX (by decide) rfl (Nat.le_of_ble_eq_true rfl) ?_
  intro p e s m args below meth c ls hx hb hr hml hown hts hlk hnm htab hE hS hl
  have hl : lv_has ls 1 [(0, .int x)] := hl
  have k58 := hts (.classLink RX2 58 m_IO) (by decide +kernel)
  have kk58 := hts (.initialized m_IO) (by decide +kernel)
  have kg58 : ∀ w ∈ (vx_atS RX2 62 m_IO m_RT).filter goodWord, w.before args s = true := fun w hw => hts w (m_gIO_X2_requireGender w hw)
  refine lv_iload_n hx hb dX2_requireGender_0 rfl (lv_at hl 0 rfl) ?_
  refine lv_if_lt (tgt := 9) hx hb dX2_requireGender_1 (by decide) (fun c_1 => ?_) (fun c_1 => ?_)
  · exact m_thrIO (is := 184) (text := "there is no such gender") hx hb hl0 hown hE k58 kk58 kg58 (by decide +kernel) hS m_same.rf (hl.1.trans hml.symm) dX2_requireGender_9 dX2_requireGender_12 dX2_requireGender_13 dX2_requireGender_15 dX2_requireGender_18 htab hlk (Nat.le_of_ble_eq_true rfl) (Nat.le_of_ble_eq_true rfl) (Nat.le_of_ble_eq_true rfl) (Nat.le_of_ble_eq_true rfl) (⟨rfl, okN_lo c_1⟩) (Nat.le_of_ble_eq_true rfl) (Nat.le_of_ble_eq_true rfl)
  · refine lv_iload_n hx hb dX2_requireGender_4 rfl (lv_at hl 0 rfl) ?_
    refine lv_iconst (v := nI 3) hx hb dX2_requireGender_5 (by decide) ?_
    refine lv_icmp_lt (tgt := 19) hx hb dX2_requireGender_6 (by decide) (fun c_6 => ?_) (fun c_6 => ?_)
    · exact vx_ret (m_vret hx hb hr hlk hS (Nat.le_of_ble_eq_true rfl) (Nat.le_of_ble_eq_true rfl) dX2_requireGender_19 (⟨rfl, okN_in (by decide) c_1 (fun q => (Int32.not_lt.mpr q) c_6)⟩))
    · exact m_thrIO (is := 184) (text := "there is no such gender") hx hb hl0 hown hE k58 kk58 kg58 (by decide +kernel) hS m_same.rf (hl.1.trans hml.symm) dX2_requireGender_9 dX2_requireGender_12 dX2_requireGender_13 dX2_requireGender_15 dX2_requireGender_18 htab hlk (Nat.le_of_ble_eq_true rfl) (Nat.le_of_ble_eq_true rfl) (Nat.le_of_ble_eq_true rfl) (Nat.le_of_ble_eq_true rfl) (⟨rfl, okN_hi (by decide) (Int32.not_lt.mp c_6)⟩) (Nat.le_of_ble_eq_true rfl) (Nat.le_of_ble_eq_true rfl)

theorem lim_gt {x : Int32} (h : ¬ x ≤ nI 100) : nI 101 ≤ x := by
  have h1 := Int32.not_le.mp h
  rw [Int32.lt_iff_toInt_lt, nI_toInt (by decide)] at h1
  rw [Int32.le_iff_toInt_le, nI_toInt (by decide)]
  omega
theorem lim_le {x : Int32} (h : x ≤ nI 100) (q : nI 101 ≤ x) : False := by
  rw [Int32.le_iff_toInt_le, nI_toInt (by decide)] at h q
  omega

set_option maxHeartbeats 4000000 in
set_option maxRecDepth 100000 in
/-- requireNumberLimit -/
theorem kX2_requireNumberLimit (l : Launch) (hl0 : l.stackTraces = false) (K : m_K) (A : Nat → Prop) (H0 : Heap) (x : Int32) : vx_Met l yX2_requireNumberLimit wsX2_requireNumberLimit ({ frames := 6, cells := 1, slots := 6, locals := 84 } : Room) (m_Pc K A H0 [.int x]) (va_Qv (fun H1 => H0 = H1 ∧ okN x 101) m_B A) (m_X (fun E => E = m_IA ∧ ¬ okN x 101) H0 A) 1 6 A := by
  refine m_ofX (by decide) rfl (Nat.le_of_ble_eq_true rfl) ?_
  intro p e s m args below meth c ls hx hb hr hml hown hts hlk hnm htab hE hS hl
  have hl : lv_has ls 1 [(0, .int x)] := hl
  have k69 := hts (.classLink RX2 69 m_IA) (by decide +kernel)
  have kk69 := hts (.initialized m_IA) (by decide +kernel)
  have kg69 : ∀ w ∈ (vx_atS RX2 73 m_IA m_RT).filter goodWord, w.before args s = true := fun w hw => hts w (m_gIA_X2_requireNumberLimit w hw)
  refine lv_iload_n hx hb dX2_requireNumberLimit_0 rfl (lv_at hl 0 rfl) ?_
  refine lv_if_lt (tgt := 10) hx hb dX2_requireNumberLimit_1 (by decide) (fun c_1 => ?_) (fun c_1 => ?_)
  · exact m_thrIA (is := 193) (text := "ones and few are 0 to 100") hx hb hl0 hown hE k69 kk69 kg69 (by decide +kernel) hS m_same.rf (hl.1.trans hml.symm) dX2_requireNumberLimit_10 dX2_requireNumberLimit_13 dX2_requireNumberLimit_14 dX2_requireNumberLimit_16 dX2_requireNumberLimit_19 htab hlk (Nat.le_of_ble_eq_true rfl) (Nat.le_of_ble_eq_true rfl) (Nat.le_of_ble_eq_true rfl) (Nat.le_of_ble_eq_true rfl) (⟨rfl, okN_lo c_1⟩) (Nat.le_of_ble_eq_true rfl) (Nat.le_of_ble_eq_true rfl)
  · refine lv_iload_n hx hb dX2_requireNumberLimit_4 rfl (lv_at hl 0 rfl) ?_
    refine lv_bipush (v := nI 100) hx hb dX2_requireNumberLimit_5 (by decide) ?_
    refine lv_icmp_le (tgt := 20) hx hb dX2_requireNumberLimit_7 (by decide) (fun c_7 => ?_) (fun c_7 => ?_)
    · exact vx_ret (m_vret hx hb hr hlk hS (Nat.le_of_ble_eq_true rfl) (Nat.le_of_ble_eq_true rfl) dX2_requireNumberLimit_20 (⟨rfl, okN_in (by decide) c_1 (fun q => lim_le c_7 q)⟩))
    · exact m_thrIA (is := 193) (text := "ones and few are 0 to 100") hx hb hl0 hown hE k69 kk69 kg69 (by decide +kernel) hS m_same.rf (hl.1.trans hml.symm) dX2_requireNumberLimit_10 dX2_requireNumberLimit_13 dX2_requireNumberLimit_14 dX2_requireNumberLimit_16 dX2_requireNumberLimit_19 htab hlk (Nat.le_of_ble_eq_true rfl) (Nat.le_of_ble_eq_true rfl) (Nat.le_of_ble_eq_true rfl) (Nat.le_of_ble_eq_true rfl) (⟨rfl, okN_hi (by decide) (lim_gt c_7)⟩) (Nat.le_of_ble_eq_true rfl) (Nat.le_of_ble_eq_true rfl)

theorem num_neg {x : Int32} (h : ¬ 0 ≤ x) : ¬ okN x 2147483648 := okN_lo (Int32.not_le.mp h)
theorem num_pos {x : Int32} (h : 0 ≤ x) : okN x 2147483648 := by
  rw [Int32.le_iff_toInt_le] at h
  exact ⟨by simpa using h, by have := x.toInt_lt; omega⟩

set_option maxHeartbeats 4000000 in
set_option maxRecDepth 100000 in
/-- requireNumber: 0 or more -/
theorem kX2_requireNumber (l : Launch) (hl0 : l.stackTraces = false) (K : m_K) (A : Nat → Prop) (H0 : Heap) (x : Int32) : vx_Met l yX2_requireNumber wsX2_requireNumber ({ frames := 6, cells := 1, slots := 6, locals := 84 } : Room) (m_Pc K A H0 [.int x]) (va_Qv (fun H1 => H0 = H1 ∧ okN x 2147483648) m_B A) (m_X (fun E => E = m_IA ∧ ¬ okN x 2147483648) H0 A) 1 6 A := by
  refine m_ofX (by decide) rfl (Nat.le_of_ble_eq_true rfl) ?_
  intro p e s m args below meth c ls hx hb hr hml hown hts hlk hnm htab hE hS hl
  have hl : lv_has ls 1 [(0, .int x)] := hl
  have k69 := hts (.classLink RX2 69 m_IA) (by decide +kernel)
  have kk69 := hts (.initialized m_IA) (by decide +kernel)
  have kg69 : ∀ w ∈ (vx_atS RX2 73 m_IA m_RT).filter goodWord, w.before args s = true := fun w hw => hts w (m_gIA_X2_requireNumber w hw)
  refine lv_iload_n hx hb dX2_requireNumber_0 rfl (lv_at hl 0 rfl) ?_
  refine lv_if_ge (tgt := 14) hx hb dX2_requireNumber_1 (by decide) (fun c_1 => ?_) (fun c_1 => ?_)
  · exact vx_ret (m_vret hx hb hr hlk hS (Nat.le_of_ble_eq_true rfl) (Nat.le_of_ble_eq_true rfl) dX2_requireNumber_14 (⟨rfl, num_pos c_1⟩))
  · exact m_thrIA (is := 191) (text := "a number is not below 0") hx hb hl0 hown hE k69 kk69 kg69 (by decide +kernel) hS m_same.rf (hl.1.trans hml.symm) dX2_requireNumber_4 dX2_requireNumber_7 dX2_requireNumber_8 dX2_requireNumber_10 dX2_requireNumber_13 htab hlk (Nat.le_of_ble_eq_true rfl) (Nat.le_of_ble_eq_true rfl) (Nat.le_of_ble_eq_true rfl) (Nat.le_of_ble_eq_true rfl) (⟨rfl, num_neg c_1⟩) (Nat.le_of_ble_eq_true rfl) (Nat.le_of_ble_eq_true rfl)

def okF (x y z u : Int32) : Prop := okN x 10 ∧ okN y 6 ∧ okN z 3 ∧ okN u 3
def okQ (x y u : Int32) : Prop := okN x 10 ∧ okN y 6 ∧ okN u 3

set_option maxHeartbeats 4000000 in
set_option maxRecDepth 100000 in
/-- requireForm -/
theorem kX2_requireForm (l : Launch) (hl0 : l.stackTraces = false) (K : m_K) (A : Nat → Prop) (H0 : Heap) (x y z u : Int32) : vx_Met l yX2_requireForm wsX2_requireForm ({ frames := 7, cells := 4, slots := 24, locals := 104 } : Room) (m_Pc K A H0 [.int x, .int y, .int z, .int u]) (va_Qv (fun H1 => H0 = H1 ∧ okF x y z u) m_B A) (m_X (fun E => E = m_IO ∧ ¬ okF x y z u) H0 A) 4 24 A := by
  refine m_ofX (by decide) rfl (Nat.le_of_ble_eq_true rfl) ?_
  intro p e s m args below meth c ls hx hb hr hml hown hts hlk hnm htab hE hS hl
  have hl : lv_has ls 4 [(0, .int x), (1, .int y), (2, .int z), (3, .int u)] := hl
  have k58 := hts (.classLink RX2 58 m_IO) (by decide +kernel)
  have kk58 := hts (.initialized m_IO) (by decide +kernel)
  have kg58 : ∀ w ∈ (vx_atS RX2 62 m_IO m_RT).filter goodWord, w.before args s = true := fun w hw => hts w (m_gIO_X2_requireForm w hw)
  refine lv_iload_n hx hb dX2_requireForm_0 rfl (lv_at hl 0 rfl) ?_
  refine m_xSv (rest := []) ⟨hx, hb, hml, hown, hts⟩ hE hS (fun _ h => h) (kX2_requireKey l hl0 K A H0 x) (va_cwS 1 hts gX2_requireForm_X2_requireKey rfl rfl rfl (by decide +kernel) ⟨Nat.le_of_ble_eq_true rfl, Nat.le_of_ble_eq_true rfl⟩) rfl rfl hl.1 rfl (Nat.le_of_ble_eq_true rfl) dX2_requireForm_1 ⟨Nat.le_of_ble_eq_true rfl, Nat.le_of_ble_eq_true rfl⟩ (fun E ce q9 H1 locs1 hx9 hs9 hS9 g1 g2 g3 => m_out htab hlk (⟨hx9.1, fun q => hx9.2 q.1⟩) hs9 hS9 g1 g2 g3 (Nat.le_of_ble_eq_true rfl) (Nat.le_of_ble_eq_true rfl)) (fun H1 locs hp hS hk => ?_)
  obtain ⟨rfl, h1⟩ := hp
  refine lv_iload_n hx hb dX2_requireForm_4 rfl (lv_at hl 1 rfl) ?_
  refine m_xSv (rest := []) ⟨hx, hb, hml, hown, hts⟩ hE hS (fun _ h => h) (kX2_requireLanguage l hl0 K A H0 y) (va_cwS 1 hts gX2_requireForm_X2_requireLanguage rfl rfl rfl (by decide +kernel) ⟨Nat.le_of_ble_eq_true rfl, Nat.le_of_ble_eq_true rfl⟩) rfl rfl hl.1 rfl (Nat.le_of_ble_eq_true rfl) dX2_requireForm_5 ⟨Nat.le_of_ble_eq_true rfl, Nat.le_of_ble_eq_true rfl⟩ (fun E ce q9 H1 locs1 hx9 hs9 hS9 g1 g2 g3 => m_out htab hlk (⟨hx9.1, fun q => hx9.2 q.2.1⟩) hs9 hS9 g1 g2 g3 (Nat.le_of_ble_eq_true rfl) (Nat.le_of_ble_eq_true rfl)) (fun H1 locs hp hS hk => ?_)
  obtain ⟨rfl, h2⟩ := hp
  refine lv_iload_n hx hb dX2_requireForm_8 rfl (lv_at hl 2 rfl) ?_
  refine lv_if_lt (tgt := 17) hx hb dX2_requireForm_9 (by decide) (fun c_9 => ?_) (fun c_9 => ?_)
  · exact m_thrIO (is := 186) (text := "there is no such number class") hx hb hl0 hown hE k58 kk58 kg58 (by decide +kernel) hS m_same.rf (hl.1.trans hml.symm) dX2_requireForm_17 dX2_requireForm_20 dX2_requireForm_21 dX2_requireForm_23 dX2_requireForm_26 htab hlk (Nat.le_of_ble_eq_true rfl) (Nat.le_of_ble_eq_true rfl) (Nat.le_of_ble_eq_true rfl) (Nat.le_of_ble_eq_true rfl) (⟨rfl, fun q => okN_lo c_9 q.2.2.1⟩) (Nat.le_of_ble_eq_true rfl) (Nat.le_of_ble_eq_true rfl)
  · refine lv_iload_n hx hb dX2_requireForm_12 rfl (lv_at hl 2 rfl) ?_
    refine lv_iconst (v := nI 3) hx hb dX2_requireForm_13 (by decide) ?_
    refine lv_icmp_lt (tgt := 27) hx hb dX2_requireForm_14 (by decide) (fun c_14 => ?_) (fun c_14 => ?_)
    · refine lv_iload_n hx hb dX2_requireForm_27 rfl (lv_at hl 3 rfl) ?_
      refine m_xSv (rest := []) ⟨hx, hb, hml, hown, hts⟩ hE hS (fun _ h => h) (kX2_requireGender l hl0 K A H0 u) (va_cwS 1 hts gX2_requireForm_X2_requireGender rfl rfl rfl (by decide +kernel) ⟨Nat.le_of_ble_eq_true rfl, Nat.le_of_ble_eq_true rfl⟩) rfl rfl hl.1 rfl (Nat.le_of_ble_eq_true rfl) dX2_requireForm_28 ⟨Nat.le_of_ble_eq_true rfl, Nat.le_of_ble_eq_true rfl⟩ (fun E ce q9 H1 locs1 hx9 hs9 hS9 g1 g2 g3 => m_out htab hlk (⟨hx9.1, fun q => hx9.2 q.2.2.2⟩) hs9 hS9 g1 g2 g3 (Nat.le_of_ble_eq_true rfl) (Nat.le_of_ble_eq_true rfl)) (fun H1 locs hp hS hk => ?_)
      obtain ⟨rfl, h4⟩ := hp
      exact vx_ret (m_vret hx hb hr hlk hS (Nat.le_of_ble_eq_true rfl) (Nat.le_of_ble_eq_true rfl) dX2_requireForm_31 (⟨rfl, h1, h2, okN_in (by decide) c_9 (fun q => (Int32.not_lt.mpr q) c_14), h4⟩))
    · exact m_thrIO (is := 186) (text := "there is no such number class") hx hb hl0 hown hE k58 kk58 kg58 (by decide +kernel) hS m_same.rf (hl.1.trans hml.symm) dX2_requireForm_17 dX2_requireForm_20 dX2_requireForm_21 dX2_requireForm_23 dX2_requireForm_26 htab hlk (Nat.le_of_ble_eq_true rfl) (Nat.le_of_ble_eq_true rfl) (Nat.le_of_ble_eq_true rfl) (Nat.le_of_ble_eq_true rfl) (⟨rfl, fun q => okN_hi (by decide) (Int32.not_lt.mp c_14) q.2.2.1⟩) (Nat.le_of_ble_eq_true rfl) (Nat.le_of_ble_eq_true rfl)

set_option maxHeartbeats 4000000 in
set_option maxRecDepth 100000 in
/-- requireQuestion: the number comes last -/
theorem kX2_requireQuestion (l : Launch) (hl0 : l.stackTraces = false) (K : m_K) (A : Nat → Prop) (H0 : Heap) (x y z u : Int32) : vx_Met l yX2_requireQuestion wsX2_requireQuestion ({ frames := 7, cells := 4, slots := 24, locals := 104 } : Room) (m_Pc K A H0 [.int x, .int y, .int z, .int u]) (va_Qv (fun H1 => H0 = H1 ∧ okQ x y u ∧ okN z 2147483648) m_B A) (m_X (fun E => (E = m_IO ∧ ¬ okQ x y u) ∨ (E = m_IA ∧ okQ x y u ∧ ¬ okN z 2147483648)) H0 A) 4 24 A := by
  refine m_ofX (by decide) rfl (Nat.le_of_ble_eq_true rfl) ?_
  intro p e s m args below meth c ls hx hb hr hml hown hts hlk hnm htab hE hS hl
  have hl : lv_has ls 4 [(0, .int x), (1, .int y), (2, .int z), (3, .int u)] := hl
  refine lv_iload_n hx hb dX2_requireQuestion_0 rfl (lv_at hl 0 rfl) ?_
  refine m_xSv (rest := []) ⟨hx, hb, hml, hown, hts⟩ hE hS (fun _ h => h) (kX2_requireKey l hl0 K A H0 x) (va_cwS 1 hts gX2_requireQuestion_X2_requireKey rfl rfl rfl (by decide +kernel) ⟨Nat.le_of_ble_eq_true rfl, Nat.le_of_ble_eq_true rfl⟩) rfl rfl hl.1 rfl (Nat.le_of_ble_eq_true rfl) dX2_requireQuestion_1 ⟨Nat.le_of_ble_eq_true rfl, Nat.le_of_ble_eq_true rfl⟩ (fun E ce q9 H1 locs1 hx9 hs9 hS9 g1 g2 g3 => m_out htab hlk (Or.inl ⟨hx9.1, fun q => hx9.2 q.1⟩) hs9 hS9 g1 g2 g3 (Nat.le_of_ble_eq_true rfl) (Nat.le_of_ble_eq_true rfl)) (fun H1 locs hp hS hk => ?_)
  obtain ⟨rfl, h1⟩ := hp
  refine lv_iload_n hx hb dX2_requireQuestion_4 rfl (lv_at hl 1 rfl) ?_
  refine m_xSv (rest := []) ⟨hx, hb, hml, hown, hts⟩ hE hS (fun _ h => h) (kX2_requireLanguage l hl0 K A H0 y) (va_cwS 1 hts gX2_requireQuestion_X2_requireLanguage rfl rfl rfl (by decide +kernel) ⟨Nat.le_of_ble_eq_true rfl, Nat.le_of_ble_eq_true rfl⟩) rfl rfl hl.1 rfl (Nat.le_of_ble_eq_true rfl) dX2_requireQuestion_5 ⟨Nat.le_of_ble_eq_true rfl, Nat.le_of_ble_eq_true rfl⟩ (fun E ce q9 H1 locs1 hx9 hs9 hS9 g1 g2 g3 => m_out htab hlk (Or.inl ⟨hx9.1, fun q => hx9.2 q.2.1⟩) hs9 hS9 g1 g2 g3 (Nat.le_of_ble_eq_true rfl) (Nat.le_of_ble_eq_true rfl)) (fun H1 locs hp hS hk => ?_)
  obtain ⟨rfl, h2⟩ := hp
  refine lv_iload_n hx hb dX2_requireQuestion_8 rfl (lv_at hl 3 rfl) ?_
  refine m_xSv (rest := []) ⟨hx, hb, hml, hown, hts⟩ hE hS (fun _ h => h) (kX2_requireGender l hl0 K A H0 u) (va_cwS 1 hts gX2_requireQuestion_X2_requireGender rfl rfl rfl (by decide +kernel) ⟨Nat.le_of_ble_eq_true rfl, Nat.le_of_ble_eq_true rfl⟩) rfl rfl hl.1 rfl (Nat.le_of_ble_eq_true rfl) dX2_requireQuestion_9 ⟨Nat.le_of_ble_eq_true rfl, Nat.le_of_ble_eq_true rfl⟩ (fun E ce q9 H1 locs1 hx9 hs9 hS9 g1 g2 g3 => m_out htab hlk (Or.inl ⟨hx9.1, fun q => hx9.2 q.2.2⟩) hs9 hS9 g1 g2 g3 (Nat.le_of_ble_eq_true rfl) (Nat.le_of_ble_eq_true rfl)) (fun H1 locs hp hS hk => ?_)
  obtain ⟨rfl, h4⟩ := hp
  refine lv_iload_n hx hb dX2_requireQuestion_12 rfl (lv_at hl 2 rfl) ?_
  refine m_xSv (rest := []) ⟨hx, hb, hml, hown, hts⟩ hE hS (fun _ h => h) (kX2_requireNumber l hl0 K A H0 z) (va_cwS 1 hts gX2_requireQuestion_X2_requireNumber rfl rfl rfl (by decide +kernel) ⟨Nat.le_of_ble_eq_true rfl, Nat.le_of_ble_eq_true rfl⟩) rfl rfl hl.1 rfl (Nat.le_of_ble_eq_true rfl) dX2_requireQuestion_13 ⟨Nat.le_of_ble_eq_true rfl, Nat.le_of_ble_eq_true rfl⟩ (fun E ce q9 H1 locs1 hx9 hs9 hS9 g1 g2 g3 => m_out htab hlk (Or.inr ⟨hx9.1, ⟨h1, h2, h4⟩, hx9.2⟩) hs9 hS9 g1 g2 g3 (Nat.le_of_ble_eq_true rfl) (Nat.le_of_ble_eq_true rfl)) (fun H1 locs hp hS hk => ?_)
  obtain ⟨rfl, h3⟩ := hp
  exact vx_ret (m_vret hx hb hr hlk hS (Nat.le_of_ble_eq_true rfl) (Nat.le_of_ble_eq_true rfl) dX2_requireQuestion_16 (⟨rfl, ⟨h1, h2, h4⟩, h3⟩))

set_option maxHeartbeats 4000000 in
set_option maxRecDepth 100000 in
/-- textOf -/
theorem kX2_textOf (l : Launch) (K : m_K) (A : Nat → Prop) (H0 : Heap) (k g : Nat) : Met l yX2_textOf wsX2_textOf ({ frames := 0, cells := 0, slots := 0, locals := 0 } : Room) (m_Pc K A H0 [.int (nI k), .int (nI g)]) (va_Qi (fun r H1 => r = nI (k * 6 + g) ∧ H0 = H1) m_B A) 0 0 A := by
  refine m_ofW (by decide) rfl (Nat.le_of_ble_eq_true rfl) ?_
  intro p e s m args below meth c ls hx hb hr hml hown hts hlk hnm hE hS hl
  have hl : lv_has ls 2 [(0, .int (nI k)), (1, .int (nI g))] := hl
  refine lv_iload_n hx hb dX2_textOf_0 rfl (lv_at hl 0 rfl) ?_
  refine lv_bipush (v := nI 6) hx hb dX2_textOf_1 (by decide) ?_
  refine m_imul hx hb dX2_textOf_3 ?_
  refine lv_iload_n hx hb dX2_textOf_4 rfl (lv_at hl 1 rfl) ?_
  refine m_iadd hx hb dX2_textOf_5 ?_
  exact m_iret hx hb hr hlk hS (Nat.le_of_ble_eq_true rfl) (Nat.le_of_ble_eq_true rfl) dX2_textOf_6 (⟨rfl, rfl⟩)

set_option maxHeartbeats 4000000 in
set_option maxRecDepth 100000 in
/-- slotOf -/
theorem kX2_slotOf (l : Launch) (K : m_K) (A : Nat → Prop) (H0 : Heap) (k g i u : Nat) : Met l yX2_slotOf wsX2_slotOf ({ frames := 1, cells := 0, slots := 0, locals := 21 } : Room) (m_Pc K A H0 [.int (nI k), .int (nI g), .int (nI i), .int (nI u)]) (va_Qi (fun r H1 => r = nI ((k * 6 + g) * 9 + i * 3 + u) ∧ H0 = H1) m_B A) 0 0 A := by
  refine m_ofW (by decide) rfl (Nat.le_of_ble_eq_true rfl) ?_
  intro p e s m args below meth c ls hx hb hr hml hown hts hlk hnm hE hS hl
  have hl : lv_has ls 4 [(0, .int (nI k)), (1, .int (nI g)), (2, .int (nI i)), (3, .int (nI u))] := hl
  refine lv_iload_n hx hb dX2_slotOf_0 rfl (lv_at hl 0 rfl) ?_
  refine lv_iload_n hx hb dX2_slotOf_1 rfl (lv_at hl 1 rfl) ?_
  refine m_cSi (rest := []) ⟨hx, hb, hml, hown, hts⟩ hE hS (fun _ h => h) (kX2_textOf l K A H0 k g) (va_cwS 2 hts gX2_slotOf_X2_textOf rfl rfl rfl (by decide +kernel) ⟨Nat.le_of_ble_eq_true rfl, Nat.le_of_ble_eq_true rfl⟩) rfl rfl hl.1 rfl (Nat.le_of_ble_eq_true rfl) dX2_slotOf_2 ⟨Nat.le_of_ble_eq_true rfl, Nat.le_of_ble_eq_true rfl⟩ (fun r H1 locs hp hS hk => ?_)
  obtain ⟨rfl, rfl⟩ := hp
  refine lv_bipush (v := nI 9) hx hb dX2_slotOf_5 (by decide) ?_
  refine m_imul hx hb dX2_slotOf_7 ?_
  refine lv_iload_n hx hb dX2_slotOf_8 rfl (lv_at hl 2 rfl) ?_
  refine lv_iconst (v := nI 3) hx hb dX2_slotOf_9 (by decide) ?_
  refine m_imul hx hb dX2_slotOf_10 ?_
  refine m_iadd hx hb dX2_slotOf_11 ?_
  refine lv_iload_n hx hb dX2_slotOf_12 rfl (lv_at hl 3 rfl) ?_
  refine m_iadd hx hb dX2_slotOf_13 ?_
  exact m_iret hx hb hr hlk hS (Nat.le_of_ble_eq_true rfl) (Nat.le_of_ble_eq_true rfl) dX2_slotOf_14 (⟨rfl, rfl⟩)

theorem nI_m1 {k : Nat} (h : k < 2147483648) : ¬ nI k = -1 := fun q => by
  have h1 := congrArg Int32.toInt q
  rw [nI_toInt h] at h1
  have h2 : (-1 : Int32).toInt = -1 := by decide
  omega

set_option maxHeartbeats 4000000 in
set_option maxRecDepth 100000 in
/-- languageOfSlot -/
theorem kX2_languageOfSlot (l : Launch) (K : m_K) (A : Nat → Prop) (H0 : Heap) (o : Option Nat) (hk9 : ∀ k, o = some k → k < 2147483648) : Met l yX2_languageOfSlot wsX2_languageOfSlot ({ frames := 0, cells := 0, slots := 0, locals := 0 } : Room) (m_Pc K A H0 [.int (oI o)]) (va_Qi (fun r H1 => r = oI (o.map fun k => k / 9 % 6) ∧ H0 = H1) m_B A) 0 0 A := by
  refine m_ofW (by decide) rfl (Nat.le_of_ble_eq_true rfl) ?_
  intro p e s m args below meth c ls hx hb hr hml hown hts hlk hnm hE hS hl
  have hl : lv_has ls 1 [(0, .int (oI o))] := hl
  refine lv_iload_n hx hb dX2_languageOfSlot_0 rfl (lv_at hl 0 rfl) ?_
  refine lv_iconst (v := (-1)) hx hb dX2_languageOfSlot_1 (by decide) ?_
  cases o with
  | none =>
    have hl : lv_has ls 1 [(0, .int (-1))] := hl
    refine lv_icmp_ne (tgt := 9) hx hb dX2_languageOfSlot_2 (by decide) (fun c_2 => ?_) (fun c_2 => ?_)
    · exact absurd rfl c_2
    · refine lv_iconst (v := (-1)) hx hb dX2_languageOfSlot_5 (by decide) ?_
      refine lv_goto (tgt := 16) hx hb dX2_languageOfSlot_6 (by decide) ?_
      exact m_iret hx hb hr hlk hS (Nat.le_of_ble_eq_true rfl) (Nat.le_of_ble_eq_true rfl) dX2_languageOfSlot_16 (⟨rfl, rfl⟩)
  | some k =>
    have hl : lv_has ls 1 [(0, .int (nI k))] := hl
    have hk8 := hk9 k rfl
    refine lv_icmp_ne (tgt := 9) hx hb dX2_languageOfSlot_2 (by decide) (fun c_2 => ?_) (fun c_2 => ?_)
    · refine lv_iload_n hx hb dX2_languageOfSlot_9 rfl (lv_at hl 0 rfl) ?_
      refine lv_bipush (v := nI 9) hx hb dX2_languageOfSlot_10 (by decide) ?_
      refine m_idiv hx hb (by omega) (by omega) (by omega) dX2_languageOfSlot_12 ?_
      refine lv_bipush (v := nI 6) hx hb dX2_languageOfSlot_13 (by decide) ?_
      refine m_irem hx hb (by omega) (by omega) (by omega) dX2_languageOfSlot_15 ?_
      exact m_iret hx hb hr hlk hS (Nat.le_of_ble_eq_true rfl) (Nat.le_of_ble_eq_true rfl) dX2_languageOfSlot_16 (⟨rfl, rfl⟩)
    · exact absurd c_2 (fun q => nI_m1 (hk9 k rfl) q)
end
