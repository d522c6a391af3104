section
-- ===== PART A: goes FIRST, ahead of the names: the tables' words, and 'selects' of the private methods out of them =====
/-- a private method of a class that the tables say can be made, by its rows of tables_1 -/
def lw_okq (q : MethodName × Nat) : Prop := (q.1.cls ≠ "java/lang/invoke/MethodHandle" ∧ q.1.cls ≠ "java/lang/invoke/VarHandle") ∧ Cond.instantiable q.1.cls q.2 ∈ tables_1 ∧ Cond.privateMethod q.1 ∈ tables_1 ∧ Cond.instanceMethod q.1 ∈ tables_1
theorem lw_p0 : lw_okq (⟨"AshlarLodge$Reader", "takeDigit", "(II)I"⟩, 3) := ⟨⟨by decide +kernel, by decide +kernel⟩, List.mem_of_getElem? (i := 195) (by decide +kernel), List.mem_of_getElem? (i := 227) (by decide +kernel), List.mem_of_getElem? (i := 228) (by decide +kernel)⟩
theorem lw_p1 : lw_okq (⟨"AshlarLodge$Reader", "takePart", "()Z"⟩, 3) := ⟨⟨by decide +kernel, by decide +kernel⟩, List.mem_of_getElem? (i := 195) (by decide +kernel), List.mem_of_getElem? (i := 238) (by decide +kernel), List.mem_of_getElem? (i := 239) (by decide +kernel)⟩
theorem lw_p2 : lw_okq (⟨"AshlarLodge$Reader", "takeCourse", "()Z"⟩, 3) := ⟨⟨by decide +kernel, by decide +kernel⟩, List.mem_of_getElem? (i := 195) (by decide +kernel), List.mem_of_getElem? (i := 242) (by decide +kernel), List.mem_of_getElem? (i := 243) (by decide +kernel)⟩
theorem lw_p3 : lw_okq (⟨"AshlarLodge$Reader", "takeMason", "()Z"⟩, 3) := ⟨⟨by decide +kernel, by decide +kernel⟩, List.mem_of_getElem? (i := 195) (by decide +kernel), List.mem_of_getElem? (i := 263) (by decide +kernel), List.mem_of_getElem? (i := 264) (by decide +kernel)⟩
theorem lw_p4 : lw_okq (⟨"AshlarLodge$Reader", "takeStrength", "()I"⟩, 3) := ⟨⟨by decide +kernel, by decide +kernel⟩, List.mem_of_getElem? (i := 195) (by decide +kernel), List.mem_of_getElem? (i := 267) (by decide +kernel), List.mem_of_getElem? (i := 268) (by decide +kernel)⟩
theorem lw_p5 : lw_okq (⟨"AshlarLodge$Reader", "takeStone", "()Z"⟩, 3) := ⟨⟨by decide +kernel, by decide +kernel⟩, List.mem_of_getElem? (i := 195) (by decide +kernel), List.mem_of_getElem? (i := 275) (by decide +kernel), List.mem_of_getElem? (i := 276) (by decide +kernel)⟩
theorem lw_p6 : lw_okq (⟨"AshlarLodge$Reader", "takeFrost", "()Z"⟩, 3) := ⟨⟨by decide +kernel, by decide +kernel⟩, List.mem_of_getElem? (i := 195) (by decide +kernel), List.mem_of_getElem? (i := 287) (by decide +kernel), List.mem_of_getElem? (i := 288) (by decide +kernel)⟩
theorem lw_p7 : lw_okq (⟨"AshlarLodge$Lodge", "smallestRate", "()I"⟩, 8) := ⟨⟨by decide +kernel, by decide +kernel⟩, List.mem_of_getElem? (i := 43) (by decide +kernel), List.mem_of_getElem? (i := 364) (by decide +kernel), List.mem_of_getElem? (i := 365) (by decide +kernel)⟩
theorem lw_p8 : lw_okq (⟨"AshlarLodge$Forecast", "takeWork", "(LAshlarLodge$Lodge;I)V"⟩, 2) := ⟨⟨by decide +kernel, by decide +kernel⟩, List.mem_of_getElem? (i := 151) (by decide +kernel), List.mem_of_getElem? (i := 382) (by decide +kernel), List.mem_of_getElem? (i := 383) (by decide +kernel)⟩
theorem lw_p9 : lw_okq (⟨"AshlarLodge$Forecast", "isAnyLacking", "()Z"⟩, 2) := ⟨⟨by decide +kernel, by decide +kernel⟩, List.mem_of_getElem? (i := 151) (by decide +kernel), List.mem_of_getElem? (i := 387) (by decide +kernel), List.mem_of_getElem? (i := 388) (by decide +kernel)⟩
theorem lw_p10 : lw_okq (⟨"AshlarLodge$Forecast", "workOneDay", "(LAshlarLodge$Lodge;)V"⟩, 2) := ⟨⟨by decide +kernel, by decide +kernel⟩, List.mem_of_getElem? (i := 151) (by decide +kernel), List.mem_of_getElem? (i := 391) (by decide +kernel), List.mem_of_getElem? (i := 392) (by decide +kernel)⟩
theorem lw_p11 : lw_okq (⟨"AshlarLodge$Forecast", "cutNext", "(LAshlarLodge$Lodge;I)I"⟩, 2) := ⟨⟨by decide +kernel, by decide +kernel⟩, List.mem_of_getElem? (i := 151) (by decide +kernel), List.mem_of_getElem? (i := 395) (by decide +kernel), List.mem_of_getElem? (i := 396) (by decide +kernel)⟩
theorem lw_p12 : lw_okq (⟨"java/lang/Throwable", "fillInStackTrace", "(I)Ljava/lang/Throwable;"⟩, 6) := ⟨⟨by decide +kernel, by decide +kernel⟩, List.mem_of_getElem? (i := 467) (by decide +kernel), List.mem_of_getElem? (i := 465) (by decide +kernel), List.mem_of_getElem? (i := 466) (by decide +kernel)⟩
theorem lw_p13 : lw_okq (⟨"AshlarLodge", "requireCourse", "(I)V"⟩, 6) := ⟨⟨by decide +kernel, by decide +kernel⟩, List.mem_of_getElem? (i := 21) (by decide +kernel), List.mem_of_getElem? (i := 564) (by decide +kernel), List.mem_of_getElem? (i := 565) (by decide +kernel)⟩
theorem lw_p14 : lw_okq (⟨"AshlarLodge", "requireMason", "(I)V"⟩, 6) := ⟨⟨by decide +kernel, by decide +kernel⟩, List.mem_of_getElem? (i := 21) (by decide +kernel), List.mem_of_getElem? (i := 596) (by decide +kernel), List.mem_of_getElem? (i := 597) (by decide +kernel)⟩
theorem lw_p15 : lw_okq (⟨"AshlarLodge", "requireStone", "(I)V"⟩, 6) := ⟨⟨by decide +kernel, by decide +kernel⟩, List.mem_of_getElem? (i := 21) (by decide +kernel), List.mem_of_getElem? (i := 610) (by decide +kernel), List.mem_of_getElem? (i := 611) (by decide +kernel)⟩
def lw_privs_1 : List (MethodName × Nat) := [(⟨"AshlarLodge$Reader", "takeDigit", "(II)I"⟩, 3), (⟨"AshlarLodge$Reader", "takePart", "()Z"⟩, 3), (⟨"AshlarLodge$Reader", "takeCourse", "()Z"⟩, 3), (⟨"AshlarLodge$Reader", "takeMason", "()Z"⟩, 3), (⟨"AshlarLodge$Reader", "takeStrength", "()I"⟩, 3), (⟨"AshlarLodge$Reader", "takeStone", "()Z"⟩, 3), (⟨"AshlarLodge$Reader", "takeFrost", "()Z"⟩, 3), (⟨"AshlarLodge$Lodge", "smallestRate", "()I"⟩, 8), (⟨"AshlarLodge$Forecast", "takeWork", "(LAshlarLodge$Lodge;I)V"⟩, 2), (⟨"AshlarLodge$Forecast", "isAnyLacking", "()Z"⟩, 2), (⟨"AshlarLodge$Forecast", "workOneDay", "(LAshlarLodge$Lodge;)V"⟩, 2), (⟨"AshlarLodge$Forecast", "cutNext", "(LAshlarLodge$Lodge;I)I"⟩, 2), (⟨"java/lang/Throwable", "fillInStackTrace", "(I)Ljava/lang/Throwable;"⟩, 6), (⟨"AshlarLodge", "requireCourse", "(I)V"⟩, 6), (⟨"AshlarLodge", "requireMason", "(I)V"⟩, 6), (⟨"AshlarLodge", "requireStone", "(I)V"⟩, 6)]
theorem lw_r1 : ∀ q ∈ lw_privs_1, lw_okq q := List.forall_mem_cons.mpr ⟨lw_p0, List.forall_mem_cons.mpr ⟨lw_p1, List.forall_mem_cons.mpr ⟨lw_p2, List.forall_mem_cons.mpr ⟨lw_p3, List.forall_mem_cons.mpr ⟨lw_p4, List.forall_mem_cons.mpr ⟨lw_p5, List.forall_mem_cons.mpr ⟨lw_p6, List.forall_mem_cons.mpr ⟨lw_p7, List.forall_mem_cons.mpr ⟨lw_p8, List.forall_mem_cons.mpr ⟨lw_p9, List.forall_mem_cons.mpr ⟨lw_p10, List.forall_mem_cons.mpr ⟨lw_p11, List.forall_mem_cons.mpr ⟨lw_p12, List.forall_mem_cons.mpr ⟨lw_p13, List.forall_mem_cons.mpr ⟨lw_p14, List.forall_mem_cons.mpr ⟨lw_p15, fun _ h => absurd h List.not_mem_nil⟩⟩⟩⟩⟩⟩⟩⟩⟩⟩⟩⟩⟩⟩⟩⟩
theorem lw_p16 : lw_okq (⟨"AshlarLodge$Lodge", "priceOf", "(I)I"⟩, 8) := ⟨⟨by decide +kernel, by decide +kernel⟩, List.mem_of_getElem? (i := 43) (by decide +kernel), List.mem_of_getElem? (i := 708) (by decide +kernel), List.mem_of_getElem? (i := 709) (by decide +kernel)⟩
theorem lw_p17 : lw_okq (⟨"AshlarLodge$Lodge", "isSmaller", "(II)Z"⟩, 8) := ⟨⟨by decide +kernel, by decide +kernel⟩, List.mem_of_getElem? (i := 43) (by decide +kernel), List.mem_of_getElem? (i := 723) (by decide +kernel), List.mem_of_getElem? (i := 724) (by decide +kernel)⟩
theorem lw_p18 : lw_okq (⟨"AshlarLodge$Lodge", "workToRecut", "(I)I"⟩, 8) := ⟨⟨by decide +kernel, by decide +kernel⟩, List.mem_of_getElem? (i := 43) (by decide +kernel), List.mem_of_getElem? (i := 727) (by decide +kernel), List.mem_of_getElem? (i := 728) (by decide +kernel)⟩
theorem lw_p19 : lw_okq (⟨"AshlarLodgeModel", "refused", "(I)Z"⟩, 13) := ⟨⟨by decide +kernel, by decide +kernel⟩, List.mem_of_getElem? (i := 936) (by decide +kernel), List.mem_of_getElem? (i := 994) (by decide +kernel), List.mem_of_getElem? (i := 995) (by decide +kernel)⟩
theorem lw_p20 : lw_okq (⟨"AshlarLodgeModel", "readAll", "()Z"⟩, 13) := ⟨⟨by decide +kernel, by decide +kernel⟩, List.mem_of_getElem? (i := 936) (by decide +kernel), List.mem_of_getElem? (i := 1006) (by decide +kernel), List.mem_of_getElem? (i := 1007) (by decide +kernel)⟩
theorem lw_p21 : lw_okq (⟨"AshlarLodgeModel", "eat", "(I)Z"⟩, 13) := ⟨⟨by decide +kernel, by decide +kernel⟩, List.mem_of_getElem? (i := 936) (by decide +kernel), List.mem_of_getElem? (i := 1010) (by decide +kernel), List.mem_of_getElem? (i := 1011) (by decide +kernel)⟩
theorem lw_p22 : lw_okq (⟨"AshlarLodgeModel", "digit", "(II)I"⟩, 13) := ⟨⟨by decide +kernel, by decide +kernel⟩, List.mem_of_getElem? (i := 936) (by decide +kernel), List.mem_of_getElem? (i := 1014) (by decide +kernel), List.mem_of_getElem? (i := 1015) (by decide +kernel)⟩
theorem lw_p23 : lw_okq (⟨"AshlarLodgeModel", "readPart", "()Z"⟩, 13) := ⟨⟨by decide +kernel, by decide +kernel⟩, List.mem_of_getElem? (i := 936) (by decide +kernel), List.mem_of_getElem? (i := 1018) (by decide +kernel), List.mem_of_getElem? (i := 1019) (by decide +kernel)⟩
theorem lw_p24 : lw_okq (⟨"AshlarLodgeModel", "readCourse", "()Z"⟩, 13) := ⟨⟨by decide +kernel, by decide +kernel⟩, List.mem_of_getElem? (i := 936) (by decide +kernel), List.mem_of_getElem? (i := 1022) (by decide +kernel), List.mem_of_getElem? (i := 1023) (by decide +kernel)⟩
theorem lw_p25 : lw_okq (⟨"AshlarLodgeModel", "readMason", "()Z"⟩, 13) := ⟨⟨by decide +kernel, by decide +kernel⟩, List.mem_of_getElem? (i := 936) (by decide +kernel), List.mem_of_getElem? (i := 1026) (by decide +kernel), List.mem_of_getElem? (i := 1027) (by decide +kernel)⟩
theorem lw_p26 : lw_okq (⟨"AshlarLodgeModel", "readStone", "()Z"⟩, 13) := ⟨⟨by decide +kernel, by decide +kernel⟩, List.mem_of_getElem? (i := 936) (by decide +kernel), List.mem_of_getElem? (i := 1030) (by decide +kernel), List.mem_of_getElem? (i := 1031) (by decide +kernel)⟩
theorem lw_p27 : lw_okq (⟨"AshlarLodgeModel", "note", "()V"⟩, 13) := ⟨⟨by decide +kernel, by decide +kernel⟩, List.mem_of_getElem? (i := 936) (by decide +kernel), List.mem_of_getElem? (i := 1105) (by decide +kernel), List.mem_of_getElem? (i := 1106) (by decide +kernel)⟩
theorem lw_p28 : lw_okq (⟨"AshlarLodgeModel", "layLacking", "()I"⟩, 13) := ⟨⟨by decide +kernel, by decide +kernel⟩, List.mem_of_getElem? (i := 936) (by decide +kernel), List.mem_of_getElem? (i := 1196) (by decide +kernel), List.mem_of_getElem? (i := 1197) (by decide +kernel)⟩
theorem lw_p29 : lw_okq (⟨"AshlarLodgeModel", "workOf", "(I)I"⟩, 13) := ⟨⟨by decide +kernel, by decide +kernel⟩, List.mem_of_getElem? (i := 936) (by decide +kernel), List.mem_of_getElem? (i := 1204) (by decide +kernel), List.mem_of_getElem? (i := 1205) (by decide +kernel)⟩
theorem lw_p30 : lw_okq (⟨"AshlarLodgeModel", "does", "(IIIII)Z"⟩, 13) := ⟨⟨by decide +kernel, by decide +kernel⟩, List.mem_of_getElem? (i := 936) (by decide +kernel), List.mem_of_getElem? (i := 1228) (by decide +kernel), List.mem_of_getElem? (i := 1229) (by decide +kernel)⟩
theorem lw_p31 : lw_okq (⟨"AshlarLodgeModel", "simulateRound", "(I)V"⟩, 13) := ⟨⟨by decide +kernel, by decide +kernel⟩, List.mem_of_getElem? (i := 936) (by decide +kernel), List.mem_of_getElem? (i := 1239) (by decide +kernel), List.mem_of_getElem? (i := 1240) (by decide +kernel)⟩
def lw_privs_2 : List (MethodName × Nat) := [(⟨"AshlarLodge$Lodge", "priceOf", "(I)I"⟩, 8), (⟨"AshlarLodge$Lodge", "isSmaller", "(II)Z"⟩, 8), (⟨"AshlarLodge$Lodge", "workToRecut", "(I)I"⟩, 8), (⟨"AshlarLodgeModel", "refused", "(I)Z"⟩, 13), (⟨"AshlarLodgeModel", "readAll", "()Z"⟩, 13), (⟨"AshlarLodgeModel", "eat", "(I)Z"⟩, 13), (⟨"AshlarLodgeModel", "digit", "(II)I"⟩, 13), (⟨"AshlarLodgeModel", "readPart", "()Z"⟩, 13), (⟨"AshlarLodgeModel", "readCourse", "()Z"⟩, 13), (⟨"AshlarLodgeModel", "readMason", "()Z"⟩, 13), (⟨"AshlarLodgeModel", "readStone", "()Z"⟩, 13), (⟨"AshlarLodgeModel", "note", "()V"⟩, 13), (⟨"AshlarLodgeModel", "layLacking", "()I"⟩, 13), (⟨"AshlarLodgeModel", "workOf", "(I)I"⟩, 13), (⟨"AshlarLodgeModel", "does", "(IIIII)Z"⟩, 13), (⟨"AshlarLodgeModel", "simulateRound", "(I)V"⟩, 13)]
theorem lw_r2 : ∀ q ∈ lw_privs_2, lw_okq q := List.forall_mem_cons.mpr ⟨lw_p16, List.forall_mem_cons.mpr ⟨lw_p17, List.forall_mem_cons.mpr ⟨lw_p18, List.forall_mem_cons.mpr ⟨lw_p19, List.forall_mem_cons.mpr ⟨lw_p20, List.forall_mem_cons.mpr ⟨lw_p21, List.forall_mem_cons.mpr ⟨lw_p22, List.forall_mem_cons.mpr ⟨lw_p23, List.forall_mem_cons.mpr ⟨lw_p24, List.forall_mem_cons.mpr ⟨lw_p25, List.forall_mem_cons.mpr ⟨lw_p26, List.forall_mem_cons.mpr ⟨lw_p27, List.forall_mem_cons.mpr ⟨lw_p28, List.forall_mem_cons.mpr ⟨lw_p29, List.forall_mem_cons.mpr ⟨lw_p30, List.forall_mem_cons.mpr ⟨lw_p31, fun _ h => absurd h List.not_mem_nil⟩⟩⟩⟩⟩⟩⟩⟩⟩⟩⟩⟩⟩⟩⟩⟩
theorem lw_p32 : lw_okq (⟨"AshlarLodgeModel", "lowest", "(I)I"⟩, 13) := ⟨⟨by decide +kernel, by decide +kernel⟩, List.mem_of_getElem? (i := 936) (by decide +kernel), List.mem_of_getElem? (i := 1243) (by decide +kernel), List.mem_of_getElem? (i := 1244) (by decide +kernel)⟩
theorem lw_p33 : lw_okq (⟨"AshlarLodgeModel", "setLowest", "()V"⟩, 13) := ⟨⟨by decide +kernel, by decide +kernel⟩, List.mem_of_getElem? (i := 936) (by decide +kernel), List.mem_of_getElem? (i := 1247) (by decide +kernel), List.mem_of_getElem? (i := 1248) (by decide +kernel)⟩
theorem lw_p34 : lw_okq (⟨"AshlarLodgeModel", "recutLowest", "(I)V"⟩, 13) := ⟨⟨by decide +kernel, by decide +kernel⟩, List.mem_of_getElem? (i := 936) (by decide +kernel), List.mem_of_getElem? (i := 1251) (by decide +kernel), List.mem_of_getElem? (i := 1252) (by decide +kernel)⟩
def lw_privs_3 : List (MethodName × Nat) := [(⟨"AshlarLodgeModel", "lowest", "(I)I"⟩, 13), (⟨"AshlarLodgeModel", "setLowest", "()V"⟩, 13), (⟨"AshlarLodgeModel", "recutLowest", "(I)V"⟩, 13)]
theorem lw_r3 : ∀ q ∈ lw_privs_3, lw_okq q := List.forall_mem_cons.mpr ⟨lw_p32, List.forall_mem_cons.mpr ⟨lw_p33, List.forall_mem_cons.mpr ⟨lw_p34, fun _ h => absurd h List.not_mem_nil⟩⟩⟩
def lw_privs : List (MethodName × Nat) := lw_privs_1 ++ (lw_privs_2 ++ (lw_privs_3))
def lw_tbl : List Cond := k2_sels lw_privs ++ tables_1
theorem lw_privs_ok : ∀ q ∈ lw_privs, lw_okq q := by
  show ∀ q ∈ lw_privs_1 ++ (lw_privs_2 ++ (lw_privs_3)), lw_okq q
  exact List.forall_mem_append.mpr ⟨lw_r1, List.forall_mem_append.mpr ⟨lw_r2, lw_r3⟩⟩
/-! ===== BEGIN words of one list among another's, by their places ===== -/
theorem goodIn_r {big : List Cond} (ws : List Cond) (ps : List Nat) (hp : ws = ps.filterMap (fun i => big[i]?)) (h : ws.all goodWord = true) : GoodIn big ws := by
  intro w hw
  have h1 := List.all_eq_true.mp h w hw
  rw [hp] at hw
  obtain ⟨i, -, hi⟩ := List.mem_filterMap.mp hw
  have hm : w ∈ big := by first | exact List.mem_of_getElem? hi | exact List.getElem?_mem hi
  exact ⟨hm, good_of_word h1⟩
theorem goodIn_app {big a b : List Cond} (ha : GoodIn big a) (hb : GoodIn big b) : GoodIn big (a ++ b) := fun w h => (List.mem_append.mp h).elim (ha w) (hb w)
theorem goodIn_ca {big a b : List Cond} {c : Cond} (ha : GoodIn big (c :: a)) (hb : GoodIn big b) : GoodIn big (c :: (a ++ b)) := fun w h => (List.mem_cons.mp h).elim (fun e => ha w (List.mem_cons.mpr (Or.inl e))) (fun h => (List.mem_append.mp h).elim (fun h => ha w (List.mem_cons.mpr (Or.inr h))) (hb w))
theorem goodIn_sub {big ws : List Cond} (hm : ∀ w ∈ ws, w ∈ big) (h : ws.all goodWord = true) : GoodIn big ws := fun w hw => ⟨hm w hw, good_of_word (List.all_eq_true.mp h w hw)⟩
/-! ===== END ===== -/

/-! ===== BEGIN exceptions that leave a method, and their catching by the caller (launches without stack traces) ===== -/
section VXA
/-! The laws vx_back, vx_callV, vx_callS, vx_callSW, vx_throw0, vx_throwS follow proofs of the library, with one case more: JvmDerived/Free/Laws.lean (Back.of_free), Shelf42/LK1.lean (callV, callS), Shelf/KitTraced.lean (throwNew0V, throwNewS). -/
/-- where a method has thrown q: the class by its name, the cell, what was written, the world -/
def vx_T (XC : String → State → State → Prop) (st : State) (q : Addr) (t : State) (mc ms : Nat) (free : Addr → Prop) : Prop :=
  ∃ (E : String) (ce : Cell) (L : List Loc), XC E st t ∧ t.heap[q]? = some ce ∧ ce.vm = .none ∧ st.vm.findClass E = some ce.cls ∧ st.WarmedH t.vm ∧ st.sameButNew ({ t with vm := st.vm } : State) L mc ms ∧ ∀ z ∈ L, free z.base
def vx_Q (Qc : Array Value → State → Outcome → State → Prop) (XC : String → State → State → Prop) (mc ms : Nat) (free : Addr → Prop) : Array Value → State → Outcome → State → Prop := fun a st o t =>
  (Qc a st o t ∧ ∃ L, FrameEnd st o t L mc ms ∧ ∀ q ∈ L, free q.base) ∨ ∃ q, o = .threw q ∧ vx_T XC st q t mc ms free
/-- a callee that returns or throws -/
def vx_Met (l : Launch) (y : MethodName) (ws : List Cond) (rm : Room) (Pc : Array Value → State → Prop) (Qc : Array Value → State → Outcome → State → Prop) (XC : String → State → State → Prop) (mc ms : Nat) (free : Addr → Prop) : Prop :=
  MetFree l y (headSpec ws rm) Pc (fun _ _ _ _ _ => True) (vx_Q Qc XC mc ms free)
def vx_Post (XC : String → State → State → Prop) (mc ms : Nat) (free : Addr → Prop) : Pt → Array Value → Addr → Pt → Prop := fun A a q B =>
  ∃ (g : JFrame) (mk : MethodId) (t : State) (L : List Loc) (E : String) (ce : Cell), B.U.heap = t.heap ∧ B.U.vm = t.vm ∧ XC E (A.U.calling g mk a) t ∧ t.heap[q]? = some ce ∧ ce.vm = .none ∧ A.U.vm.findClass E = some ce.cls ∧ B.locs = A.locs ++ L ∧ (∀ z ∈ L, free z.base) ∧ B.cells = A.cells + mc ∧ B.slots = A.slots + ms
def vx_Back (l : Launch) (R : Room) (p : Program) (e : Env) (below : List Frame) (s : State) (sargs : Array Value) (y : MethodName) (len W9 : Nat)
    (Pre : Pt → Array Value → Prop) (Post : Pt → Array Value → Option Value → Pt → Prop) (PostX : Pt → Array Value → Addr → Pt → Prop) : Prop :=
  ∀ (m : MethodId) (meth : Method) (c : Code) (A : Pt) (g : JFrame) (ig : Instr) (mk : MethodId) (a : Array Value),
    Stand p l e R s m sargs below meth c A.U A.locs A.cells A.slots → g.method = m → g.locals.size = c.maxLocals → decode c.code g.pc = .ok (ig, len) →
    2 * g.monitorRoom + (g.stack.map fun v => v.category).sum ≤ W9 → A.U.methodNamed? y = some mk → Pre A a →
    (∃ (v : Option Value) (B : Pt), Stand p l e R s m sargs below meth c B.U B.locs B.cells B.slots ∧ Post A a v B ∧
      Steps p.tables e below (doInvoke e (A.U.setTop g) [] mk a).1 (B.U.setTop { g with pc := g.pc + len, stack := v.toList ++ g.stack })) ∨
    (∃ (q : Addr) (B : Pt), Stand p l e R s m sargs below meth c B.U B.locs B.cells B.slots ∧ PostX A a q B ∧
      Steps p.tables e below (doInvoke e (A.U.setTop g) [] mk a).1 ((B.U.setTop g).pushFrame (.throwing q)))
section Payer
variable {l : Launch} {R : Room} {p : Program} {e : Env} {below : List Frame} {s : State} {sargs : Array Value} {y : MethodName} {len W9 : Nat}
theorem vx_back {ws : List Cond} {rm : Room} {Pc : Array Value → State → Prop} {Qc : Array Value → State → Outcome → State → Prop} {XC : String → State → State → Prop} {mc ms : Nat} {free : Addr → Prop} {bytes : ByteArray} {maxL : Nat} {ret : Option FieldType}
    (hM : vx_Met l y ws rm Pc Qc XC mc ms free) (hblind : FrameBlind Pc) (hrc : rm.cells = mc) (hrs : rm.slots = ms)
    (hframes : rm.frames + 1 ≤ R.frames) (hlocals : W9 + (maxL + 11) + rm.locals ≤ R.locals)
    (hws : ∀ w ∈ ws, ∀ a' U, s.WarmedH U.vm → w.before a' U = true) (hcode : Cond.code y bytes maxL ret ∈ ws) (hinit : ∀ a' U, s.WarmedH U.vm → (Cond.initialized y.cls).before a' U = true) :
    vx_Back l R p e below s sargs y len W9 (PreOf R mc ms Pc) (PostOf Qc mc ms free) (vx_Post XC mc ms free) := by
  intro m meth c A g ig mk a X hg hsize hdg hW hn hp
  have h1 : (headSpec ws rm).pre.before a A.U = true := atoms_intro fun w hw => hws w hw _ _ X.warmed
  have h2 : (Cond.code y bytes maxL ret).before a A.U = true := hws _ hcode _ _ X.warmed
  have h3 : (Cond.initialized y.cls).before a A.U = true := hinit _ _ X.warmed
  have h4 : A.cells + (headSpec ws rm).room.cells ≤ R.cells := by rw [show (headSpec ws rm).room.cells = mc from hrc]; exact hp.1
  have h5 : A.slots + (headSpec ws rm).room.slots ≤ R.slots := by rw [show (headSpec ws rm).room.slots = ms from hrs]; exact hp.2.1
  have hPc : Pc a (A.U.calling g mk a) := hblind _ _ _ _ hp.2.2
  obtain ⟨U, Ls, c0, s0⟩ := A
  dsimp only [Pt.U, Pt.locs, Pt.cells, Pt.slots] at h1 h2 h3 h4 h5 X hn hPc ⊢
  obtain ⟨methY, cY, hmY, hcY, -, hlY, -, -, -, -⟩ := Cond.code_spec hn h2
  obtain ⟨kY, hkY, -⟩ := className_of_methodNamed hn
  have hinitY : kY.init = .initialized := Cond.initialized_spec (findClass_of_methodNamed hn) hkY h3
  have h : At U g.method c below := by rw [hg]; exact X.here
  have hlocals9 : W9 + (maxL + 11) + (headSpec ws rm).room.locals ≤ R.locals := hlocals
  have happ : (headSpec ws rm).appliesLoose y e.platform (U.calling g mk a) = true :=
    Spec.appliesLoose_calling (g := g) h hdg hn hkY hinitY
      (X.room_calling (g := g) (R' := (headSpec ws rm).room) hsize hmY hcY hframes (by rw [hlY]; omega) h4 h5) h1
  obtain ⟨mid, hmid⟩ := h.above
  have hfr : (U.setTop g).frames = (.java g :: mid) ++ below := by rw [State.frames_setTop' g h.top, hmid]; rfl
  obtain ⟨o, s₂, hsteps, -, hend, hq⟩ := Steps.callFree hM p X.admits X.cas X.clock (acts := []) hfr happ hPc trivial
  have hq' : vx_Q Qc XC mc ms free a (U.calling g mk a) o s₂ := hq
  rw [State.frames_setTop' g h.top] at hend
  obtain ⟨g₀, hg0⟩ := Option.isSome_iff_exists.mp h.top
  obtain ⟨r, hr⟩ := State.topJava?_eq_some.mp hg0
  have hr' : (({ U with heap := s₂.heap, slotsUsed := s₂.slotsUsed } : State).setVm s₂.vm).frames = .java g₀ :: r := hr
  rcases hq' with ⟨hqc, L, hfe, hL⟩ | ⟨q, rfl, E, ce, L, hx, hce, hcv, hcl, hW₂, hsm, hL⟩
  · obtain ⟨⟨v, rfl⟩, hW₂, e2, q2, q3, q4, q5, q6⟩ := id hfe
    have e3 : s₂ = ({ (U.calling g mk a).setFrames s₂.frames with heap := s₂.heap, slotsUsed := s₂.slotsUsed } : State).setVm s₂.vm := by
      have : s₂ = ({ s₂ with vm := (U.calling g mk a).vm } : State).setVm s₂.vm := rfl
      rw [e2] at this
      exact this
    obtain ⟨c₂, i₂, len₂, hc₂, hd₂, hf₂⟩ := hend
    have hW' : U.WarmedH s₂.vm := hW₂
    have hcc : c₂ = c := by
      have h1 : s₂.code? g.method = U.code? g.method := by
        rw [State.code?_eq, State.code?_eq, hW'.alike.method?]
      exact Option.some.inj (hc₂.symm.trans (h1.trans h.code))
    subst hcc
    have hlen : len₂ = len := by rw [hdg] at hd₂; cases hd₂; rfl
    subst hlen
    have hs₂ : s₂ = (({ U with heap := s₂.heap, slotsUsed := s₂.slotsUsed } : State).setVm s₂.vm).setTop { g with pc := g.pc + len₂, stack := v.toList ++ g.stack } := by
      refine e3.trans ?_
      rw [hf₂, State.calling_eq h.top, State.setFrames_setFrames, State.setTop_of_frames _ hr', hr]
      rfl
    have hsame : U.sameButNew ({ U with heap := s₂.heap, slotsUsed := s₂.slotsUsed } : State) L mc ms := by
      refine ⟨?_, q2, q3, q4, q5, q6⟩
      obtain ⟨t, ht, -⟩ := State.frames_cons hr
      show ({ U with heap := s₂.heap, slotsUsed := s₂.slotsUsed } : State) = { U.setFrames U.frames with heap := s₂.heap, slotsUsed := s₂.slotsUsed }
      rw [State.setFrames_self ht]
    subst hg
    refine Or.inl ⟨v, ⟨(({ U with heap := s₂.heap, slotsUsed := s₂.slotsUsed } : State).setVm s₂.vm), Ls ++ L, c0 + mc, s0 + ms⟩,
      ⟨X.admits, X.cas, X.clock, X.frames, X.room, X.hears, X.method, X.code, (X.here.setHeapUsed s₂.heap s₂.slotsUsed).setVm hW'.alike, X.tail, State.WarmedH.trans X.warmed hW', X.limits, X.bytes, X.same.trans (hsame.setVm s.vm)⟩,
      ⟨g, mk, s₂, L, rfl, rfl, hqc, rfl, hL, rfl, rfl⟩, ?_⟩
    show Steps p.tables e below _ ((({ U with heap := s₂.heap, slotsUsed := s₂.slotsUsed } : State).setVm s₂.vm).setTop { g with pc := g.pc + len₂, stack := v.toList ++ g.stack })
    rw [← hs₂]
    exact hsteps
  · obtain ⟨e2, q2, q3, q4, q5, q6⟩ := id hsm
    have e3 : s₂ = ({ (U.calling g mk a).setFrames s₂.frames with heap := s₂.heap, slotsUsed := s₂.slotsUsed } : State).setVm s₂.vm := by
      have : s₂ = ({ s₂ with vm := (U.calling g mk a).vm } : State).setVm s₂.vm := rfl
      rw [e2] at this
      exact this
    have hf₂ : s₂.frames = .throwing q :: .java g :: U.frames.tail := hend
    have hW' : U.WarmedH s₂.vm := hW₂
    have hs₂ : s₂ = ((({ U with heap := s₂.heap, slotsUsed := s₂.slotsUsed } : State).setVm s₂.vm).setTop g).pushFrame (.throwing q) := by
      refine e3.trans ?_
      rw [hf₂, State.calling_eq h.top, State.setFrames_setFrames, State.pushFrame, State.frames_setTop _ hr', State.setTop_of_frames _ hr', State.setFrames_setFrames, hr]
      rfl
    have hsame : U.sameButNew ({ U with heap := s₂.heap, slotsUsed := s₂.slotsUsed } : State) L mc ms := by
      refine ⟨?_, q2, q3, q4, q5, q6⟩
      obtain ⟨t, ht, -⟩ := State.frames_cons hr
      show ({ U with heap := s₂.heap, slotsUsed := s₂.slotsUsed } : State) = { U.setFrames U.frames with heap := s₂.heap, slotsUsed := s₂.slotsUsed }
      rw [State.setFrames_self ht]
    subst hg
    refine Or.inr ⟨q, ⟨(({ U with heap := s₂.heap, slotsUsed := s₂.slotsUsed } : State).setVm s₂.vm), Ls ++ L, c0 + mc, s0 + ms⟩,
      ⟨X.admits, X.cas, X.clock, X.frames, X.room, X.hears, X.method, X.code, (X.here.setHeapUsed s₂.heap s₂.slotsUsed).setVm hW'.alike, X.tail, State.WarmedH.trans X.warmed hW', X.limits, X.bytes, X.same.trans (hsame.setVm s.vm)⟩,
      ⟨g, mk, s₂, L, E, ce, rfl, rfl, hx, hce, hcv, hcl, rfl, hL, rfl, rfl⟩, ?_⟩
    show Steps p.tables e below _ (((({ U with heap := s₂.heap, slotsUsed := s₂.slotsUsed } : State).setVm s₂.vm).setTop g).pushFrame (.throwing q))
    rw [← hs₂]
    exact hsteps
end Payer
section Calls
variable {p : Program} {l : Launch} {e : Env} {R : Room} {s : State} {m : MethodId} {args : Array Value} {below : List Frame} {meth : Method} {c : Code} {T : State} {locs : List Loc} {cells slots : Nat}
theorem vx_callV (X : Stand p l e R s m args below meth c T locs cells slots) (hexec : p.tables.exec = Jvm.exec) {own C : String} {index : Nat} {y : MethodName} {bytes : ByteArray} {maxL : Nat} {ret : Option FieldType}
    (hown : s.vm.findClass own = some m.cls) (hlink : (Cond.methodLink own index y).before args s = true) (hinst : (Cond.instanceMethod y).before args s = true) (hsel : (Cond.selects C y y).before args s = true)
    (hcode : (Cond.code y bytes maxL ret).before args s = true) (hy : y.cls ≠ "java/lang/invoke/MethodHandle" ∧ y.cls ≠ "java/lang/invoke/VarHandle")
    {W9 : Nat} {Pre : Pt → Array Value → Prop} {Post : Pt → Array Value → Option Value → Pt → Prop} {PostX : Pt → Array Value → Addr → Pt → Prop} (hK : vx_Back l R p e below s args y 3 W9 Pre Post PostX)
    {b : Addr} {cellB : Cell} (hcell : T.heap[b]? = some cellB) (hobj : cellB.vm.isStatics = false) (hcls : s.vm.findClass C = some cellB.cls)
    {g : JFrame} (hg : g.method = m) (hsize : g.locals.size = c.maxLocals) {argsL rest : List Value} (hlen : ∀ sig, parseMethodDescriptor y.desc = some sig → argsL.length = sig.parameters.length)
    (hstack : g.stack = argsL.reverse ++ .ref b :: rest) (hW : 2 * g.monitorRoom + (rest.map fun v => v.category).sum ≤ W9) (hdg : decode c.code g.pc = .ok (.invokevirtual index, 3))
    (hpre : ∀ vm₁, s.WarmedH vm₁ → Pre ⟨T.setVm vm₁, locs, cells, slots⟩ (Value.ref b :: argsL).toArray) :
    (∃ (v : Option Value) (vm₁ : Vm) (B : Pt), s.WarmedH vm₁ ∧ Stand p l e R s m args below meth c B.U B.locs B.cells B.slots ∧ Post ⟨T.setVm vm₁, locs, cells, slots⟩ (Value.ref b :: argsL).toArray v B ∧
      ∀ target, Steps p.tables e below (B.U.setTop { g with pc := g.pc + 3, stack := v.toList ++ rest }) target → Steps p.tables e below (T.setTop g) target) ∨
    (∃ (q : Addr) (vm₁ : Vm) (B : Pt), s.WarmedH vm₁ ∧ Stand p l e R s m args below meth c B.U B.locs B.cells B.slots ∧ PostX ⟨T.setVm vm₁, locs, cells, slots⟩ (Value.ref b :: argsL).toArray q B ∧
      Steps p.tables e below (T.setTop g) ((B.U.setTop { g with stack := rest }).pushFrame (.throwing q))) := by
  obtain ⟨mk, methM, hnamed, hmethM, hstM, habM⟩ := Cond.instanceMethod_spec hinst
  obtain ⟨methM', cM, hmethM', -, -, -, -, -, -, hsigM⟩ := Cond.code_spec hnamed hcode
  cases hmethM.symm.trans hmethM'
  obtain ⟨c2, r2, m2, q1, q2, q3, q4, kP, hkP, hkPi⟩ := Cond.selects_spec hsel
  cases hcls.symm.trans q1
  cases (State.methodFound?_of_named hnamed hy).symm.trans q2
  cases hnamed.symm.trans q3
  have hselP : selectMethod e.platform s.vm cellB.cls mk = .method mk := by rw [Launch.admits_selectMethod X.admits]; exact q4
  obtain ⟨vm₁, X₁, hstep₁⟩ := X.invokevirtual hexec hown hlink hnamed hmethM hstM hkP hkPi hy (a := b) (cell := cellB) hcell
    (fun z h => by rw [h] at hobj; cases hobj) hselP hmethM habM hkP hkPi (g := g) hg (argsL := argsL) (rest := rest) (hlen _ hsigM) hstack hdg
  rcases hK m meth c ⟨T.setVm vm₁, locs, cells, slots⟩ { g with stack := rest } (.invokevirtual index) mk (Value.ref b :: argsL).toArray X₁ hg hsize hdg hW (X₁.named hnamed) (hpre vm₁ X₁.warmed) with ⟨v, B, X', hpost, hsteps⟩ | ⟨q, B, X', hpost, hsteps⟩
  · exact Or.inl ⟨v, vm₁, B, X₁.warmed, X', hpost, fun target h => hstep₁ _ fun acts => by rw [doInvoke_state]; exact hsteps.trans h⟩
  · exact Or.inr ⟨q, vm₁, B, X₁.warmed, X', hpost, hstep₁ _ fun acts => by rw [doInvoke_state]; exact hsteps⟩
theorem vx_callS (X : Stand p l e R s m args below meth c T locs cells slots) (hexec : p.tables.exec = Jvm.exec) {own : String} {index : Nat} {y : MethodName} {bytes : ByteArray} {maxL : Nat} {ret : Option FieldType}
    (hown : s.vm.findClass own = some m.cls) (hlink : (Cond.methodLink own index y).before args s = true) (hstat : (Cond.static y).before args s = true) (hinit : (Cond.initialized y.cls).before args s = true)
    (hcode : (Cond.code y bytes maxL ret).before args s = true) (hy : y.cls ≠ "java/lang/invoke/MethodHandle" ∧ y.cls ≠ "java/lang/invoke/VarHandle")
    {W9 : Nat} {Pre : Pt → Array Value → Prop} {Post : Pt → Array Value → Option Value → Pt → Prop} {PostX : Pt → Array Value → Addr → Pt → Prop} (hK : vx_Back l R p e below s args y 3 W9 Pre Post PostX)
    {g : JFrame} (hg : g.method = m) (hsize : g.locals.size = c.maxLocals) {argsL rest : List Value} (hlen : ∀ sig, parseMethodDescriptor y.desc = some sig → argsL.length = sig.parameters.length)
    (hstack : g.stack = argsL.reverse ++ rest) (hW : 2 * g.monitorRoom + (rest.map fun v => v.category).sum ≤ W9) (hdg : decode c.code g.pc = .ok (.invokestatic index, 3))
    (hpre : ∀ vm₁, s.WarmedH vm₁ → Pre ⟨T.setVm vm₁, locs, cells, slots⟩ argsL.toArray) :
    (∃ (v : Option Value) (vm₁ : Vm) (B : Pt), s.WarmedH vm₁ ∧ Stand p l e R s m args below meth c B.U B.locs B.cells B.slots ∧ Post ⟨T.setVm vm₁, locs, cells, slots⟩ argsL.toArray v B ∧
      ∀ target, Steps p.tables e below (B.U.setTop { g with pc := g.pc + 3, stack := v.toList ++ rest }) target → Steps p.tables e below (T.setTop g) target) ∨
    (∃ (q : Addr) (vm₁ : Vm) (B : Pt), s.WarmedH vm₁ ∧ Stand p l e R s m args below meth c B.U B.locs B.cells B.slots ∧ PostX ⟨T.setVm vm₁, locs, cells, slots⟩ argsL.toArray q B ∧
      Steps p.tables e below (T.setTop g) ((B.U.setTop { g with stack := rest }).pushFrame (.throwing q))) := by
  obtain ⟨mk, hnamed⟩ := Cond.code_named hcode
  obtain ⟨methM, cM, hmethM, -, -, -, -, -, -, hsigM⟩ := Cond.code_spec hnamed hcode
  have hstatic : methM.isStatic = true := Cond.static_spec hnamed hmethM hstat
  obtain ⟨kP, hkP, -⟩ := className_of_methodNamed hnamed
  have hinitP : kP.init = .initialized := Cond.initialized_spec (findClass_of_methodNamed hnamed) hkP hinit
  obtain ⟨vm₁, X₁, hstep₁⟩ := X.invokestatic hexec hown hlink hnamed hmethM hstatic hkP hinitP hy (g := g) hg (argsL := argsL) (rest := rest) (hlen _ hsigM) hstack hdg
  rcases hK m meth c ⟨T.setVm vm₁, locs, cells, slots⟩ { g with stack := rest } (.invokestatic index) mk argsL.toArray X₁ hg hsize hdg hW (X₁.named hnamed) (hpre vm₁ X₁.warmed) with ⟨v, B, X', hpost, hsteps⟩ | ⟨q, B, X', hpost, hsteps⟩
  · exact Or.inl ⟨v, vm₁, B, X₁.warmed, X', hpost, fun target h => hstep₁ _ fun acts => by rw [doInvoke_state]; exact hsteps.trans h⟩
  · exact Or.inr ⟨q, vm₁, B, X₁.warmed, X', hpost, hstep₁ _ fun acts => by rw [doInvoke_state]; exact hsteps⟩
end Calls
theorem vx_cls {s : State} {T : State} {vm₁ : Vm} {E : String} {k : ClassId} (hW : s.WarmedH vm₁) (h : (T.setVm vm₁).vm.findClass E = some k) : s.vm.findClass E = some k := by
  have h1 : vm₁.findClass E = some k := h
  rw [hW.alike.findClass] at h1
  exact h1
/-- the method's frame g, with q thrown over it -/
def vx_W (p : Program) (l : Launch) (e : Env) (R : Room) (s : State) (m : MethodId) (args : Array Value) (below : List Frame) (meth : Method) (c : Code) (H : Heap) (locs : List Loc) (cells slots : Nat) (Q : State → Prop) (g : JFrame) (q : Addr) : Prop :=
  ∀ T : State, T.heap = H → Stand p l e R s m args below meth c T locs cells slots → ∃ t, Steps p.tables e below ((T.setTop g).pushFrame (.throwing q)) t ∧ Q t
def vx_Run (p : Program) (l : Launch) (e : Env) (R : Room) (s : State) (m : MethodId) (args : Array Value) (below : List Frame) (meth : Method) (c : Code) (H : Heap) (locs : List Loc) (cells slots mc ms : Nat) (g : JFrame) (rest : List Value) (Qa : State → Outcome → State → Prop) (XC : String → State → State → Prop) (free : Addr → Prop) : Prop :=
  ∀ T : State, T.heap = H → Stand p l e R s m args below meth c T locs cells slots →
    (∃ (v : Option Value) (st₀ t T' : State) (L : List Loc), st₀.heap = H ∧ Stand p l e R s m args below meth c T' (locs ++ L) (cells + mc) (slots + ms) ∧ (∀ q ∈ L, free q.base) ∧ T'.heap = t.heap ∧ T'.vm = t.vm ∧ Qa st₀ (.returned v) t ∧
      Goes p e below T g T' { g with pc := g.pc + 3, stack := v.toList ++ rest }) ∨
    (∃ (q : Addr) (st₀ t T' : State) (L : List Loc) (E : String) (ce : Cell), st₀.heap = H ∧ Stand p l e R s m args below meth c T' (locs ++ L) (cells + mc) (slots + ms) ∧ (∀ z ∈ L, free z.base) ∧ T'.heap = t.heap ∧ T'.vm = t.vm ∧ XC E st₀ t ∧ t.heap[q]? = some ce ∧ ce.vm = .none ∧ s.vm.findClass E = some ce.cls ∧
      Steps p.tables e below (T.setTop g) ((T'.setTop { g with stack := rest }).pushFrame (.throwing q)))
def vx_X {S : Type} (px : S → Prop) (B : String → S → State → Prop) (A : Nat → Prop) : String → State → State → Prop := fun E st t => ∃ u : S, px u ∧ B E u t ∧ va_F A st t
section Runs
variable {p : Program} {l : Launch} {e : Env} {R : Room} {s : State} {m : MethodId} {args : Array Value} {below : List Frame} {meth : Method} {c : Code} {H : Heap} {locs : List Loc} {cells slots : Nat}
variable {y : MethodName} {bytes cc : ByteArray} {maxL nL mc ms n index : Nat} {ret : Option FieldType} {ws : List Cond} {rm : Room} {Pc : Array Value → State → Prop} {Qc : Array Value → State → Outcome → State → Prop} {XC : String → State → State → Prop} {free : Addr → Prop} {Ts : List Cond} {own C : String} {b : Addr} {As rest : List Value} {g : JFrame}
theorem vx_callBack (cb : CallB R s args own index y bytes maxL ret ws rm mc ms n) (hM : vx_Met l y ws rm Pc Qc XC mc ms free) (hbl : FrameBlind Pc) : vx_Back l R p e below s args y 3 8 (PreOf R mc ms Pc) (PostOf Qc mc ms free) (vx_Post XC mc ms free) := by
  obtain ⟨hrc, hrs, hfr, hlo, hws, hcw, -, hini, -⟩ := cb
  exact vx_back (bytes := bytes) (maxL := maxL) (ret := ret) hM hbl hrc hrs hfr hlo hws hcw (fun a' U hW => word_at hW (Or.inl (by first | rfl | simp [Cond.onTables, Cond.keeps, Cond.steady])) hini)
theorem vx_runV (S : CallFix p m c cc nL s args Ts own) (hM : vx_Met l y ws rm Pc Qc XC mc ms free) (cw : CallW R s args own C index y bytes maxL ret ws rm mc ms n) (hp : PreV s H C b Pc As)
    (hg : g.method = m) (hn : As.length = n) (hsize : g.locals.size = nL) (hstack : g.stack = As.reverse ++ .ref b :: rest) (hW : 2 * g.monitorRoom + (rest.map fun v => v.category).sum ≤ 8) (hdg : decode cc g.pc = .ok (.invokevirtual index, 3)) (hf : cells + mc ≤ R.cells ∧ slots + ms ≤ R.slots) :
    vx_Run p l e R s m args below meth c H locs cells slots mc ms g rest (Qc (Value.ref b :: As).toArray) XC free := by
  have hK : vx_Back l R p e below s args y 3 8 (PreOf R mc ms Pc) (PostOf Qc mc ms free) (vx_Post XC mc ms free) := vx_callBack cw.1 hM hp.1
  obtain ⟨⟨-, -, -, -, -, -, hcode, -, hy, hlen, hl⟩, hin, hse⟩ := cw
  obtain ⟨hx, hb, hml, ho, -⟩ := S
  obtain ⟨-, ⟨cellB, hcB, hoB, hclB⟩, hPc⟩ := hp
  intro T hT X
  rcases vx_callV X hx (C := C) (bytes := bytes) (maxL := maxL) (ret := ret) ho hl hin hse hcode hy hK (by rw [hT]; exact hcB) hoB hclB hg (hsize.trans hml.symm) (argsL := As) (rest := rest) (fun sig h => hn.trans (hlen sig h)) hstack hW (by rw [hb]; exact hdg)
    (fun vm₁ hW₁ => ⟨hf.1, hf.2, hPc (T.setVm vm₁) hT hW₁⟩) with ⟨v, vm₁, ⟨U', l2, c2, s2⟩, hW₁, X', ⟨g', mk, t, L, e1, e2, hq, h1, hL, h2, h3⟩, st⟩ | ⟨q, vm₁, ⟨U', l2, c2, s2⟩, hW₁, X', ⟨g', mk, t, L, E, ce, e1, e2, hq, hce, hcv, hcl, h1, hL, h2, h3⟩, st⟩
  · dsimp only [Pt.U, Pt.locs, Pt.cells, Pt.slots] at X' e1 e2 h1 h2 h3 st
    subst h1; subst h2; subst h3
    exact Or.inl ⟨v, (T.setVm vm₁).calling g' mk (Value.ref b :: As).toArray, t, U', L, hT, X', hL, e1, e2, hq, st⟩
  · dsimp only [Pt.U, Pt.locs, Pt.cells, Pt.slots] at X' e1 e2 h1 h2 h3 st hcl
    subst h1; subst h2; subst h3
    exact Or.inr ⟨q, (T.setVm vm₁).calling g' mk (Value.ref b :: As).toArray, t, U', L, E, ce, hT, X', hL, e1, e2, hq, hce, hcv, vx_cls hW₁ hcl, st⟩
theorem vx_runS (S : CallFix p m c cc nL s args Ts own) (hM : vx_Met l y ws rm Pc Qc XC mc ms free) (cw : CallB R s args own index y bytes maxL ret ws rm mc ms n ∧ (Cond.static y).before args s = true) (hp : PreS s H Pc As)
    (hg : g.method = m) (hn : As.length = n) (hsize : g.locals.size = nL) (hstack : g.stack = As.reverse ++ rest) (hW : 2 * g.monitorRoom + (rest.map fun v => v.category).sum ≤ 8) (hdg : decode cc g.pc = .ok (.invokestatic index, 3)) (hf : cells + mc ≤ R.cells ∧ slots + ms ≤ R.slots) :
    vx_Run p l e R s m args below meth c H locs cells slots mc ms g rest (Qc As.toArray) XC free := by
  have hK : vx_Back l R p e below s args y 3 8 (PreOf R mc ms Pc) (PostOf Qc mc ms free) (vx_Post XC mc ms free) := vx_callBack cw.1 hM hp.1
  obtain ⟨⟨-, -, -, -, -, -, hcode, hini, hy, hlen, hl⟩, hstt⟩ := cw
  obtain ⟨hx, hb, hml, ho, -⟩ := S
  intro T hT X
  rcases vx_callS X hx (bytes := bytes) (maxL := maxL) (ret := ret) ho hl hstt hini hcode hy hK hg (hsize.trans hml.symm) (argsL := As) (rest := rest) (fun sig h => hn.trans (hlen sig h)) hstack hW (by rw [hb]; exact hdg)
    (fun vm₁ hW₁ => ⟨hf.1, hf.2, hp.2 (T.setVm vm₁) hT hW₁⟩) with ⟨v, vm₁, ⟨U', l2, c2, s2⟩, hW₁, X', ⟨g', mk, t, L, e1, e2, hq, h1, hL, h2, h3⟩, st⟩ | ⟨q, vm₁, ⟨U', l2, c2, s2⟩, hW₁, X', ⟨g', mk, t, L, E, ce, e1, e2, hq, hce, hcv, hcl, h1, hL, h2, h3⟩, st⟩
  · dsimp only [Pt.U, Pt.locs, Pt.cells, Pt.slots] at X' e1 e2 h1 h2 h3 st
    subst h1; subst h2; subst h3
    exact Or.inl ⟨v, (T.setVm vm₁).calling g' mk As.toArray, t, U', L, hT, X', hL, e1, e2, hq, st⟩
  · dsimp only [Pt.U, Pt.locs, Pt.cells, Pt.slots] at X' e1 e2 h1 h2 h3 st hcl
    subst h1; subst h2; subst h3
    exact Or.inr ⟨q, (T.setVm vm₁).calling g' mk As.toArray, t, U', L, E, ce, hT, X', hL, e1, e2, hq, hce, hcv, vx_cls hW₁ hcl, st⟩
end Runs
section Rows
variable {p : Program} {l : Launch} {e : Env} {R : Room} {s : State} {m : MethodId} {args : Array Value} {below : List Frame} {meth : Method} {c : Code} {H : Heap} {locs : List Loc} {cells slots : Nat} {Q : State → Prop}
variable {mc ms : Nat} {free : Addr → Prop} {A0 A1 : Nat → Prop} {H0 : Heap} {a : Array Value} {pc : Nat} {ls : Array Slot} {st0 rest : List Value}
theorem vx_keep {st₀ t T' : State} {L : List Loc} (h0 : st₀.heap = H) (e1 : T'.heap = t.heap) (hS : va_S A0 H0 H locs) (hA : ∀ q, q < H.size → A1 q → A0 q) (hf : ∀ q, free q → A0 q) (hL : ∀ q ∈ L, free q.base) (hF : va_F A1 st₀ t) :
    H.size ≤ T'.heap.size ∧ (∀ q : Nat, q < H.size → ¬ A1 q → T'.heap[q]? = H[q]?) ∧ va_S A0 H0 T'.heap (locs ++ L) := by
  obtain ⟨hz, hk⟩ := hF
  rw [h0] at hz hk
  exact ⟨by rw [e1]; exact hz, fun q h1 h2 => by rw [e1]; exact hk q h1 h2,
    ⟨Nat.le_trans hS.1 (by rw [e1]; exact hz), fun q h1 h2 => by rw [e1, hk q (Nat.lt_of_lt_of_le h1 hS.1) (fun z => h2 (hA q (Nat.lt_of_lt_of_le h1 hS.1) z))]; exact hS.2.1 q h1 h2, fun q hq => by
      rcases List.mem_append.mp hq with h | h
      · exact hS.2.2 q h
      · exact hf _ (hL q h)⟩⟩
theorem vx_calli {S SX : Type} {post : Int32 → S → Prop} {px : SX → Prop} {B : S → State → Prop} {BX : String → SX → State → Prop} {AX : Nat → Prop} (hr : vx_Run p l e R s m args below meth c H locs cells slots mc ms (F0 m pc ls st0) rest (va_Qi post B A1 a) (vx_X px BX AX) free) (hS : va_S A0 H0 H locs) (hA : ∀ q, q < H.size → A1 q → A0 q) (hf : ∀ q, free q → A0 q) (hAX : ∀ q, q < H.size → AX q → A0 q)
    (kx : ∀ (E : String) (ce : Cell) (q9 : Addr) (u : SX) (t : State) (H1 : Heap) (locs1 : List Loc), t.heap = H1 → s.vm.Alike t.vm → px u → BX E u t → H.size ≤ H1.size → (∀ q : Nat, q < H.size → ¬ AX q → H1[q]? = H[q]?) → va_S A0 H0 H1 locs1 → H1[q9]? = some ce → ce.vm = .none → s.vm.findClass E = some ce.cls → vx_W p l e R s m args below meth c H1 locs1 (cells + mc) (slots + ms) Q (F0 m pc ls rest) q9)
    (kk : ∀ (r : Int32) (u : S) (t : State) (H1 : Heap) (locs1 : List Loc), t.heap = H1 → s.vm.Alike t.vm → post r u → B u t → H.size ≤ H1.size → (∀ q : Nat, q < H.size → ¬ A1 q → H1[q]? = H[q]?) → va_S A0 H0 H1 locs1 → W p l e R s m args below meth c H1 locs1 (cells + mc) (slots + ms) Q (F0 m (pc + 3) ls (.int r :: rest))) : W p l e R s m args below meth c H locs cells slots Q (F0 m pc ls st0) := by
  intro T hT X
  rcases hr T hT X with ⟨v, st₀, t, T', L, h0, X', hL, e1, e2, ⟨⟨r, u, hv, hp, hb⟩, hF⟩, st⟩ | ⟨q, st₀, t, T', L, E, ce, h0, X', hL, e1, e2, ⟨u, hp, hb, hF⟩, hce, hcv, hcl, st⟩
  · cases hv
    obtain ⟨k1, k2, k3⟩ := vx_keep h0 e1 hS hA hf hL hF
    obtain ⟨t2, a1, b1⟩ := kk r u t T'.heap (locs ++ L) e1.symm (by rw [← e2]; exact X'.warmed.alike) hp hb k1 k2 k3 T' rfl X'
    exact ⟨t2, st t2 a1, b1⟩
  · obtain ⟨k1, k2, k3⟩ := vx_keep h0 e1 hS hAX hf hL hF
    obtain ⟨t2, a1, b1⟩ := kx E ce q u t T'.heap (locs ++ L) e1.symm (by rw [← e2]; exact X'.warmed.alike) hp hb k1 k2 k3 (by rw [e1]; exact hce) hcv hcl T' rfl X'
    exact ⟨t2, st.trans a1, b1⟩
theorem vx_calll {S SX : Type} {post : Int64 → S → Prop} {px : SX → Prop} {B : S → State → Prop} {BX : String → SX → State → Prop} {AX : Nat → Prop} (hr : vx_Run p l e R s m args below meth c H locs cells slots mc ms (F0 m pc ls st0) rest (va_Ql post B A1 a) (vx_X px BX AX) free) (hS : va_S A0 H0 H locs) (hA : ∀ q, q < H.size → A1 q → A0 q) (hf : ∀ q, free q → A0 q) (hAX : ∀ q, q < H.size → AX q → A0 q)
    (kx : ∀ (E : String) (ce : Cell) (q9 : Addr) (u : SX) (t : State) (H1 : Heap) (locs1 : List Loc), t.heap = H1 → s.vm.Alike t.vm → px u → BX E u t → H.size ≤ H1.size → (∀ q : Nat, q < H.size → ¬ AX q → H1[q]? = H[q]?) → va_S A0 H0 H1 locs1 → H1[q9]? = some ce → ce.vm = .none → s.vm.findClass E = some ce.cls → vx_W p l e R s m args below meth c H1 locs1 (cells + mc) (slots + ms) Q (F0 m pc ls rest) q9)
    (kk : ∀ (r : Int64) (u : S) (t : State) (H1 : Heap) (locs1 : List Loc), t.heap = H1 → s.vm.Alike t.vm → post r u → B u t → H.size ≤ H1.size → (∀ q : Nat, q < H.size → ¬ A1 q → H1[q]? = H[q]?) → va_S A0 H0 H1 locs1 → W p l e R s m args below meth c H1 locs1 (cells + mc) (slots + ms) Q (F0 m (pc + 3) ls (.long r :: rest))) : W p l e R s m args below meth c H locs cells slots Q (F0 m pc ls st0) := by
  intro T hT X
  rcases hr T hT X with ⟨v, st₀, t, T', L, h0, X', hL, e1, e2, ⟨⟨r, u, hv, hp, hb⟩, hF⟩, st⟩ | ⟨q, st₀, t, T', L, E, ce, h0, X', hL, e1, e2, ⟨u, hp, hb, hF⟩, hce, hcv, hcl, st⟩
  · cases hv
    obtain ⟨k1, k2, k3⟩ := vx_keep h0 e1 hS hA hf hL hF
    obtain ⟨t2, a1, b1⟩ := kk r u t T'.heap (locs ++ L) e1.symm (by rw [← e2]; exact X'.warmed.alike) hp hb k1 k2 k3 T' rfl X'
    exact ⟨t2, st t2 a1, b1⟩
  · obtain ⟨k1, k2, k3⟩ := vx_keep h0 e1 hS hAX hf hL hF
    obtain ⟨t2, a1, b1⟩ := kx E ce q u t T'.heap (locs ++ L) e1.symm (by rw [← e2]; exact X'.warmed.alike) hp hb k1 k2 k3 (by rw [e1]; exact hce) hcv hcl T' rfl X'
    exact ⟨t2, st.trans a1, b1⟩
theorem vx_callf {S SX : Type} {post : UInt32 → S → Prop} {px : SX → Prop} {B : S → State → Prop} {BX : String → SX → State → Prop} {AX : Nat → Prop} (hr : vx_Run p l e R s m args below meth c H locs cells slots mc ms (F0 m pc ls st0) rest (va_Qf post B A1 a) (vx_X px BX AX) free) (hS : va_S A0 H0 H locs) (hA : ∀ q, q < H.size → A1 q → A0 q) (hf : ∀ q, free q → A0 q) (hAX : ∀ q, q < H.size → AX q → A0 q)
    (kx : ∀ (E : String) (ce : Cell) (q9 : Addr) (u : SX) (t : State) (H1 : Heap) (locs1 : List Loc), t.heap = H1 → s.vm.Alike t.vm → px u → BX E u t → H.size ≤ H1.size → (∀ q : Nat, q < H.size → ¬ AX q → H1[q]? = H[q]?) → va_S A0 H0 H1 locs1 → H1[q9]? = some ce → ce.vm = .none → s.vm.findClass E = some ce.cls → vx_W p l e R s m args below meth c H1 locs1 (cells + mc) (slots + ms) Q (F0 m pc ls rest) q9)
    (kk : ∀ (r : UInt32) (u : S) (t : State) (H1 : Heap) (locs1 : List Loc), t.heap = H1 → s.vm.Alike t.vm → post r u → B u t → H.size ≤ H1.size → (∀ q : Nat, q < H.size → ¬ A1 q → H1[q]? = H[q]?) → va_S A0 H0 H1 locs1 → W p l e R s m args below meth c H1 locs1 (cells + mc) (slots + ms) Q (F0 m (pc + 3) ls (.float r :: rest))) : W p l e R s m args below meth c H locs cells slots Q (F0 m pc ls st0) := by
  intro T hT X
  rcases hr T hT X with ⟨v, st₀, t, T', L, h0, X', hL, e1, e2, ⟨⟨r, u, hv, hp, hb⟩, hF⟩, st⟩ | ⟨q, st₀, t, T', L, E, ce, h0, X', hL, e1, e2, ⟨u, hp, hb, hF⟩, hce, hcv, hcl, st⟩
  · cases hv
    obtain ⟨k1, k2, k3⟩ := vx_keep h0 e1 hS hA hf hL hF
    obtain ⟨t2, a1, b1⟩ := kk r u t T'.heap (locs ++ L) e1.symm (by rw [← e2]; exact X'.warmed.alike) hp hb k1 k2 k3 T' rfl X'
    exact ⟨t2, st t2 a1, b1⟩
  · obtain ⟨k1, k2, k3⟩ := vx_keep h0 e1 hS hAX hf hL hF
    obtain ⟨t2, a1, b1⟩ := kx E ce q u t T'.heap (locs ++ L) e1.symm (by rw [← e2]; exact X'.warmed.alike) hp hb k1 k2 k3 (by rw [e1]; exact hce) hcv hcl T' rfl X'
    exact ⟨t2, st.trans a1, b1⟩
theorem vx_calld {S SX : Type} {post : UInt64 → S → Prop} {px : SX → Prop} {B : S → State → Prop} {BX : String → SX → State → Prop} {AX : Nat → Prop} (hr : vx_Run p l e R s m args below meth c H locs cells slots mc ms (F0 m pc ls st0) rest (va_Qd post B A1 a) (vx_X px BX AX) free) (hS : va_S A0 H0 H locs) (hA : ∀ q, q < H.size → A1 q → A0 q) (hf : ∀ q, free q → A0 q) (hAX : ∀ q, q < H.size → AX q → A0 q)
    (kx : ∀ (E : String) (ce : Cell) (q9 : Addr) (u : SX) (t : State) (H1 : Heap) (locs1 : List Loc), t.heap = H1 → s.vm.Alike t.vm → px u → BX E u t → H.size ≤ H1.size → (∀ q : Nat, q < H.size → ¬ AX q → H1[q]? = H[q]?) → va_S A0 H0 H1 locs1 → H1[q9]? = some ce → ce.vm = .none → s.vm.findClass E = some ce.cls → vx_W p l e R s m args below meth c H1 locs1 (cells + mc) (slots + ms) Q (F0 m pc ls rest) q9)
    (kk : ∀ (r : UInt64) (u : S) (t : State) (H1 : Heap) (locs1 : List Loc), t.heap = H1 → s.vm.Alike t.vm → post r u → B u t → H.size ≤ H1.size → (∀ q : Nat, q < H.size → ¬ A1 q → H1[q]? = H[q]?) → va_S A0 H0 H1 locs1 → W p l e R s m args below meth c H1 locs1 (cells + mc) (slots + ms) Q (F0 m (pc + 3) ls (.double r :: rest))) : W p l e R s m args below meth c H locs cells slots Q (F0 m pc ls st0) := by
  intro T hT X
  rcases hr T hT X with ⟨v, st₀, t, T', L, h0, X', hL, e1, e2, ⟨⟨r, u, hv, hp, hb⟩, hF⟩, st⟩ | ⟨q, st₀, t, T', L, E, ce, h0, X', hL, e1, e2, ⟨u, hp, hb, hF⟩, hce, hcv, hcl, st⟩
  · cases hv
    obtain ⟨k1, k2, k3⟩ := vx_keep h0 e1 hS hA hf hL hF
    obtain ⟨t2, a1, b1⟩ := kk r u t T'.heap (locs ++ L) e1.symm (by rw [← e2]; exact X'.warmed.alike) hp hb k1 k2 k3 T' rfl X'
    exact ⟨t2, st t2 a1, b1⟩
  · obtain ⟨k1, k2, k3⟩ := vx_keep h0 e1 hS hAX hf hL hF
    obtain ⟨t2, a1, b1⟩ := kx E ce q u t T'.heap (locs ++ L) e1.symm (by rw [← e2]; exact X'.warmed.alike) hp hb k1 k2 k3 (by rw [e1]; exact hce) hcv hcl T' rfl X'
    exact ⟨t2, st.trans a1, b1⟩
theorem vx_callv {S SX : Type} {post : S → Prop} {px : SX → Prop} {B : S → State → Prop} {BX : String → SX → State → Prop} {AX : Nat → Prop} (hr : vx_Run p l e R s m args below meth c H locs cells slots mc ms (F0 m pc ls st0) rest (va_Qv post B A1 a) (vx_X px BX AX) free) (hS : va_S A0 H0 H locs) (hA : ∀ q, q < H.size → A1 q → A0 q) (hf : ∀ q, free q → A0 q) (hAX : ∀ q, q < H.size → AX q → A0 q)
    (kx : ∀ (E : String) (ce : Cell) (q9 : Addr) (u : SX) (t : State) (H1 : Heap) (locs1 : List Loc), t.heap = H1 → s.vm.Alike t.vm → px u → BX E u t → H.size ≤ H1.size → (∀ q : Nat, q < H.size → ¬ AX q → H1[q]? = H[q]?) → va_S A0 H0 H1 locs1 → H1[q9]? = some ce → ce.vm = .none → s.vm.findClass E = some ce.cls → vx_W p l e R s m args below meth c H1 locs1 (cells + mc) (slots + ms) Q (F0 m pc ls rest) q9)
    (kk : ∀ (u : S) (t : State) (H1 : Heap) (locs1 : List Loc), t.heap = H1 → s.vm.Alike t.vm → post u → B u t → H.size ≤ H1.size → (∀ q : Nat, q < H.size → ¬ A1 q → H1[q]? = H[q]?) → va_S A0 H0 H1 locs1 → W p l e R s m args below meth c H1 locs1 (cells + mc) (slots + ms) Q (F0 m (pc + 3) ls (rest))) : W p l e R s m args below meth c H locs cells slots Q (F0 m pc ls st0) := by
  intro T hT X
  rcases hr T hT X with ⟨v, st₀, t, T', L, h0, X', hL, e1, e2, ⟨⟨u, hv, hp, hb⟩, hF⟩, st⟩ | ⟨q, st₀, t, T', L, E, ce, h0, X', hL, e1, e2, ⟨u, hp, hb, hF⟩, hce, hcv, hcl, st⟩
  · cases hv
    obtain ⟨k1, k2, k3⟩ := vx_keep h0 e1 hS hA hf hL hF
    obtain ⟨t2, a1, b1⟩ := kk u t T'.heap (locs ++ L) e1.symm (by rw [← e2]; exact X'.warmed.alike) hp hb k1 k2 k3 T' rfl X'
    exact ⟨t2, st t2 a1, b1⟩
  · obtain ⟨k1, k2, k3⟩ := vx_keep h0 e1 hS hAX hf hL hF
    obtain ⟨t2, a1, b1⟩ := kx E ce q u t T'.heap (locs ++ L) e1.symm (by rw [← e2]; exact X'.warmed.alike) hp hb k1 k2 k3 (by rw [e1]; exact hce) hcv hcl T' rfl X'
    exact ⟨t2, st.trans a1, b1⟩
/-- caught by the row x of this method's table; the rows ahead don't take it -/
theorem vx_catch {own name : String} {E : String} {ce : Cell} {q : Addr} (hown : s.vm.findClass own = some m.cls) (pre : List ExceptionTableEntry) (x : ExceptionTableEntry) (suf : List ExceptionTableEntry) (hsplit : c.exceptionTable.toList = pre ++ x :: suf)
    (hpass : ∀ z ∈ pre, covers z pc = false ∨ (z.catchType ≠ 0 ∧ ∃ nm : String, (Cond.classLink own z.catchType nm).before args s = true ∧ va_Nc E nm s)) (hx : covers x pc = true) (h0 : x.catchType ≠ 0)
    (hlink : (Cond.classLink own x.catchType name).before args s = true) (hcast : (Cond.castable E name).before args s = true) (hcell : H[q]? = some ce) (hv : ce.vm = .none) (hcl : s.vm.findClass E = some ce.cls)
    (kk : W p l e R s m args below meth c H locs cells slots Q (F0 m x.handlerPc ls [.ref q])) : vx_W p l e R s m args below meth c H locs cells slots Q (F0 m pc ls rest) q := by
  intro T hT X
  have hpl : e.platform.magicAccessors = ({} : Platform).magicAccessors := by rw [X.admits.platform]
  obtain ⟨c3, c4, hc3, hc4, hasg⟩ := Cond.castable_spec hcast
  cases Option.some.inj (hc3.symm.trans hcl)
  obtain ⟨c5, hc5, hcl5⟩ := Cond.classLink_spec hown hlink e.platform hpl
  cases Option.some.inj (hc4.symm.trans hc5)
  obtain ⟨vm', X', st⟩ := X.thenCaughtThrough q (g := F0 m pc ls rest) rfl (Steps.refl _) (by rw [hT]; exact hcell) (by rw [hv]; rfl) (by obtain ⟨k9, h9, -⟩ := Vm.findClass_spec hcl; exact ⟨k9, h9⟩) pre x suf hsplit
    (fun z hz => by
      rcases hpass z hz with h | ⟨hz0, nm, hl1, hn1⟩
      · exact Or.inl h
      · obtain ⟨c6, hc6, hcl6⟩ := Cond.classLink_spec hown hl1 e.platform hpl
        obtain ⟨a8, b8, h1, h2, h3⟩ := hn1
        cases Option.some.inj (h1.symm.trans hcl)
        cases Option.some.inj (h2.symm.trans hc6)
        exact Or.inr ⟨hz0, _, hcl6, h3⟩) hx (Or.inr ⟨h0, c4, hcl5, hasg⟩)
  obtain ⟨t, a1, b1⟩ := kk (T.setVm vm') hT X'
  exact ⟨t, st.trans a1, b1⟩
end Rows
section Ends
variable {p : Program} {l : Launch} {e : Env} {R : Room} {s : State} {m : MethodId} {args : Array Value} {below : List Frame} {meth : Method} {c : Code} {H : Heap} {locs : List Loc} {cells slots : Nat} {Q : State → Prop}
variable {mc ms : Nat} {free : Addr → Prop} {A0 A1 : Nat → Prop} {H0 : Heap} {a : Array Value} {ls : Array Slot} {st0 rest : List Value}
variable {Qc : Array Value → State → Outcome → State → Prop} {XC : String → State → State → Prop}
/-- what a body that may throw owes at its end -/
def vx_MQ (below : List Frame) (Qc : Array Value → State → Outcome → State → Prop) (XC : String → State → State → Prop) (a : Array Value) (s : State) (mc ms : Nat) (free : Addr → Prop) : State → Prop := fun t =>
  ∃ o, t.status = .running ∧ Ended t below o ∧ vx_Q Qc XC mc ms free a s o t
theorem vx_ret {g : JFrame} {mc ms : Nat} (k : W p l e R s m args below meth c H locs cells slots (MQ below Qc args s mc ms free) g) : W p l e R s m args below meth c H locs cells slots (vx_MQ below Qc XC args s mc ms free) g := by
  intro T hT X
  obtain ⟨t, a1, o, b1, b2, b3, b4⟩ := k T hT X
  exact ⟨t, a1, o, b1, b2, Or.inl ⟨b3, b4⟩⟩
/-- not caught here: it goes on to the caller -/
theorem vx_widen {g : JFrame} {q : Addr} {k n : Nat} (h1 : cells ≤ k) (h2 : slots ≤ n) (kk : vx_W p l e R s m args below meth c H locs k n Q g q) : vx_W p l e R s m args below meth c H locs cells slots Q g q := fun T hT X => kk T hT (stand_widen X h1 h2)
theorem vx_out {pc : Nat} {E : String} {ce : Cell} {q : Addr} {mc ms : Nat} (hout : ∀ x ∈ c.exceptionTable.toList, covers x pc = false) (hlocks : meth.locks = false) (hcell : H[q]? = some ce) (hv : ce.vm = .none) (hcl : s.vm.findClass E = some ce.cls)
    (hx : ∀ t : State, t.heap = H → s.vm.Alike t.vm → XC E s t) (hf : ∀ z ∈ locs, free z.base) (hc : cells ≤ mc) (hs : slots ≤ ms) :
    vx_W p l e R s m args below meth c H locs cells slots (vx_MQ below Qc XC args s mc ms free) (F0 m pc ls rest) q := by
  intro T hT X
  obtain ⟨st1, hrun, hend, hW, hsm⟩ := X.leaveThrown q (g := F0 m pc ls rest) rfl rfl rfl hout hlocks
  have hcell9 : (T.setFrames (.throwing q :: below)).heap[q]? = some ce := by
    show T.heap[q]? = some ce
    rw [hT]; exact hcell
  exact ⟨_, st1, .threw q, hrun, hend, Or.inr ⟨q, rfl, E, ce, locs, hx _ hT hW.alike, hcell9, hv, hcl, hW, hsm.mono hc hs, hf⟩⟩
theorem vx_frame {U : State} {k n : Nat} (h : s.sameButNew ({ U with vm := s.vm } : State) locs k n) : s.heap.size ≤ U.heap.size ∧ ∀ q : Nat, q < s.heap.size → (∀ z ∈ locs, z.base ≠ q) → U.heap[q]? = s.heap[q]? := by
  obtain ⟨-, h2, -, -, -, h6⟩ := h
  refine ⟨h2, fun q hq hz => ?_⟩
  obtain ⟨c9, e1, e2, e3, e4⟩ := h6 q _ (Array.getElem?_eq_getElem hq)
  have hs : c9.slots = (s.heap[q]).slots := Array.ext_getElem? fun i => e4 i fun hm => hz _ hm rfl
  have h9 : c9 = s.heap[q] := by
    rw [hs] at e2
    exact e2
  have e5 : U.heap[q]? = some c9 := e1
  rw [e5, h9, Array.getElem?_eq_getElem hq]
/-- the words of a throw but the four that speak of the heap -/
def vx_no (w : Cond) : Bool := decide (w ≠ .isRef (.static Bundle.tN "UNASSIGNED_STACK" Bundle.steD)) && decide (w ≠ .isRef (.static Bundle.tN "SUPPRESSED_SENTINEL" Bundle.listD)) && decide (w ≠ .laysStatic Bundle.tN "UNASSIGNED_STACK" Bundle.steD) && decide (w ≠ .laysStatic Bundle.tN "SUPPRESSED_SENTINEL" Bundle.listD)
def vx_at0 (own : String) (ic : Nat) (X : String) (names : List String) : List Cond := (Bundle.ownAtoms0 own ic X names).filter vx_no
def vx_atS (own : String) (ic : Nat) (X : String) (names : List String) : List Cond := (Bundle.ownAtoms own ic X names).filter vx_no
/-- a word that the tables alone decide, or a good one -/
def vx_ot (w : Cond) : Bool := w.onTables || goodWord w
theorem vx_ot_at {args a' : Array Value} {s U : State} {w : Cond} (hW : s.WarmedH U.vm) (hvm : s.vm = U.vm) (hg : vx_ot w = true) (h : w.before args s = true) : w.before a' U = true := by
  simp only [vx_ot, Bool.or_eq_true] at hg
  rcases hg with hg | hg
  · exact va_tabs hg hvm h
  · exact word_at hW (good_of_word hg) h
/-- a list's words: the good ones out of the method's own list, the others by premises of their own -/
theorem vx_hat {args : Array Value} {s : State} {L B : List Cond} (h1 : ∀ w ∈ L.filter goodWord, w.before args s = true) (h2 : ∀ w ∈ L.filter (fun w => !goodWord w), w ∈ B) (h3 : ∀ w ∈ B, w.before args s = true) : ∀ w ∈ L, w.before args s = true := by
  intro w hw
  by_cases g : goodWord w = true
  · exact h1 w (List.mem_filter.mpr ⟨hw, g⟩)
  · refine h3 w (h2 w (List.mem_filter.mpr ⟨hw, ?_⟩))
    show (!goodWord w) = true
    cases hgw : goodWord w
    · rfl
    · exact absurd hgw g
theorem vx_c {args : Array Value} {s : State} {w : Cond} {B : List Cond} (h : w.before args s = true) (t : ∀ w ∈ B, w.before args s = true) : ∀ w' ∈ w :: B, w'.before args s = true := fun w' h' => (List.mem_cons.mp h').elim (fun e => by rw [e]; exact h) (t w')
theorem vx_n {args : Array Value} {s : State} : ∀ w ∈ ([] : List Cond), w.before args s = true := fun _ h => nomatch h
theorem vx_own {args : Array Value} {s : State} {L : List Cond} (h1 : ∀ w ∈ L.filter vx_no, w.before args s = true)
    (hU : (Cond.isRef (.static Bundle.tN "UNASSIGNED_STACK" Bundle.steD)).before args s = true) (hN : (Cond.isRef (.static Bundle.tN "SUPPRESSED_SENTINEL" Bundle.listD)).before args s = true)
    (lU : (Cond.laysStatic Bundle.tN "UNASSIGNED_STACK" Bundle.steD).before args s = true) (lN : (Cond.laysStatic Bundle.tN "SUPPRESSED_SENTINEL" Bundle.listD).before args s = true) : ∀ w ∈ L, w.before args s = true := by
  intro w hw
  by_cases e1 : w = .isRef (.static Bundle.tN "UNASSIGNED_STACK" Bundle.steD)
  · rw [e1]; exact hU
  · by_cases e2 : w = .isRef (.static Bundle.tN "SUPPRESSED_SENTINEL" Bundle.listD)
    · rw [e2]; exact hN
    · by_cases e3 : w = .laysStatic Bundle.tN "UNASSIGNED_STACK" Bundle.steD
      · rw [e3]; exact lU
      · by_cases e4 : w = .laysStatic Bundle.tN "SUPPRESSED_SENTINEL" Bundle.listD
        · rw [e4]; exact lN
        · exact h1 w (List.mem_filter.mpr ⟨hw, by unfold vx_no; rw [decide_eq_true e1, decide_eq_true e2, decide_eq_true e3, decide_eq_true e4]; rfl⟩)
/-- where a static field lies, its class's statics cell in H -/
def vx_L (C n d : String) (A : Nat → Prop) (U : State) (H : Heap) : Prop := ∃ (c : ClassId) (k : Class) (i : Nat) (f : Field) (a : Nat) (cell : Cell), U.vm.findClass C = some c ∧ U.fieldFound? C n d = some (c, k, i, f) ∧ f.isStatic = true ∧ k.statics = some a ∧ H[a]? = some cell ∧ cell.vm.isStatics = true ∧ cell.cls = c ∧ f.slot < cell.slots.size ∧ k.staticTypes[f.slot]? = some f.type ∧ ¬ A a
theorem vx_L.moved {C n d : String} {A : Nat → Prop} {u U : State} {H : Heap} (hvm : u.vm.Alike U.vm) (h : vx_L C n d A u H) : vx_L C n d A U H := by
  obtain ⟨c, k, i, f, a, cell, h1, h2, h3, h4, h5, h6, h7, h8, h9, h10⟩ := h
  obtain ⟨k', hi', he⟩ := State.fieldFound?_setVm hvm h2
  exact ⟨c, k', i, f, a, cell, by rw [hvm.findClass]; exact h1, hi', h3, by rw [he]; exact h4, h5, h6, h7, h8, by rw [he]; exact h9, h10⟩
theorem vx_L.kept {C n d : String} {A : Nat → Prop} {U : State} {H H1 : Heap} (h : vx_L C n d A U H) (hq : ∀ a : Nat, a < H.size → ¬ A a → H1[a]? = H[a]?) : vx_L C n d A U H1 := by
  obtain ⟨c, k, i, f, a, cell, h1, h2, h3, h4, h5, h6, h7, h8, h9, h10⟩ := h
  exact ⟨c, k, i, f, a, cell, h1, h2, h3, h4, by rw [hq a (Array.getElem?_eq_some_iff.mp h5).1 h10]; exact h5, h6, h7, h8, h9, h10⟩
theorem vx_L.narrow {C n d : String} {A B : Nat → Prop} {U : State} {H : Heap} (h : vx_L C n d A U H) (hAB : ∀ q, B q → A q) : vx_L C n d B U H := by
  obtain ⟨c, k, i, f, a, cell, h1, h2, h3, h4, h5, h6, h7, h8, h9, h10⟩ := h
  exact ⟨c, k, i, f, a, cell, h1, h2, h3, h4, h5, h6, h7, h8, h9, fun z => h10 (hAB _ z)⟩
theorem vx_L.word {C n d : String} {A : Nat → Prop} {s : State} {args : Array Value} (h : vx_L C n d A s s.heap) : (Cond.laysStatic C n d).before args s = true := by
  obtain ⟨c, k, i, f, a, cell, h1, h2, h3, h4, h5, h6, h7, h8, h9, -⟩ := h
  show (Cond.laysStatic C n d).holds args s none s [] = true
  exact Cond.laysStatic_of h1 h2 h3 h4 h5 h6 h7 h8 h9
/-- .. and what it holds: null or some reference -/
def vx_Zq (C n d : String) (A : Nat → Prop) (U : State) (H : Heap) : Prop := va_Zq C n d A U H ∧ vx_L C n d A U H
theorem vx_Zq.moved {C n d : String} {A : Nat → Prop} {u U : State} {H : Heap} (hvm : u.vm.Alike U.vm) (h : vx_Zq C n d A u H) : vx_Zq C n d A U H := ⟨va_Zq.moved hvm h.1, vx_L.moved hvm h.2⟩
theorem vx_Zq.kept {C n d : String} {A : Nat → Prop} {U : State} {H H1 : Heap} (h : vx_Zq C n d A U H) (hq : ∀ a : Nat, a < H.size → ¬ A a → H1[a]? = H[a]?) : vx_Zq C n d A U H1 := ⟨va_Zq.kept h.1 hq, vx_L.kept h.2 hq⟩
theorem vx_Zq.narrow {C n d : String} {A B : Nat → Prop} {U : State} {H : Heap} (h : vx_Zq C n d A U H) (hAB : ∀ q, B q → A q) : vx_Zq C n d B U H := ⟨va_Zq.narrow h.1 hAB, vx_L.narrow h.2 hAB⟩
theorem vx_Zqof {args : Array Value} {s : State} {C n d : String} {A : Nat → Prop} (hl : (Cond.laysStatic C n d).before args s = true) (hini : (Cond.initialized C).before args s = true) (h : (Cond.isRef (.static C n d)).before args s = true) (hA : ∀ a : Nat, a < s.heap.size → ¬ A a) : vx_Zq C n d A s s.heap := by
  refine ⟨va_Zqof hl hini h hA, ?_⟩
  obtain ⟨c, k, i, f, a, cell, h1, h2, h3, h4, h5, h6, h7, h8, h9⟩ := Cond.laysStatic_spec hl
  exact ⟨c, k, i, f, a, cell, h1, h2, h3, h4, h5, h6, h7, h8, h9, hA a (Array.getElem?_eq_some_iff.mp h5).1⟩
theorem vx_isRef {C n d : String} {v : Value} {A : Nat → Prop} {s : State} {args : Array Value} (h : va_Z C n d v A s s.heap) (hv : v.isRef = true) : (Cond.isRef (.static C n d)).before args s = true := by
  obtain ⟨cf, kf, fi, f, a, cell, h1, h2, h3, h4, h5, h6, h7, -⟩ := h
  have he : (Term.static C n d).eval args s none [] s = some v := by
    simp [Term.eval, State.fieldNamed?, h1, h2, h4, h5, h6, h7]
  simp only [Cond.before, Cond.holds, Cond.value, he]
  cases v <;> simp_all [Value.isRef]
theorem vx_isRefq {C n d : String} {A : Nat → Prop} {s : State} {args : Array Value} (h : va_Zq C n d A s s.heap) : (Cond.isRef (.static C n d)).before args s = true := by
  rcases h with h | ⟨t, h⟩
  · exact vx_isRef h rfl
  · exact vx_isRef h rfl
/-- the same frame, seen from here: as if the method were called anew in this heap -/
theorem vx_rebase {T : State} (X : Stand p l e R s m args below meth c T locs cells slots) {R' : Room} (hf : R'.frames ≤ R.frames) (hl : R'.locals ≤ R.locals) (hc : cells + R'.cells ≤ R.cells) (hs : slots + R'.slots ≤ R.slots) :
    Stand p l e R' ((T.setVm s.vm).setFrames (.invoking m args :: below)) m args below meth c T [] 0 0 := by
  have htop : (T.setVm s.vm).topJava?.isSome := X.here.top
  have hF : ((T.setVm s.vm).setFrames (.invoking m args :: below)).frames = .invoking m args :: below := State.frames_setFrames _ (State.cur_lt_of_top htop)
  obtain ⟨g₀, hg0⟩ := Option.isSome_iff_exists.mp htop
  obtain ⟨r, hr⟩ := State.topJava?_eq_some.mp hg0
  have hl9 : e.platform.stackLimits (T.setVm s.vm).me = e.platform.stackLimits s.me := X.limits
  have hb9 : (T.setVm s.vm).me.stackBytes = s.me.stackBytes := X.bytes
  refine ⟨X.admits, X.cas, X.clock, hF, ?_, X.hears, X.method, X.code, X.here, X.tail, X.warmed, ?_, ?_, ?_⟩
  · have h := X.room
    have hU : ((T.setVm s.vm).setFrames (.invoking m args :: below)).localsInUse = s.localsInUse := by
      rw [State.localsInUse_invoking hF (meth := meth) (c := c) X.method X.code, State.localsInUse_invoking X.frames X.method X.code]
    simp only [State.hasRoom, Bool.and_eq_true, decide_eq_true_eq] at h ⊢
    obtain ⟨⟨⟨⟨h1, h2, h3, h4, h5, h6⟩, h7⟩, h8⟩, h9⟩ := h
    rw [X.frames, List.length_cons] at h2 h3
    have q1 := X.heapSize
    have q2 := X.used
    simp only [hF, hU, List.length_cons, State.stackLimits_setFrames, State.stackBytes_setFrames, hl9, hb9]
    refine ⟨⟨⟨⟨by omega, by omega, by omega, by omega, by omega, h6⟩, ?_⟩, ?_⟩, X.book⟩
    · show T.heap.size + R'.cells ≤ e.platform.maxCells
      omega
    · show T.slotsUsed + R'.slots ≤ e.platform.maxSlots
      omega
  · rw [State.stackLimits_setFrames]; rfl
  · rw [State.stackBytes_setFrames]; rfl
  · refine ⟨?_, Nat.le_refl _, Nat.le_refl _, ?_, ?_, fun a c9 h9 => ⟨c9, h9, rfl, rfl, fun _ _ => rfl⟩⟩
    · obtain ⟨t, ht, -⟩ := State.frames_cons hr
      show T.setVm s.vm = { ((T.setVm s.vm).setFrames (.invoking m args :: below)).setFrames (T.setVm s.vm).frames with heap := T.heap, slotsUsed := T.slotsUsed }
      rw [State.setFrames_setFrames, State.setFrames_self ht]
      rfl
    · show T.slotsUsed = T.slotsUsed + ((T.heap.toList.drop T.heap.size).map (·.slots.size)).sum
      rw [List.drop_eq_nil_of_le (Nat.le_of_eq Array.length_toList)]
      rfl
    · show ((T.heap.toList.drop T.heap.size).map (·.slots.size)).sum ≤ 0
      rw [List.drop_eq_nil_of_le (Nat.le_of_eq Array.length_toList)]
      exact Nat.le_refl _
/-- 'throw new E()': new; dup; invokespecial; athrow -/
theorem vx_throw0 {cc : ByteArray} {pc : Nat} (hexec : p.tables.exec = Jvm.exec) (hb : c.code = cc) (hl : l.stackTraces = false) {own cls : String} {names : List String} {ik ic mc ms : Nat} {A : Nat → Prop}
    (hown : s.vm.findClass own = some m.cls) (hcls : Bundle.fit cls = true) (hnames : ∀ n ∈ names, Bundle.fit n = true)
    (hk : (Cond.classLink own ik cls).before args s = true) (hini : (Cond.initialized cls).before args s = true) (hat : ∀ w ∈ vx_at0 own ic cls names, w.before args s = true)
    (hgood : ∀ w ∈ Cond.classLink own ik cls :: Cond.initialized cls :: vx_at0 own ic cls names, vx_ot w = true)
    (hU : vx_Zq Bundle.tN "UNASSIGNED_STACK" Bundle.steD A s s.heap) (hN : vx_Zq Bundle.tN "SUPPRESSED_SENTINEL" Bundle.listD A s s.heap) (hS : va_S A s.heap H locs) (hsize : ls.size = c.maxLocals)
    (d0 : decode cc pc = .ok (.new ik, 3)) (d3 : decode cc (pc + 3) = .ok (.dup, 1)) (d4 : decode cc (pc + 4) = .ok (.invokespecial ic, 3)) (d7 : decode cc (pc + 7) = .ok (.athrow, 1))
    (hout : ∀ x ∈ c.exceptionTable.toList, covers x (pc + 7) = false)
    (hRframes : names.length + 3 < R.frames) (hRlocals : (rest.map fun v => v.category).sum + (13 * (names.length + 1) + 42) ≤ R.locals) (hRcells : cells + 1 ≤ R.cells) (hRslots : slots + 6 ≤ R.slots) (hlocks : meth.locks = false)
    (hx : ∀ t : State, s.vm.Alike t.vm → H.size ≤ t.heap.size → (∀ q : Nat, q < H.size → t.heap[q]? = H[q]?) → XC cls s t)
    (hf : ∀ z ∈ locs, free z.base) (hc : cells + 1 ≤ mc) (hs : slots + 6 ≤ ms) :
    W p l e R s m args below meth c H locs cells slots (vx_MQ below Qc XC args s mc ms free) (F0 m pc ls rest) := by
  intro T hT X
  have htr : e.platform.stackTraces = false := (show e.platform.stackTraces = l.stackTraces by rw [X.admits.platform]).trans hl
  have Y := vx_rebase X (R' := { frames := R.frames, locals := R.locals, cells := 1, slots := 6 }) (Nat.le_refl _) (Nat.le_refl _) hRcells hRslots
  obtain ⟨s', hA⟩ : ∃ z, z = (T.setVm s.vm).setFrames (.invoking m args :: below) := ⟨_, rfl⟩
  rw [← hA] at Y
  have hvm : s'.vm = s.vm := by rw [hA]; rfl
  have hhp : s'.heap = H := by rw [hA]; exact hT
  have hW0 : s.WarmedH s'.vm := by rw [hvm]; exact State.WarmedH.refl s
  have hat' : ∀ w ∈ vx_at0 own ic cls names, w.before args s' = true := fun w hw => vx_ot_at hW0 hvm.symm (hgood w (List.mem_cons_of_mem _ (List.mem_cons_of_mem _ hw))) (hat w hw)
  have hk' : (Cond.classLink own ik cls).before args s' = true := vx_ot_at hW0 hvm.symm (hgood _ List.mem_cons_self) hk
  have hini' : (Cond.initialized cls).before args s' = true := vx_ot_at hW0 hvm.symm (hgood _ (List.mem_cons_of_mem _ List.mem_cons_self)) hini
  have hU' : vx_Zq Bundle.tN "UNASSIGNED_STACK" Bundle.steD A s' s'.heap := by rw [hhp]; exact vx_Zq.moved hW0.alike (hU.kept hS.2.1)
  have hN' : vx_Zq Bundle.tN "SUPPRESSED_SENTINEL" Bundle.listD A s' s'.heap := by rw [hhp]; exact vx_Zq.moved hW0.alike (hN.kept hS.2.1)
  have h : ∀ w ∈ Bundle.ownAtoms0 own ic cls names, w.before args s' = true := vx_own hat' (vx_isRefq hU'.1) (vx_isRefq hN'.1) hU'.2.word hN'.2.word
  have hown' : s'.vm.findClass own = some m.cls := by rw [hvm]; exact hown
  have hins : (Cond.instantiable cls 6).before args s' = true := h _ (by simp [Bundle.ownAtoms0])
  obtain ⟨vm₁, cX, kX, hfX, hkX, -, -, X₁, st1⟩ := Y.newCold hexec (own := own) (C := cls) (index := ik) (n := 6) hown' hk' hins hini'
    (g := F0 m pc ls rest) rfl (by rw [hb]; exact d0) (Nat.le_refl _) (Nat.le_refl _)
  generalize hT1 : (T.setVm vm₁).pushCell { cls := cX, slots := kX.instanceTypes.map defaultValue, vm := .none } = T1 at X₁ st1
  have hcat : (Value.ref T.heap.size).category = 1 := rfl
  have hcellA : T1.heap[T.heap.size]? = some (freshCell cX kX) := by rw [← hT1]; exact State.heap_pushCell_size _ _
  have d3' : decode c.code (pc + 3) = .ok (.dup, 1) := by rw [hb]; exact d3
  obtain ⟨U, hsteps, hrun, hend, hW, hsame, ce, hce, hO⟩ := X₁.ctorThrow0 hexec htr (own := own) (cls := cls) (names := names) (ic := ic) hown' hcls hnames h (fun x hx => nomatch hx) hfX hkX hcellA (by rw [hhp, hT]; exact Nat.le_refl _)
    (g := { method := m, pc := pc + 4, locals := ls, stack := .ref T.heap.size :: .ref T.heap.size :: rest, locked := none }) rfl hsize rfl rfl (rest := rest) rfl
    (by rw [hb]; exact d4) (by rw [hb]; exact d7) hout hRframes (by simp only [List.map_cons, List.sum_cons, hcat]; omega) hlocks
  obtain ⟨f1, f2⟩ := vx_frame hsame
  rw [hhp] at f1 f2
  have hWs : s.WarmedH U.vm := State.WarmedH.trans hW0 hW
  have hcl : s.vm.findClass cls = some ce.cls := by
    have h9 := hO.cls
    rw [hvm] at h9
    exact h9
  have hall : s.sameButNew ({ U with vm := s.vm } : State) locs mc ms := by
    subst hA
    obtain ⟨e1, e2⟩ := hsame
    rw [State.setFrames_setFrames] at e1
    have h2 : (T.setVm s.vm).sameButNew ({ U with vm := s.vm } : State) [] (0 + 1) (0 + 6) := ⟨e1, e2⟩
    have h3 := X.same.trans h2
    rw [List.append_nil] at h3
    exact h3.mono hc hs
  refine ⟨U, ?_, .threw T.heap.size, hrun, hend, Or.inr ⟨T.heap.size, rfl, cls, ce, locs, hx U hWs.alike f1 (fun q hq => f2 q hq (fun z hz => nomatch hz)), hce, hO.vm, hcl, hWs, hall, hf⟩⟩
  refine st1 _ ?_
  show Steps p.tables e below (T1.setTop { method := m, pc := pc + 3, locals := ls, stack := .ref T.heap.size :: rest, locked := none }) _
  jvm_step X₁.here [X₁.here.top, hexec, d3', Value.category]
  exact hsteps
/-- 'throw new E("text")': new; dup; ldc; invokespecial; athrow -/
theorem vx_throwS {cc : ByteArray} {pc : Nat} (hexec : p.tables.exec = Jvm.exec) (hb : c.code = cc) (hl : l.stackTraces = false) {own cls text : String} {names : List String} {ik is ic mc ms sa : Nat} {A : Nat → Prop}
    (hown : s.vm.findClass own = some m.cls) (hcls : Bundle.fit cls = true) (hnames : ∀ n ∈ names, Bundle.fit n = true)
    (hk : (Cond.classLink own ik cls).before args s = true) (hini : (Cond.initialized cls).before args s = true) (hstr : vk_R own is text sa s) (hat : ∀ w ∈ vx_atS own ic cls names, w.before args s = true)
    (hgood : ∀ w ∈ Cond.classLink own ik cls :: Cond.initialized cls :: vx_atS own ic cls names, vx_ot w = true)
    (hU : vx_Zq Bundle.tN "UNASSIGNED_STACK" Bundle.steD A s s.heap) (hN : vx_Zq Bundle.tN "SUPPRESSED_SENTINEL" Bundle.listD A s s.heap) (hS : va_S A s.heap H locs) (hsize : ls.size = c.maxLocals)
    (d0 : decode cc pc = .ok (.new ik, 3)) (d3 : decode cc (pc + 3) = .ok (.dup, 1)) (d4 : decode cc (pc + 4) = .ok (.ldc is, 2)) (d6 : decode cc (pc + 6) = .ok (.invokespecial ic, 3)) (d9 : decode cc (pc + 9) = .ok (.athrow, 1))
    (hout : ∀ x ∈ c.exceptionTable.toList, covers x (pc + 9) = false)
    (hRframes : names.length + 3 < R.frames) (hRlocals : (rest.map fun v => v.category).sum + (13 * (names.length + 1) + 43) ≤ R.locals) (hRcells : cells + 1 ≤ R.cells) (hRslots : slots + 6 ≤ R.slots) (hlocks : meth.locks = false)
    (hx : ∀ t : State, s.vm.Alike t.vm → H.size ≤ t.heap.size → (∀ q : Nat, q < H.size → t.heap[q]? = H[q]?) → XC cls s t)
    (hf : ∀ z ∈ locs, free z.base) (hc : cells + 1 ≤ mc) (hs : slots + 6 ≤ ms) :
    W p l e R s m args below meth c H locs cells slots (vx_MQ below Qc XC args s mc ms free) (F0 m pc ls rest) := by
  intro T hT X
  have htr : e.platform.stackTraces = false := (show e.platform.stackTraces = l.stackTraces by rw [X.admits.platform]).trans hl
  have Y := vx_rebase X (R' := { frames := R.frames, locals := R.locals, cells := 1, slots := 6 }) (Nat.le_refl _) (Nat.le_refl _) hRcells hRslots
  obtain ⟨s', hA⟩ : ∃ z, z = (T.setVm s.vm).setFrames (.invoking m args :: below) := ⟨_, rfl⟩
  rw [← hA] at Y
  have hvm : s'.vm = s.vm := by rw [hA]; rfl
  have hhp : s'.heap = H := by rw [hA]; exact hT
  have hW0 : s.WarmedH s'.vm := by rw [hvm]; exact State.WarmedH.refl s
  have hat' : ∀ w ∈ vx_atS own ic cls names, w.before args s' = true := fun w hw => vx_ot_at hW0 hvm.symm (hgood w (List.mem_cons_of_mem _ (List.mem_cons_of_mem _ hw))) (hat w hw)
  have hk' : (Cond.classLink own ik cls).before args s' = true := vx_ot_at hW0 hvm.symm (hgood _ List.mem_cons_self) hk
  have hini' : (Cond.initialized cls).before args s' = true := vx_ot_at hW0 hvm.symm (hgood _ (List.mem_cons_of_mem _ List.mem_cons_self)) hini
  have hU' : vx_Zq Bundle.tN "UNASSIGNED_STACK" Bundle.steD A s' s'.heap := by rw [hhp]; exact vx_Zq.moved hW0.alike (hU.kept hS.2.1)
  have hN' : vx_Zq Bundle.tN "SUPPRESSED_SENTINEL" Bundle.listD A s' s'.heap := by rw [hhp]; exact vx_Zq.moved hW0.alike (hN.kept hS.2.1)
  have h : ∀ w ∈ Bundle.ownAtoms own ic cls names, w.before args s' = true := vx_own hat' (vx_isRefq hU'.1) (vx_isRefq hN'.1) hU'.2.word hN'.2.word
  have hown' : s'.vm.findClass own = some m.cls := by rw [hvm]; exact hown
  have hins : (Cond.instantiable cls 6).before args s' = true := h _ (by simp [Bundle.ownAtoms])
  obtain ⟨vm₁, cX, kX, hfX, hkX, -, -, X₁, st1⟩ := Y.newCold hexec (own := own) (C := cls) (index := ik) (n := 6) hown' hk' hins hini'
    (g := F0 m pc ls rest) rfl (by rw [hb]; exact d0) (Nat.le_refl _) (Nat.le_refl _)
  generalize hT1 : (T.setVm vm₁).pushCell { cls := cX, slots := kX.instanceTypes.map defaultValue, vm := .none } = T1 at X₁ st1
  have hcat : (Value.ref T.heap.size).category = 1 := rfl
  have hcellA : T1.heap[T.heap.size]? = some (freshCell cX kX) := by rw [← hT1]; exact State.heap_pushCell_size _ _
  have d3' : decode c.code (pc + 3) = .ok (.dup, 1) := by rw [hb]; exact d3
  have d4' : decode c.code (pc + 4) = .ok (.ldc is, 2) := by rw [hb]; exact d4
  have hstr' : vk_R own is text sa s' := vk_R.warm hW0 hstr
  obtain ⟨U, hsteps, hrun, hend, hW, hsame, ce, hce, hO⟩ := X₁.ctorThrowS hexec htr (own := own) (cls := cls) (names := names) (ic := ic) hown' hcls hnames h (fun x hx => nomatch hx) hfX hkX hcellA (by rw [hhp, hT]; exact Nat.le_refl _) (msg := .ref sa) rfl
    (g := { method := m, pc := pc + 6, locals := ls, stack := .ref sa :: .ref T.heap.size :: .ref T.heap.size :: rest, locked := none }) rfl hsize rfl rfl (rest := rest) rfl
    (by rw [hb]; exact d6) (by rw [hb]; exact d9) hout hRframes (by simp only [List.map_cons, List.sum_cons, hcat]; omega) hlocks
  obtain ⟨f1, f2⟩ := vx_frame hsame
  rw [hhp] at f1 f2
  have hWs : s.WarmedH U.vm := State.WarmedH.trans hW0 hW
  have hcl : s.vm.findClass cls = some ce.cls := by
    have h9 := hO.cls
    rw [hvm] at h9
    exact h9
  have hall : s.sameButNew ({ U with vm := s.vm } : State) locs mc ms := by
    subst hA
    obtain ⟨e1, e2⟩ := hsame
    rw [State.setFrames_setFrames] at e1
    have h2 : (T.setVm s.vm).sameButNew ({ U with vm := s.vm } : State) [] (0 + 1) (0 + 6) := ⟨e1, e2⟩
    have h3 := X.same.trans h2
    rw [List.append_nil] at h3
    exact h3.mono hc hs
  refine ⟨U, ?_, .threw T.heap.size, hrun, hend, Or.inr ⟨T.heap.size, rfl, cls, ce, locs, hx U hWs.alike f1 (fun q hq => f2 q hq (fun z hz => nomatch hz)), hce, hO.vm, hcl, hWs, hall, hf⟩⟩
  refine st1 _ ?_
  show Steps p.tables e below (T1.setTop { method := m, pc := pc + 3, locals := ls, stack := .ref T.heap.size :: rest, locked := none }) _
  jvm_step X₁.here [X₁.here.top, hexec, d3', Value.category]
  exact X₁.ldcString hexec (own := own) (text := text) (index := is) (a := sa) hown' hstr'.1 hstr'.2
    (g := { method := m, pc := pc + 4, locals := ls, stack := .ref T.heap.size :: .ref T.heap.size :: rest, locked := none }) rfl d4' _ hsteps
/-- 'throw new E("text")', the text by a wide index -/
theorem vx_throwSW {cc : ByteArray} {pc : Nat} (hexec : p.tables.exec = Jvm.exec) (hb : c.code = cc) (hl : l.stackTraces = false) {own cls text : String} {names : List String} {ik is ic mc ms sa : Nat} {A : Nat → Prop}
    (hown : s.vm.findClass own = some m.cls) (hcls : Bundle.fit cls = true) (hnames : ∀ n ∈ names, Bundle.fit n = true)
    (hk : (Cond.classLink own ik cls).before args s = true) (hini : (Cond.initialized cls).before args s = true) (hstr : vk_R own is text sa s) (hat : ∀ w ∈ vx_atS own ic cls names, w.before args s = true)
    (hgood : ∀ w ∈ Cond.classLink own ik cls :: Cond.initialized cls :: vx_atS own ic cls names, vx_ot w = true)
    (hU : vx_Zq Bundle.tN "UNASSIGNED_STACK" Bundle.steD A s s.heap) (hN : vx_Zq Bundle.tN "SUPPRESSED_SENTINEL" Bundle.listD A s s.heap) (hS : va_S A s.heap H locs) (hsize : ls.size = c.maxLocals)
    (d0 : decode cc pc = .ok (.new ik, 3)) (d3 : decode cc (pc + 3) = .ok (.dup, 1)) (d4 : decode cc (pc + 4) = .ok (.ldc_w is, 3)) (d7 : decode cc (pc + 7) = .ok (.invokespecial ic, 3)) (d10 : decode cc (pc + 10) = .ok (.athrow, 1))
    (hout : ∀ x ∈ c.exceptionTable.toList, covers x (pc + 10) = false)
    (hRframes : names.length + 3 < R.frames) (hRlocals : (rest.map fun v => v.category).sum + (13 * (names.length + 1) + 43) ≤ R.locals) (hRcells : cells + 1 ≤ R.cells) (hRslots : slots + 6 ≤ R.slots) (hlocks : meth.locks = false)
    (hx : ∀ t : State, s.vm.Alike t.vm → H.size ≤ t.heap.size → (∀ q : Nat, q < H.size → t.heap[q]? = H[q]?) → XC cls s t)
    (hf : ∀ z ∈ locs, free z.base) (hc : cells + 1 ≤ mc) (hs : slots + 6 ≤ ms) :
    W p l e R s m args below meth c H locs cells slots (vx_MQ below Qc XC args s mc ms free) (F0 m pc ls rest) := by
  intro T hT X
  have htr : e.platform.stackTraces = false := (show e.platform.stackTraces = l.stackTraces by rw [X.admits.platform]).trans hl
  have Y := vx_rebase X (R' := { frames := R.frames, locals := R.locals, cells := 1, slots := 6 }) (Nat.le_refl _) (Nat.le_refl _) hRcells hRslots
  obtain ⟨s', hA⟩ : ∃ z, z = (T.setVm s.vm).setFrames (.invoking m args :: below) := ⟨_, rfl⟩
  rw [← hA] at Y
  have hvm : s'.vm = s.vm := by rw [hA]; rfl
  have hhp : s'.heap = H := by rw [hA]; exact hT
  have hW0 : s.WarmedH s'.vm := by rw [hvm]; exact State.WarmedH.refl s
  have hat' : ∀ w ∈ vx_atS own ic cls names, w.before args s' = true := fun w hw => vx_ot_at hW0 hvm.symm (hgood w (List.mem_cons_of_mem _ (List.mem_cons_of_mem _ hw))) (hat w hw)
  have hk' : (Cond.classLink own ik cls).before args s' = true := vx_ot_at hW0 hvm.symm (hgood _ List.mem_cons_self) hk
  have hini' : (Cond.initialized cls).before args s' = true := vx_ot_at hW0 hvm.symm (hgood _ (List.mem_cons_of_mem _ List.mem_cons_self)) hini
  have hU' : vx_Zq Bundle.tN "UNASSIGNED_STACK" Bundle.steD A s' s'.heap := by rw [hhp]; exact vx_Zq.moved hW0.alike (hU.kept hS.2.1)
  have hN' : vx_Zq Bundle.tN "SUPPRESSED_SENTINEL" Bundle.listD A s' s'.heap := by rw [hhp]; exact vx_Zq.moved hW0.alike (hN.kept hS.2.1)
  have h : ∀ w ∈ Bundle.ownAtoms own ic cls names, w.before args s' = true := vx_own hat' (vx_isRefq hU'.1) (vx_isRefq hN'.1) hU'.2.word hN'.2.word
  have hown' : s'.vm.findClass own = some m.cls := by rw [hvm]; exact hown
  have hins : (Cond.instantiable cls 6).before args s' = true := h _ (by simp [Bundle.ownAtoms])
  obtain ⟨vm₁, cX, kX, hfX, hkX, -, -, X₁, st1⟩ := Y.newCold hexec (own := own) (C := cls) (index := ik) (n := 6) hown' hk' hins hini'
    (g := F0 m pc ls rest) rfl (by rw [hb]; exact d0) (Nat.le_refl _) (Nat.le_refl _)
  generalize hT1 : (T.setVm vm₁).pushCell { cls := cX, slots := kX.instanceTypes.map defaultValue, vm := .none } = T1 at X₁ st1
  have hcat : (Value.ref T.heap.size).category = 1 := rfl
  have hcellA : T1.heap[T.heap.size]? = some (freshCell cX kX) := by rw [← hT1]; exact State.heap_pushCell_size _ _
  have d3' : decode c.code (pc + 3) = .ok (.dup, 1) := by rw [hb]; exact d3
  have d4' : decode c.code (pc + 4) = .ok (.ldc_w is, 3) := by rw [hb]; exact d4
  have hstr' : vk_R own is text sa s' := vk_R.warm hW0 hstr
  obtain ⟨U, hsteps, hrun, hend, hW, hsame, ce, hce, hO⟩ := X₁.ctorThrowS hexec htr (own := own) (cls := cls) (names := names) (ic := ic) hown' hcls hnames h (fun x hx => nomatch hx) hfX hkX hcellA (by rw [hhp, hT]; exact Nat.le_refl _) (msg := .ref sa) rfl
    (g := { method := m, pc := pc + 7, locals := ls, stack := .ref sa :: .ref T.heap.size :: .ref T.heap.size :: rest, locked := none }) rfl hsize rfl rfl (rest := rest) rfl
    (by rw [hb]; exact d7) (by rw [hb]; exact d10) hout hRframes (by simp only [List.map_cons, List.sum_cons, hcat]; omega) hlocks
  obtain ⟨f1, f2⟩ := vx_frame hsame
  rw [hhp] at f1 f2
  have hWs : s.WarmedH U.vm := State.WarmedH.trans hW0 hW
  have hcl : s.vm.findClass cls = some ce.cls := by
    have h9 := hO.cls
    rw [hvm] at h9
    exact h9
  have hall : s.sameButNew ({ U with vm := s.vm } : State) locs mc ms := by
    subst hA
    obtain ⟨e1, e2⟩ := hsame
    rw [State.setFrames_setFrames] at e1
    have h2 : (T.setVm s.vm).sameButNew ({ U with vm := s.vm } : State) [] (0 + 1) (0 + 6) := ⟨e1, e2⟩
    have h3 := X.same.trans h2
    rw [List.append_nil] at h3
    exact h3.mono hc hs
  refine ⟨U, ?_, .threw T.heap.size, hrun, hend, Or.inr ⟨T.heap.size, rfl, cls, ce, locs, hx U hWs.alike f1 (fun q hq => f2 q hq (fun z hz => nomatch hz)), hce, hO.vm, hcl, hWs, hall, hf⟩⟩
  refine st1 _ ?_
  show Steps p.tables e below (T1.setTop { method := m, pc := pc + 3, locals := ls, stack := .ref T.heap.size :: rest, locked := none }) _
  jvm_step X₁.here [X₁.here.top, hexec, d3', Value.category]
  exact X₁.ldcStringW hexec (own := own) (text := text) (index := is) (a := sa) hown' hstr'.1 hstr'.2
    (g := { method := m, pc := pc + 4, locals := ls, stack := .ref T.heap.size :: .ref T.heap.size :: rest, locked := none }) rfl d4' _ hsteps
end Ends
section Bodies
variable {l : Launch}
theorem vx_ofW {y : MethodName} {ws ws' : List Cond} {rm : Room} {Pc : Array Value → State → Prop} {Qc : Array Value → State → Outcome → State → Prop} {XC : String → State → State → Prop} {mc ms : Nat} {free : Addr → Prop} {cc : ByteArray} {maxL : Nat} {ret : Option FieldType}
    (hy : plainName y.cls = true) (hw : ws = Cond.code y cc maxL ret :: ws')
    (body : ∀ p e s m args below meth c s₁, BodyLoose p l y (headSpec ws rm) cc maxL ret e s m args below meth c s₁ → c.maxLocals = maxL → (∀ x ∈ c.exceptionTable.toList, False) → Pc args s →
      W p l e (headSpec ws rm).room s m args below meth c s.heap [] 0 0 (vx_MQ below Qc XC args s mc ms free) (entryFrame m args maxL)) : vx_Met l y ws rm Pc Qc XC mc ms free := by
  refine MetFree.of_bodyS (code := cc) (maxLocals := maxL) (ret := ret) hy ?_ ?_
  · intro args s m h hn
    obtain ⟨meth, c, h1, h2, h3, h4, h5, h6, -, -⟩ := Cond.code_spec hn (atoms_spec (ws := ws) h _ (by rw [hw]; exact List.mem_cons_self))
    exact ⟨meth, c, h1, h2, h3, h4, h5, h6⟩
  · intro p e s m args below meth c s₁ B hml hP _
    have hh0 : s₁.heap = s.heap := by rw [B.state]; rfl
    have ht : ∀ x ∈ c.exceptionTable.toList, False := by
      obtain ⟨meth9, c9, h1, h2, -, -, -, -, h7, -⟩ := Cond.code_spec B.named (atoms_spec (ws := ws) B.pre _ (by rw [hw]; exact List.mem_cons_self))
      cases Option.some.inj (h1.symm.trans B.method)
      cases Option.some.inj (h2.symm.trans (Stand.of_body B).code)
      intro x hx
      rw [Array.isEmpty_iff.mp h7] at hx
      cases hx
    obtain ⟨t, a1, o, b1, b2, b3⟩ := body p e s m args below meth c s₁ B hml ht hP s₁ hh0 (Stand.of_body B)
    exact ⟨t, o, a1, b1, b2, b3⟩
/-- the table of a body with handlers -/
theorem vx_table {p : Program} {x y : MethodName} {S : Spec} {cc bytes : ByteArray} {maxL maxL' : Nat} {ret ret' : Option FieldType} {e : Env} {s s₁ : State} {m : MethodId} {args : Array Value} {below : List Frame} {meth : Method} {c : Code} {hh : List (Nat × Nat × Nat × Nat)}
    (B : BodyLoose p l y S cc maxL ret e s m args below meth c s₁) (h : (Cond.codeWith y bytes maxL' ret' hh).before args s = true) : c.exceptionTable.toList = tableOf hh := by
  obtain ⟨m9, meth9, c9, hn9, h1, h2, -, -, h6, -⟩ := Cond.codeWith_spec h
  cases Option.some.inj (hn9.symm.trans B.named)
  cases Option.some.inj (h1.symm.trans B.method)
  cases Option.some.inj (h2.symm.trans (Stand.of_body B).code)
  rw [← h6, table_eq]
end Bodies
end VXA
/-! ===== END ===== -/
/-! ===== BEGIN a static call of a method with an exception table ===== -/
section VXS
variable {p : Program} {l : Launch} {e : Env} {R : Room} {s : State} {m : MethodId} {args : Array Value} {below : List Frame} {meth : Method} {c : Code} {T : State} {H : Heap} {locs : List Loc} {cells slots : Nat}
abbrev vx_CSW (R : Room) (s : State) (args : Array Value) (own : String) (index : Nat) (y : MethodName) (bytes : ByteArray) (maxL : Nat) (ret : Option FieldType) (hh : List (Nat × Nat × Nat × Nat)) (ws : List Cond) (rm : Room) (mc ms n : Nat) : Prop :=
  (rm.cells = mc ∧ rm.slots = ms ∧ rm.frames + 1 ≤ R.frames ∧ 8 + (maxL + 11) + rm.locals ≤ R.locals ∧ (∀ w ∈ ws, ∀ (a' : Array Value) (U : State), s.WarmedH U.vm → w.before a' U = true) ∧ Cond.codeWith y bytes maxL ret hh ∈ ws) ∧
  (Cond.codeWith y bytes maxL ret hh).before args s = true ∧ (Cond.initialized y.cls).before args s = true ∧ (y.cls ≠ "java/lang/invoke/MethodHandle" ∧ y.cls ≠ "java/lang/invoke/VarHandle") ∧
  (∀ sig, parseMethodDescriptor y.desc = some sig → n = sig.parameters.length) ∧ (Cond.methodLink own index y).before args s = true ∧ (Cond.static y).before args s = true
theorem vx_cwSW {own : String} {index maxL mc ms : Nat} {y : MethodName} {bytes : ByteArray} {ret : Option FieldType} {hh : List (Nat × Nat × Nat × Nat)} {Ts ws ws' : List Cond} {rm : Room} (n : Nat) (ht : ∀ w ∈ Ts, w.before args s = true) (hT : GoodIn Ts (va_wsS own index y ws)) (hw : ws = Cond.codeWith y bytes maxL ret hh :: ws') (hrc : rm.cells = mc) (hrs : rm.slots = ms)
    (hd : y.cls ≠ "java/lang/invoke/MethodHandle" ∧ y.cls ≠ "java/lang/invoke/VarHandle" ∧ (parseMethodDescriptor y.desc).map (fun d => d.parameters.length) = some n) (hR : rm.frames + 1 ≤ R.frames ∧ 8 + (maxL + 11) + rm.locals ≤ R.locals) :
    vx_CSW R s args own index y bytes maxL ret hh ws rm mc ms n := by
  have ok : ∀ w ∈ va_wsS own index y ws, w.before args s = true := fun w h => ht w (hT w h).1
  have hG : GoodIn Ts ws := fun w h => hT w (by unfold va_wsS; exact List.mem_append_right _ h)
  have hc : Cond.codeWith y bytes maxL ret hh ∈ ws := by rw [hw]; exact List.mem_cons_self
  refine ⟨⟨hrc, hrs, hR.1, hR.2, pay_in ht hG, hc⟩, ht _ (hG _ hc).1, ok _ (by simp [va_wsS]), ⟨hd.1, hd.2.1⟩, fun sig h => ?_, ok _ (by simp [va_wsS]), ok _ (by simp [va_wsS])⟩
  have h2 := hd.2.2
  rw [h] at h2
  exact (Option.some.inj h2).symm
theorem vx_callSW (X : Stand p l e R s m args below meth c T locs cells slots) (hexec : p.tables.exec = Jvm.exec) {own : String} {index : Nat} {y : MethodName} {bytes : ByteArray} {maxL : Nat} {ret : Option FieldType} {hh : List (Nat × Nat × Nat × Nat)}
    (hown : s.vm.findClass own = some m.cls) (hlink : (Cond.methodLink own index y).before args s = true) (hstat : (Cond.static y).before args s = true) (hinit : (Cond.initialized y.cls).before args s = true)
    (hcode : (Cond.codeWith y bytes maxL ret hh).before args s = true) (hy : y.cls ≠ "java/lang/invoke/MethodHandle" ∧ y.cls ≠ "java/lang/invoke/VarHandle")
    {W9 : Nat} {Pre : Pt → Array Value → Prop} {Post : Pt → Array Value → Option Value → Pt → Prop} (hK : Back l R p e below s args y 3 W9 Pre Post)
    {g : JFrame} (hg : g.method = m) (hsize : g.locals.size = c.maxLocals) {argsL rest : List Value} (hlen : ∀ sig, parseMethodDescriptor y.desc = some sig → argsL.length = sig.parameters.length)
    (hstack : g.stack = argsL.reverse ++ rest) (hW : 2 * g.monitorRoom + (rest.map fun v => v.category).sum ≤ W9) (hdg : decode c.code g.pc = .ok (.invokestatic index, 3))
    (hpre : ∀ vm₁, s.WarmedH vm₁ → Pre ⟨T.setVm vm₁, locs, cells, slots⟩ argsL.toArray) :
    ∃ (v : Option Value) (vm₁ : Vm) (B : Pt), s.WarmedH vm₁ ∧ Stand p l e R s m args below meth c B.U B.locs B.cells B.slots ∧ Post ⟨T.setVm vm₁, locs, cells, slots⟩ argsL.toArray v B ∧
      ∀ target, Steps p.tables e below (B.U.setTop { g with pc := g.pc + 3, stack := v.toList ++ rest }) target → Steps p.tables e below (T.setTop g) target := by
  obtain ⟨mk, methM, cM, hnamed, hmethM, -, -, -, -, -, -, hsigM⟩ := Cond.codeWith_spec hcode
  have hstatic : methM.isStatic = true := Cond.static_spec hnamed hmethM hstat
  obtain ⟨kP, hkP, -⟩ := className_of_methodNamed hnamed
  have hinitP : kP.init = .initialized := Cond.initialized_spec (findClass_of_methodNamed hnamed) hkP hinit
  obtain ⟨vm₁, X₁, hstep₁⟩ := X.invokestatic hexec hown hlink hnamed hmethM hstatic hkP hinitP hy (g := g) hg (argsL := argsL) (rest := rest) (hlen _ hsigM) hstack hdg
  obtain ⟨v, B, X', hpost, hsteps⟩ := hK m meth c ⟨T.setVm vm₁, locs, cells, slots⟩ { g with stack := rest } (.invokestatic index) mk argsL.toArray X₁ hg hsize hdg hW (X₁.named hnamed) (hpre vm₁ X₁.warmed)
  exact ⟨v, vm₁, B, X₁.warmed, X', hpost, fun target h => hstep₁ _ fun acts => by rw [doInvoke_state]; exact hsteps.trans h⟩
theorem vx_runSW {y : MethodName} {bytes cc : ByteArray} {maxL nL mc ms n index : Nat} {ret : Option FieldType} {hh : List (Nat × Nat × Nat × Nat)} {ws : List Cond} {rm : Room} {Pc : Array Value → State → Prop} {Qc : Array Value → State → Outcome → State → Prop} {free : Addr → Prop} {Ts : List Cond} {own : String} {As rest : List Value} {g : JFrame}
    (S : CallFix p m c cc nL s args Ts own) (hM : Met l y ws rm Pc Qc mc ms free) (cw : vx_CSW R s args own index y bytes maxL ret hh ws rm mc ms n) (hp : PreS s H Pc As)
    (hg : g.method = m) (hn : As.length = n) (hsize : g.locals.size = nL) (hstack : g.stack = As.reverse ++ rest) (hW : 2 * g.monitorRoom + (rest.map fun v => v.category).sum ≤ 8) (hdg : decode cc g.pc = .ok (.invokestatic index, 3)) (hf : cells + mc ≤ R.cells ∧ slots + ms ≤ R.slots) :
    va_Run p l e R s m args below meth c H locs cells slots mc ms g rest (Qc As.toArray) (free) := by
  obtain ⟨⟨hrc, hrs, hfr, hlo, hws, hcw⟩, hcode, hini, hy, hlen, hl, hstt⟩ := cw
  have hK : Back l R p e below s args y 3 8 (PreOf R mc ms Pc) (PostOf Qc mc ms free) := va_backW (hh := hh) (bytes := bytes) (maxL := maxL) (ret := ret) hM hp.1 hrc hrs hfr hlo hws hcw (fun a' U hW => word_at hW (Or.inl (by first | rfl | simp [Cond.onTables, Cond.keeps, Cond.steady])) hini)
  obtain ⟨hx, hb, hml, ho, -⟩ := S
  intro T hT X
  obtain ⟨v, vm₁, ⟨U', l2, c2, s2⟩, hW₁, X', ⟨g', mk, t, L, e1, e2, hq, h1, hL, h2, h3⟩, st⟩ := vx_callSW X hx (hh := hh) (bytes := bytes) (maxL := maxL) (ret := ret) ho hl hstt hini hcode hy hK hg (hsize.trans hml.symm) (argsL := As) (rest := rest) (fun sig h => hn.trans (hlen sig h)) hstack hW (by rw [hb]; exact hdg)
    (fun vm₁ hW₁ => ⟨hf.1, hf.2, hp.2 (T.setVm vm₁) hT hW₁⟩)
  dsimp only [Pt.U, Pt.locs, Pt.cells, Pt.slots] at X' e1 e2 h1 h2 h3 st
  subst h1; subst h2; subst h3
  exact ⟨v, (T.setVm vm₁).calling g' mk As.toArray, t, U', L, hT, X', hL, e1, e2, hq, st⟩
/-- not caught here, past rows that name other classes: it goes on to the caller -/
theorem vx_outP {p : Program} {l : Launch} {e : Env} {R : Room} {s : State} {m : MethodId} {args : Array Value} {below : List Frame} {meth : Method} {c : Code} {H : Heap} {locs : List Loc} {cells slots : Nat} {free : Addr → Prop} {ls : Array Slot} {rest : List Value} {Qc : Array Value → State → Outcome → State → Prop} {XC : String → State → State → Prop}
    {pc : Nat} {own E : String} {ce : Cell} {q : Addr} {mc ms : Nat} (hown : s.vm.findClass own = some m.cls) (hlocks : meth.locks = false)
    (hpass : ∀ z ∈ c.exceptionTable.toList, covers z pc = false ∨ (z.catchType ≠ 0 ∧ ∃ nm : String, (Cond.classLink own z.catchType nm).before args s = true ∧ va_Nc E nm s)) (hcell : H[q]? = some ce) (hv : ce.vm = .none) (hcl : s.vm.findClass E = some ce.cls)
    (hx : ∀ t : State, t.heap = H → s.vm.Alike t.vm → XC E s t) (hf : ∀ z ∈ locs, free z.base) (hc : cells ≤ mc) (hs : slots ≤ ms) :
    vx_W p l e R s m args below meth c H locs cells slots (vx_MQ below Qc XC args s mc ms free) (F0 m pc ls rest) q := by
  intro T hT X
  have hpl : e.platform.magicAccessors = ({} : Platform).magicAccessors := by rw [X.admits.platform]
  obtain ⟨vm', hW', X', st⟩ := X.outThrough hlocks q (g := F0 m pc ls rest) rfl rfl rfl (cell := ce) (by rw [hT]; exact hcell) (by rw [hv]; rfl)
    (by obtain ⟨k9, h9, -⟩ := Vm.findClass_spec hcl; exact ⟨k9, h9⟩) (fun z hz => by
      rcases hpass z hz with h | ⟨hz0, nm, hl1, hn1⟩
      · exact Or.inl h
      · obtain ⟨c6, hc6, hcl6⟩ := Cond.classLink_spec hown hl1 e.platform hpl
        obtain ⟨a8, b8, h1, h2, h3⟩ := hn1
        cases Option.some.inj (h1.symm.trans hcl)
        cases Option.some.inj (h2.symm.trans hc6)
        exact Or.inr ⟨hz0, _, hcl6, h3⟩)
  obtain ⟨g₀, hfr⟩ := X'.frames_eq
  have hcell9 : ((T.setVm vm').setFrames (.throwing q :: below)).heap[q]? = some ce := by
    show T.heap[q]? = some ce
    rw [hT]; exact hcell
  have hend : Ended ((T.setVm vm').setFrames (.throwing q :: below)) below (.threw q) := State.frames_setFrames _ (State.cur_lt_of_frames hfr)
  refine ⟨(T.setVm vm').setFrames (.throwing q :: below), ?_, .threw q, X'.here.running, hend, Or.inr ⟨q, rfl, E, ce, locs, hx _ hT (X'.ends _).1.alike, hcell9, hv, hcl, (X'.ends _).1, (X'.ends _).2.mono hc hs, hf⟩⟩
  rw [X.pushThrowing_eq]
  exact st
/-- a thing of a world lies in the heap -/
theorem vx_lt {D : va_G} {cl : List vw_C} {ws : va_W} {H1 : Heap} (h : va_P D cl ws H1) {k : Nat} {q : Nat × va_E} (hk : ws[k]? = some q) : q.1 < H1.size := (h k q hk).lt
end VXS
/-! ===== END ===== -/
/-! ===== BEGIN methods with a table of their own: called by a name, returning or throwing ===== -/
section VXH
/-! vx_backW, vx_callVX, vx_callSX, vx_callVW, vx_runVW, vx_runVX, vx_runSX, vx_ofWH follow the same proofs as their sisters above (Free/Laws.lean, Shelf42/LK1.lean); vx_outP calls Shelf42/NT130.lean (outThrough). -/
section
variable {l : Launch} {R : Room} {p : Program} {e : Env} {below : List Frame} {s : State} {sargs : Array Value} {y : MethodName} {len W9 : Nat}
theorem vx_backW {ws : List Cond} {rm : Room} {Pc : Array Value → State → Prop} {Qc : Array Value → State → Outcome → State → Prop} {XC : String → State → State → Prop} {mc ms : Nat} {free : Addr → Prop} {bytes : ByteArray} {maxL : Nat} {ret : Option FieldType} {hh : List (Nat × Nat × Nat × Nat)}
    (hM : vx_Met l y ws rm Pc Qc XC mc ms free) (hblind : FrameBlind Pc) (hrc : rm.cells = mc) (hrs : rm.slots = ms)
    (hframes : rm.frames + 1 ≤ R.frames) (hlocals : W9 + (maxL + 11) + rm.locals ≤ R.locals)
    (hws : ∀ w ∈ ws, ∀ a' U, s.WarmedH U.vm → w.before a' U = true) (hcode : Cond.codeWith y bytes maxL ret hh ∈ ws) (hinit : ∀ a' U, s.WarmedH U.vm → (Cond.initialized y.cls).before a' U = true) :
    vx_Back l R p e below s sargs y len W9 (PreOf R mc ms Pc) (PostOf Qc mc ms free) (vx_Post XC mc ms free) := by
  intro m meth c A g ig mk a X hg hsize hdg hW hn hp
  have h1 : (headSpec ws rm).pre.before a A.U = true := atoms_intro fun w hw => hws w hw _ _ X.warmed
  have h2 : (Cond.codeWith y bytes maxL ret hh).before a A.U = true := hws _ hcode _ _ X.warmed
  have h3 : (Cond.initialized y.cls).before a A.U = true := hinit _ _ X.warmed
  have h4 : A.cells + (headSpec ws rm).room.cells ≤ R.cells := by rw [show (headSpec ws rm).room.cells = mc from hrc]; exact hp.1
  have h5 : A.slots + (headSpec ws rm).room.slots ≤ R.slots := by rw [show (headSpec ws rm).room.slots = ms from hrs]; exact hp.2.1
  have hPc : Pc a (A.U.calling g mk a) := hblind _ _ _ _ hp.2.2
  obtain ⟨U, Ls, c0, s0⟩ := A
  dsimp only [Pt.U, Pt.locs, Pt.cells, Pt.slots] at h1 h2 h3 h4 h5 X hn hPc ⊢
  obtain ⟨m9, methY, cY, hn9, hmY, hcY, -, hlY, -⟩ := Cond.codeWith_spec h2
  cases Option.some.inj (hn9.symm.trans hn)
  obtain ⟨kY, hkY, -⟩ := className_of_methodNamed hn
  have hinitY : kY.init = .initialized := Cond.initialized_spec (findClass_of_methodNamed hn) hkY h3
  have h : At U g.method c below := by rw [hg]; exact X.here
  have hlocals9 : W9 + (maxL + 11) + (headSpec ws rm).room.locals ≤ R.locals := hlocals
  have happ : (headSpec ws rm).appliesLoose y e.platform (U.calling g mk a) = true :=
    Spec.appliesLoose_calling (g := g) h hdg hn hkY hinitY
      (X.room_calling (g := g) (R' := (headSpec ws rm).room) hsize hmY hcY hframes (by rw [hlY]; omega) h4 h5) h1
  obtain ⟨mid, hmid⟩ := h.above
  have hfr : (U.setTop g).frames = (.java g :: mid) ++ below := by rw [State.frames_setTop' g h.top, hmid]; rfl
  obtain ⟨o, s₂, hsteps, -, hend, hq⟩ := Steps.callFree hM p X.admits X.cas X.clock (acts := []) hfr happ hPc trivial
  have hq' : vx_Q Qc XC mc ms free a (U.calling g mk a) o s₂ := hq
  rw [State.frames_setTop' g h.top] at hend
  obtain ⟨g₀, hg0⟩ := Option.isSome_iff_exists.mp h.top
  obtain ⟨r, hr⟩ := State.topJava?_eq_some.mp hg0
  have hr' : (({ U with heap := s₂.heap, slotsUsed := s₂.slotsUsed } : State).setVm s₂.vm).frames = .java g₀ :: r := hr
  rcases hq' with ⟨hqc, L, hfe, hL⟩ | ⟨q, rfl, E, ce, L, hx, hce, hcv, hcl, hW₂, hsm, hL⟩
  · obtain ⟨⟨v, rfl⟩, hW₂, e2, q2, q3, q4, q5, q6⟩ := id hfe
    have e3 : s₂ = ({ (U.calling g mk a).setFrames s₂.frames with heap := s₂.heap, slotsUsed := s₂.slotsUsed } : State).setVm s₂.vm := by
      have : s₂ = ({ s₂ with vm := (U.calling g mk a).vm } : State).setVm s₂.vm := rfl
      rw [e2] at this
      exact this
    obtain ⟨c₂, i₂, len₂, hc₂, hd₂, hf₂⟩ := hend
    have hW' : U.WarmedH s₂.vm := hW₂
    have hcc : c₂ = c := by
      have h1 : s₂.code? g.method = U.code? g.method := by
        rw [State.code?_eq, State.code?_eq, hW'.alike.method?]
      exact Option.some.inj (hc₂.symm.trans (h1.trans h.code))
    subst hcc
    have hlen : len₂ = len := by rw [hdg] at hd₂; cases hd₂; rfl
    subst hlen
    have hs₂ : s₂ = (({ U with heap := s₂.heap, slotsUsed := s₂.slotsUsed } : State).setVm s₂.vm).setTop { g with pc := g.pc + len₂, stack := v.toList ++ g.stack } := by
      refine e3.trans ?_
      rw [hf₂, State.calling_eq h.top, State.setFrames_setFrames, State.setTop_of_frames _ hr', hr]
      rfl
    have hsame : U.sameButNew ({ U with heap := s₂.heap, slotsUsed := s₂.slotsUsed } : State) L mc ms := by
      refine ⟨?_, q2, q3, q4, q5, q6⟩
      obtain ⟨t, ht, -⟩ := State.frames_cons hr
      show ({ U with heap := s₂.heap, slotsUsed := s₂.slotsUsed } : State) = { U.setFrames U.frames with heap := s₂.heap, slotsUsed := s₂.slotsUsed }
      rw [State.setFrames_self ht]
    subst hg
    refine Or.inl ⟨v, ⟨(({ U with heap := s₂.heap, slotsUsed := s₂.slotsUsed } : State).setVm s₂.vm), Ls ++ L, c0 + mc, s0 + ms⟩,
      ⟨X.admits, X.cas, X.clock, X.frames, X.room, X.hears, X.method, X.code, (X.here.setHeapUsed s₂.heap s₂.slotsUsed).setVm hW'.alike, X.tail, State.WarmedH.trans X.warmed hW', X.limits, X.bytes, X.same.trans (hsame.setVm s.vm)⟩,
      ⟨g, mk, s₂, L, rfl, rfl, hqc, rfl, hL, rfl, rfl⟩, ?_⟩
    show Steps p.tables e below _ ((({ U with heap := s₂.heap, slotsUsed := s₂.slotsUsed } : State).setVm s₂.vm).setTop { g with pc := g.pc + len₂, stack := v.toList ++ g.stack })
    rw [← hs₂]
    exact hsteps
  · obtain ⟨e2, q2, q3, q4, q5, q6⟩ := id hsm
    have e3 : s₂ = ({ (U.calling g mk a).setFrames s₂.frames with heap := s₂.heap, slotsUsed := s₂.slotsUsed } : State).setVm s₂.vm := by
      have : s₂ = ({ s₂ with vm := (U.calling g mk a).vm } : State).setVm s₂.vm := rfl
      rw [e2] at this
      exact this
    have hf₂ : s₂.frames = .throwing q :: .java g :: U.frames.tail := hend
    have hW' : U.WarmedH s₂.vm := hW₂
    have hs₂ : s₂ = ((({ U with heap := s₂.heap, slotsUsed := s₂.slotsUsed } : State).setVm s₂.vm).setTop g).pushFrame (.throwing q) := by
      refine e3.trans ?_
      rw [hf₂, State.calling_eq h.top, State.setFrames_setFrames, State.pushFrame, State.frames_setTop _ hr', State.setTop_of_frames _ hr', State.setFrames_setFrames, hr]
      rfl
    have hsame : U.sameButNew ({ U with heap := s₂.heap, slotsUsed := s₂.slotsUsed } : State) L mc ms := by
      refine ⟨?_, q2, q3, q4, q5, q6⟩
      obtain ⟨t, ht, -⟩ := State.frames_cons hr
      show ({ U with heap := s₂.heap, slotsUsed := s₂.slotsUsed } : State) = { U.setFrames U.frames with heap := s₂.heap, slotsUsed := s₂.slotsUsed }
      rw [State.setFrames_self ht]
    subst hg
    refine Or.inr ⟨q, ⟨(({ U with heap := s₂.heap, slotsUsed := s₂.slotsUsed } : State).setVm s₂.vm), Ls ++ L, c0 + mc, s0 + ms⟩,
      ⟨X.admits, X.cas, X.clock, X.frames, X.room, X.hears, X.method, X.code, (X.here.setHeapUsed s₂.heap s₂.slotsUsed).setVm hW'.alike, X.tail, State.WarmedH.trans X.warmed hW', X.limits, X.bytes, X.same.trans (hsame.setVm s.vm)⟩,
      ⟨g, mk, s₂, L, E, ce, rfl, rfl, hx, hce, hcv, hcl, rfl, hL, rfl, rfl⟩, ?_⟩
    show Steps p.tables e below _ (((({ U with heap := s₂.heap, slotsUsed := s₂.slotsUsed } : State).setVm s₂.vm).setTop g).pushFrame (.throwing q))
    rw [← hs₂]
    exact hsteps
end
variable {p : Program} {l : Launch} {e : Env} {R : Room} {s : State} {m : MethodId} {args : Array Value} {below : List Frame} {meth : Method} {c : Code} {T : State} {H : Heap} {locs : List Loc} {cells slots : Nat}
theorem vx_callVX (X : Stand p l e R s m args below meth c T locs cells slots) (hexec : p.tables.exec = Jvm.exec) {own C : String} {index : Nat} {y : MethodName} {bytes : ByteArray} {maxL : Nat} {ret : Option FieldType} {hh : List (Nat × Nat × Nat × Nat)}
    (hown : s.vm.findClass own = some m.cls) (hlink : (Cond.methodLink own index y).before args s = true) (hinst : (Cond.instanceMethod y).before args s = true) (hsel : (Cond.selects C y y).before args s = true)
    (hcode : (Cond.codeWith y bytes maxL ret hh).before args s = true) (hy : y.cls ≠ "java/lang/invoke/MethodHandle" ∧ y.cls ≠ "java/lang/invoke/VarHandle")
    {W9 : Nat} {Pre : Pt → Array Value → Prop} {Post : Pt → Array Value → Option Value → Pt → Prop} {PostX : Pt → Array Value → Addr → Pt → Prop} (hK : vx_Back l R p e below s args y 3 W9 Pre Post PostX)
    {b : Addr} {cellB : Cell} (hcell : T.heap[b]? = some cellB) (hobj : cellB.vm.isStatics = false) (hcls : s.vm.findClass C = some cellB.cls)
    {g : JFrame} (hg : g.method = m) (hsize : g.locals.size = c.maxLocals) {argsL rest : List Value} (hlen : ∀ sig, parseMethodDescriptor y.desc = some sig → argsL.length = sig.parameters.length)
    (hstack : g.stack = argsL.reverse ++ .ref b :: rest) (hW : 2 * g.monitorRoom + (rest.map fun v => v.category).sum ≤ W9) (hdg : decode c.code g.pc = .ok (.invokevirtual index, 3))
    (hpre : ∀ vm₁, s.WarmedH vm₁ → Pre ⟨T.setVm vm₁, locs, cells, slots⟩ (Value.ref b :: argsL).toArray) :
    (∃ (v : Option Value) (vm₁ : Vm) (B : Pt), s.WarmedH vm₁ ∧ Stand p l e R s m args below meth c B.U B.locs B.cells B.slots ∧ Post ⟨T.setVm vm₁, locs, cells, slots⟩ (Value.ref b :: argsL).toArray v B ∧
      ∀ target, Steps p.tables e below (B.U.setTop { g with pc := g.pc + 3, stack := v.toList ++ rest }) target → Steps p.tables e below (T.setTop g) target) ∨
    (∃ (q : Addr) (vm₁ : Vm) (B : Pt), s.WarmedH vm₁ ∧ Stand p l e R s m args below meth c B.U B.locs B.cells B.slots ∧ PostX ⟨T.setVm vm₁, locs, cells, slots⟩ (Value.ref b :: argsL).toArray q B ∧
      Steps p.tables e below (T.setTop g) ((B.U.setTop { g with stack := rest }).pushFrame (.throwing q))) := by
  obtain ⟨mk, methM, hnamed, hmethM, hstM, habM⟩ := Cond.instanceMethod_spec hinst
  obtain ⟨m8, methM', cM, hn8, hmethM', -, -, -, -, -, -, hsigM⟩ := Cond.codeWith_spec hcode
  cases Option.some.inj (hn8.symm.trans hnamed)
  cases hmethM.symm.trans hmethM'
  obtain ⟨c2, r2, m2, q1, q2, q3, q4, kP, hkP, hkPi⟩ := Cond.selects_spec hsel
  cases hcls.symm.trans q1
  cases (State.methodFound?_of_named hnamed hy).symm.trans q2
  cases hnamed.symm.trans q3
  have hselP : selectMethod e.platform s.vm cellB.cls mk = .method mk := by rw [Launch.admits_selectMethod X.admits]; exact q4
  obtain ⟨vm₁, X₁, hstep₁⟩ := X.invokevirtual hexec hown hlink hnamed hmethM hstM hkP hkPi hy (a := b) (cell := cellB) hcell
    (fun z h => by rw [h] at hobj; cases hobj) hselP hmethM habM hkP hkPi (g := g) hg (argsL := argsL) (rest := rest) (hlen _ hsigM) hstack hdg
  rcases hK m meth c ⟨T.setVm vm₁, locs, cells, slots⟩ { g with stack := rest } (.invokevirtual index) mk (Value.ref b :: argsL).toArray X₁ hg hsize hdg hW (X₁.named hnamed) (hpre vm₁ X₁.warmed) with ⟨v, B, X', hpost, hsteps⟩ | ⟨q, B, X', hpost, hsteps⟩
  · exact Or.inl ⟨v, vm₁, B, X₁.warmed, X', hpost, fun target h => hstep₁ _ fun acts => by rw [doInvoke_state]; exact hsteps.trans h⟩
  · exact Or.inr ⟨q, vm₁, B, X₁.warmed, X', hpost, hstep₁ _ fun acts => by rw [doInvoke_state]; exact hsteps⟩
theorem vx_callSX (X : Stand p l e R s m args below meth c T locs cells slots) (hexec : p.tables.exec = Jvm.exec) {own : String} {index : Nat} {y : MethodName} {bytes : ByteArray} {maxL : Nat} {ret : Option FieldType} {hh : List (Nat × Nat × Nat × Nat)}
    (hown : s.vm.findClass own = some m.cls) (hlink : (Cond.methodLink own index y).before args s = true) (hstat : (Cond.static y).before args s = true) (hinit : (Cond.initialized y.cls).before args s = true)
    (hcode : (Cond.codeWith y bytes maxL ret hh).before args s = true) (hy : y.cls ≠ "java/lang/invoke/MethodHandle" ∧ y.cls ≠ "java/lang/invoke/VarHandle")
    {W9 : Nat} {Pre : Pt → Array Value → Prop} {Post : Pt → Array Value → Option Value → Pt → Prop} {PostX : Pt → Array Value → Addr → Pt → Prop} (hK : vx_Back l R p e below s args y 3 W9 Pre Post PostX)
    {g : JFrame} (hg : g.method = m) (hsize : g.locals.size = c.maxLocals) {argsL rest : List Value} (hlen : ∀ sig, parseMethodDescriptor y.desc = some sig → argsL.length = sig.parameters.length)
    (hstack : g.stack = argsL.reverse ++ rest) (hW : 2 * g.monitorRoom + (rest.map fun v => v.category).sum ≤ W9) (hdg : decode c.code g.pc = .ok (.invokestatic index, 3))
    (hpre : ∀ vm₁, s.WarmedH vm₁ → Pre ⟨T.setVm vm₁, locs, cells, slots⟩ argsL.toArray) :
    (∃ (v : Option Value) (vm₁ : Vm) (B : Pt), s.WarmedH vm₁ ∧ Stand p l e R s m args below meth c B.U B.locs B.cells B.slots ∧ Post ⟨T.setVm vm₁, locs, cells, slots⟩ argsL.toArray v B ∧
      ∀ target, Steps p.tables e below (B.U.setTop { g with pc := g.pc + 3, stack := v.toList ++ rest }) target → Steps p.tables e below (T.setTop g) target) ∨
    (∃ (q : Addr) (vm₁ : Vm) (B : Pt), s.WarmedH vm₁ ∧ Stand p l e R s m args below meth c B.U B.locs B.cells B.slots ∧ PostX ⟨T.setVm vm₁, locs, cells, slots⟩ argsL.toArray q B ∧
      Steps p.tables e below (T.setTop g) ((B.U.setTop { g with stack := rest }).pushFrame (.throwing q))) := by
  obtain ⟨mk, methM, cM, hnamed, hmethM, -, -, -, -, -, -, hsigM⟩ := Cond.codeWith_spec hcode
  have hstatic : methM.isStatic = true := Cond.static_spec hnamed hmethM hstat
  obtain ⟨kP, hkP, -⟩ := className_of_methodNamed hnamed
  have hinitP : kP.init = .initialized := Cond.initialized_spec (findClass_of_methodNamed hnamed) hkP hinit
  obtain ⟨vm₁, X₁, hstep₁⟩ := X.invokestatic hexec hown hlink hnamed hmethM hstatic hkP hinitP hy (g := g) hg (argsL := argsL) (rest := rest) (hlen _ hsigM) hstack hdg
  rcases hK m meth c ⟨T.setVm vm₁, locs, cells, slots⟩ { g with stack := rest } (.invokestatic index) mk argsL.toArray X₁ hg hsize hdg hW (X₁.named hnamed) (hpre vm₁ X₁.warmed) with ⟨v, B, X', hpost, hsteps⟩ | ⟨q, B, X', hpost, hsteps⟩
  · exact Or.inl ⟨v, vm₁, B, X₁.warmed, X', hpost, fun target h => hstep₁ _ fun acts => by rw [doInvoke_state]; exact hsteps.trans h⟩
  · exact Or.inr ⟨q, vm₁, B, X₁.warmed, X', hpost, hstep₁ _ fun acts => by rw [doInvoke_state]; exact hsteps⟩
theorem vx_callVW (X : Stand p l e R s m args below meth c T locs cells slots) (hexec : p.tables.exec = Jvm.exec) {own C : String} {index : Nat} {y : MethodName} {bytes : ByteArray} {maxL : Nat} {ret : Option FieldType} {hh : List (Nat × Nat × Nat × Nat)}
    (hown : s.vm.findClass own = some m.cls) (hlink : (Cond.methodLink own index y).before args s = true) (hinst : (Cond.instanceMethod y).before args s = true) (hsel : (Cond.selects C y y).before args s = true)
    (hcode : (Cond.codeWith y bytes maxL ret hh).before args s = true) (hy : y.cls ≠ "java/lang/invoke/MethodHandle" ∧ y.cls ≠ "java/lang/invoke/VarHandle")
    {W9 : Nat} {Pre : Pt → Array Value → Prop} {Post : Pt → Array Value → Option Value → Pt → Prop} (hK : Back l R p e below s args y 3 W9 Pre Post)
    {b : Addr} {cellB : Cell} (hcell : T.heap[b]? = some cellB) (hobj : cellB.vm.isStatics = false) (hcls : s.vm.findClass C = some cellB.cls)
    {g : JFrame} (hg : g.method = m) (hsize : g.locals.size = c.maxLocals) {argsL rest : List Value} (hlen : ∀ sig, parseMethodDescriptor y.desc = some sig → argsL.length = sig.parameters.length)
    (hstack : g.stack = argsL.reverse ++ .ref b :: rest) (hW : 2 * g.monitorRoom + (rest.map fun v => v.category).sum ≤ W9) (hdg : decode c.code g.pc = .ok (.invokevirtual index, 3))
    (hpre : ∀ vm₁, s.WarmedH vm₁ → Pre ⟨T.setVm vm₁, locs, cells, slots⟩ (Value.ref b :: argsL).toArray) :
    ∃ (v : Option Value) (vm₁ : Vm) (B : Pt), s.WarmedH vm₁ ∧ Stand p l e R s m args below meth c B.U B.locs B.cells B.slots ∧ Post ⟨T.setVm vm₁, locs, cells, slots⟩ (Value.ref b :: argsL).toArray v B ∧
      ∀ target, Steps p.tables e below (B.U.setTop { g with pc := g.pc + 3, stack := v.toList ++ rest }) target → Steps p.tables e below (T.setTop g) target := by
  obtain ⟨mk, methM, hnamed, hmethM, hstM, habM⟩ := Cond.instanceMethod_spec hinst
  obtain ⟨m8, methM', cM, hn8, hmethM', -, -, -, -, -, -, hsigM⟩ := Cond.codeWith_spec hcode
  cases Option.some.inj (hn8.symm.trans hnamed)
  cases hmethM.symm.trans hmethM'
  obtain ⟨c2, r2, m2, q1, q2, q3, q4, kP, hkP, hkPi⟩ := Cond.selects_spec hsel
  cases hcls.symm.trans q1
  cases (State.methodFound?_of_named hnamed hy).symm.trans q2
  cases hnamed.symm.trans q3
  have hselP : selectMethod e.platform s.vm cellB.cls mk = .method mk := by rw [Launch.admits_selectMethod X.admits]; exact q4
  obtain ⟨vm₁, X₁, hstep₁⟩ := X.invokevirtual hexec hown hlink hnamed hmethM hstM hkP hkPi hy (a := b) (cell := cellB) hcell
    (fun z h => by rw [h] at hobj; cases hobj) hselP hmethM habM hkP hkPi (g := g) hg (argsL := argsL) (rest := rest) (hlen _ hsigM) hstack hdg
  obtain ⟨v, B, X', hpost, hsteps⟩ := hK m meth c ⟨T.setVm vm₁, locs, cells, slots⟩ { g with stack := rest } (.invokevirtual index) mk (Value.ref b :: argsL).toArray X₁ hg hsize hdg hW (X₁.named hnamed) (hpre vm₁ X₁.warmed)
  exact ⟨v, vm₁, B, X₁.warmed, X', hpost, fun target h => hstep₁ _ fun acts => by rw [doInvoke_state]; exact hsteps.trans h⟩
abbrev vx_CVW (R : Room) (s : State) (args : Array Value) (own C : String) (index : Nat) (y : MethodName) (bytes : ByteArray) (maxL : Nat) (ret : Option FieldType) (hh : List (Nat × Nat × Nat × Nat)) (ws : List Cond) (rm : Room) (mc ms n : Nat) : Prop :=
  (rm.cells = mc ∧ rm.slots = ms ∧ rm.frames + 1 ≤ R.frames ∧ 8 + (maxL + 11) + rm.locals ≤ R.locals ∧ (∀ w ∈ ws, ∀ (a' : Array Value) (U : State), s.WarmedH U.vm → w.before a' U = true) ∧ Cond.codeWith y bytes maxL ret hh ∈ ws) ∧
  (Cond.codeWith y bytes maxL ret hh).before args s = true ∧ (Cond.initialized y.cls).before args s = true ∧ (y.cls ≠ "java/lang/invoke/MethodHandle" ∧ y.cls ≠ "java/lang/invoke/VarHandle") ∧
  (∀ sig, parseMethodDescriptor y.desc = some sig → n = sig.parameters.length) ∧ (Cond.methodLink own index y).before args s = true ∧ (Cond.instanceMethod y).before args s = true ∧ (Cond.selects C y y).before args s = true
theorem vx_cwVW {own C : String} {index maxL mc ms : Nat} {y : MethodName} {bytes : ByteArray} {ret : Option FieldType} {hh : List (Nat × Nat × Nat × Nat)} {Ts ws ws' : List Cond} {rm : Room} (n : Nat) (ht : ∀ w ∈ Ts, w.before args s = true) (hT : GoodIn Ts (wsV own index C y ws)) (hw : ws = Cond.codeWith y bytes maxL ret hh :: ws') (hrc : rm.cells = mc) (hrs : rm.slots = ms)
    (hd : y.cls = C ∧ y.cls ≠ "java/lang/invoke/MethodHandle" ∧ y.cls ≠ "java/lang/invoke/VarHandle" ∧ (parseMethodDescriptor y.desc).map (fun d => d.parameters.length) = some n) (hR : rm.frames + 1 ≤ R.frames ∧ 8 + (maxL + 11) + rm.locals ≤ R.locals) :
    vx_CVW R s args own C index y bytes maxL ret hh ws rm mc ms n := by
  obtain ⟨hC, hd⟩ := hd
  subst hC
  have ok : ∀ w ∈ wsV own index y.cls y ws, w.before args s = true := fun w h => ht w (hT w h).1
  have hG : GoodIn Ts ws := fun w h => hT w (by unfold wsV; exact List.mem_append_right _ h)
  have hc : Cond.codeWith y bytes maxL ret hh ∈ ws := by rw [hw]; exact List.mem_cons_self
  refine ⟨⟨hrc, hrs, hR.1, hR.2, pay_in ht hG, hc⟩, ht _ (hG _ hc).1, ok _ (by simp [wsV]), ⟨hd.1, hd.2.1⟩, fun sig h => ?_, ok _ (by simp [wsV]), ok _ (by simp [wsV]), ok _ (by simp [wsV])⟩
  have h2 := hd.2.2
  rw [h] at h2
  exact (Option.some.inj h2).symm
theorem vx_runVW {y : MethodName} {bytes cc : ByteArray} {maxL nL mc ms n index : Nat} {ret : Option FieldType} {hh : List (Nat × Nat × Nat × Nat)} {ws : List Cond} {rm : Room} {Pc : Array Value → State → Prop} {Qc : Array Value → State → Outcome → State → Prop} {free : Addr → Prop} {Ts : List Cond} {own C : String} {b : Addr} {As rest : List Value} {g : JFrame}
    (S : CallFix p m c cc nL s args Ts own) (hM : Met l y ws rm Pc Qc mc ms free) (cw : vx_CVW R s args own C index y bytes maxL ret hh ws rm mc ms n) (hp : PreV s H C b Pc As)
    (hg : g.method = m) (hn : As.length = n) (hsize : g.locals.size = nL) (hstack : g.stack = As.reverse ++ .ref b :: rest) (hW : 2 * g.monitorRoom + (rest.map fun v => v.category).sum ≤ 8) (hdg : decode cc g.pc = .ok (.invokevirtual index, 3)) (hf : cells + mc ≤ R.cells ∧ slots + ms ≤ R.slots) :
    va_Run p l e R s m args below meth c H locs cells slots mc ms g rest (Qc (Value.ref b :: As).toArray) free := by
  obtain ⟨⟨hrc, hrs, hfr, hlo, hws, hcw⟩, hcode, hini, hy, hlen, hl, hin, hse⟩ := cw
  have hK : Back l R p e below s args y 3 8 (PreOf R mc ms Pc) (PostOf Qc mc ms free) := va_backW (hh := hh) (bytes := bytes) (maxL := maxL) (ret := ret) hM hp.1 hrc hrs hfr hlo hws hcw (fun a' U hW => word_at hW (Or.inl (by first | rfl | simp [Cond.onTables, Cond.keeps, Cond.steady])) hini)
  obtain ⟨hx, hb, hml, ho, -⟩ := S
  obtain ⟨-, ⟨cellB, hcB, hoB, hclB⟩, hPc⟩ := hp
  intro T hT X
  obtain ⟨v, vm₁, ⟨U', l2, c2, s2⟩, hW₁, X', ⟨g', mk, t, L, e1, e2, hq, h1, hL, h2, h3⟩, st⟩ := vx_callVW X hx (C := C) (hh := hh) (bytes := bytes) (maxL := maxL) (ret := ret) ho hl hin hse hcode hy hK (by rw [hT]; exact hcB) hoB hclB hg (hsize.trans hml.symm) (argsL := As) (rest := rest) (fun sig h => hn.trans (hlen sig h)) hstack hW (by rw [hb]; exact hdg)
    (fun vm₁ hW₁ => ⟨hf.1, hf.2, hPc (T.setVm vm₁) hT hW₁⟩)
  dsimp only [Pt.U, Pt.locs, Pt.cells, Pt.slots] at X' e1 e2 h1 h2 h3 st
  subst h1; subst h2; subst h3
  exact ⟨v, (T.setVm vm₁).calling g' mk (Value.ref b :: As).toArray, t, U', L, hT, X', hL, e1, e2, hq, st⟩
section
variable {y : MethodName} {bytes cc : ByteArray} {maxL nL mc ms n index : Nat} {ret : Option FieldType} {ws : List Cond} {rm : Room} {Pc : Array Value → State → Prop} {Qc : Array Value → State → Outcome → State → Prop} {XC : String → State → State → Prop} {free : Addr → Prop} {Ts : List Cond} {own C : String} {b : Addr} {As rest : List Value} {g : JFrame}
theorem vx_runVX {hh : List (Nat × Nat × Nat × Nat)} (S : CallFix p m c cc nL s args Ts own) (hM : vx_Met l y ws rm Pc Qc XC mc ms free) (cw : vx_CVW R s args own C index y bytes maxL ret hh ws rm mc ms n) (hp : PreV s H C b Pc As)
    (hg : g.method = m) (hn : As.length = n) (hsize : g.locals.size = nL) (hstack : g.stack = As.reverse ++ .ref b :: rest) (hW : 2 * g.monitorRoom + (rest.map fun v => v.category).sum ≤ 8) (hdg : decode cc g.pc = .ok (.invokevirtual index, 3)) (hf : cells + mc ≤ R.cells ∧ slots + ms ≤ R.slots) :
    vx_Run p l e R s m args below meth c H locs cells slots mc ms g rest (Qc (Value.ref b :: As).toArray) XC free := by
  obtain ⟨⟨hrc, hrs, hfr, hlo, hws, hcw⟩, hcode, hini, hy, hlen, hl, hin, hse⟩ := cw
  have hK : vx_Back l R p e below s args y 3 8 (PreOf R mc ms Pc) (PostOf Qc mc ms free) (vx_Post XC mc ms free) := vx_backW (hh := hh) (bytes := bytes) (maxL := maxL) (ret := ret) hM hp.1 hrc hrs hfr hlo hws hcw (fun a' U hW => word_at hW (Or.inl (by first | rfl | simp [Cond.onTables, Cond.keeps, Cond.steady])) hini)
  obtain ⟨hx, hb, hml, ho, -⟩ := S
  obtain ⟨-, ⟨cellB, hcB, hoB, hclB⟩, hPc⟩ := hp
  intro T hT X
  rcases vx_callVX X hx (C := C) (hh := hh) (bytes := bytes) (maxL := maxL) (ret := ret) ho hl hin hse hcode hy hK (by rw [hT]; exact hcB) hoB hclB hg (hsize.trans hml.symm) (argsL := As) (rest := rest) (fun sig h => hn.trans (hlen sig h)) hstack hW (by rw [hb]; exact hdg)
    (fun vm₁ hW₁ => ⟨hf.1, hf.2, hPc (T.setVm vm₁) hT hW₁⟩) with ⟨v, vm₁, ⟨U', l2, c2, s2⟩, hW₁, X', ⟨g', mk, t, L, e1, e2, hq, h1, hL, h2, h3⟩, st⟩ | ⟨q, vm₁, ⟨U', l2, c2, s2⟩, hW₁, X', ⟨g', mk, t, L, E, ce, e1, e2, hq, hce, hcv, hcl, h1, hL, h2, h3⟩, st⟩
  · dsimp only [Pt.U, Pt.locs, Pt.cells, Pt.slots] at X' e1 e2 h1 h2 h3 st
    subst h1; subst h2; subst h3
    exact Or.inl ⟨v, (T.setVm vm₁).calling g' mk (Value.ref b :: As).toArray, t, U', L, hT, X', hL, e1, e2, hq, st⟩
  · dsimp only [Pt.U, Pt.locs, Pt.cells, Pt.slots] at X' e1 e2 h1 h2 h3 st hcl
    subst h1; subst h2; subst h3
    exact Or.inr ⟨q, (T.setVm vm₁).calling g' mk (Value.ref b :: As).toArray, t, U', L, E, ce, hT, X', hL, e1, e2, hq, hce, hcv, vx_cls hW₁ hcl, st⟩
theorem vx_runSX {hh : List (Nat × Nat × Nat × Nat)} (S : CallFix p m c cc nL s args Ts own) (hM : vx_Met l y ws rm Pc Qc XC mc ms free) (cw : vx_CSW R s args own index y bytes maxL ret hh ws rm mc ms n) (hp : PreS s H Pc As)
    (hg : g.method = m) (hn : As.length = n) (hsize : g.locals.size = nL) (hstack : g.stack = As.reverse ++ rest) (hW : 2 * g.monitorRoom + (rest.map fun v => v.category).sum ≤ 8) (hdg : decode cc g.pc = .ok (.invokestatic index, 3)) (hf : cells + mc ≤ R.cells ∧ slots + ms ≤ R.slots) :
    vx_Run p l e R s m args below meth c H locs cells slots mc ms g rest (Qc As.toArray) XC free := by
  obtain ⟨⟨hrc, hrs, hfr, hlo, hws, hcw⟩, hcode, hini, hy, hlen, hl, hstt⟩ := cw
  have hK : vx_Back l R p e below s args y 3 8 (PreOf R mc ms Pc) (PostOf Qc mc ms free) (vx_Post XC mc ms free) := vx_backW (hh := hh) (bytes := bytes) (maxL := maxL) (ret := ret) hM hp.1 hrc hrs hfr hlo hws hcw (fun a' U hW => word_at hW (Or.inl (by first | rfl | simp [Cond.onTables, Cond.keeps, Cond.steady])) hini)
  obtain ⟨hx, hb, hml, ho, -⟩ := S
  intro T hT X
  rcases vx_callSX X hx (hh := hh) (bytes := bytes) (maxL := maxL) (ret := ret) ho hl hstt hini hcode hy hK hg (hsize.trans hml.symm) (argsL := As) (rest := rest) (fun sig h => hn.trans (hlen sig h)) hstack hW (by rw [hb]; exact hdg)
    (fun vm₁ hW₁ => ⟨hf.1, hf.2, hp.2 (T.setVm vm₁) hT hW₁⟩) with ⟨v, vm₁, ⟨U', l2, c2, s2⟩, hW₁, X', ⟨g', mk, t, L, e1, e2, hq, h1, hL, h2, h3⟩, st⟩ | ⟨q, vm₁, ⟨U', l2, c2, s2⟩, hW₁, X', ⟨g', mk, t, L, E, ce, e1, e2, hq, hce, hcv, hcl, h1, hL, h2, h3⟩, st⟩
  · dsimp only [Pt.U, Pt.locs, Pt.cells, Pt.slots] at X' e1 e2 h1 h2 h3 st
    subst h1; subst h2; subst h3
    exact Or.inl ⟨v, (T.setVm vm₁).calling g' mk As.toArray, t, U', L, hT, X', hL, e1, e2, hq, st⟩
  · dsimp only [Pt.U, Pt.locs, Pt.cells, Pt.slots] at X' e1 e2 h1 h2 h3 st hcl
    subst h1; subst h2; subst h3
    exact Or.inr ⟨q, (T.setVm vm₁).calling g' mk As.toArray, t, U', L, E, ce, hT, X', hL, e1, e2, hq, hce, hcv, vx_cls hW₁ hcl, st⟩
end
end VXH
theorem vx_ofWH {l : Launch} {y : MethodName} {ws ws' : List Cond} {rm : Room} {Pc : Array Value → State → Prop} {Qc : Array Value → State → Outcome → State → Prop} {XC : String → State → State → Prop} {mc ms : Nat} {free : Addr → Prop} {cc : ByteArray} {maxL : Nat} {ret : Option FieldType} {hh : List (Nat × Nat × Nat × Nat)}
    (hy : plainName y.cls = true) (hw : ws = Cond.codeWith y cc maxL ret hh :: ws')
    (body : ∀ p e s m args below meth c s₁, BodyLoose p l y (headSpec ws rm) cc maxL ret e s m args below meth c s₁ → c.maxLocals = maxL → Pc args s →
      W p l e (headSpec ws rm).room s m args below meth c s.heap [] 0 0 (vx_MQ below Qc XC args s mc ms free) (entryFrame m args maxL)) : vx_Met l y ws rm Pc Qc XC mc ms free := by
  refine MetFree.of_bodyS (code := cc) (maxLocals := maxL) (ret := ret) hy ?_ ?_
  · intro args s m h hn
    obtain ⟨m9, meth, c, hn9, h1, h2, h3, h4, -, h5, h6, -⟩ := Cond.codeWith_spec (atoms_spec (ws := ws) h _ (by rw [hw]; exact List.mem_cons_self))
    cases hn.symm.trans hn9
    exact ⟨meth, c, h1, h2, h3, h4, h5, h6⟩
  · intro p e s m args below meth c s₁ B hml hP _
    have hh0 : s₁.heap = s.heap := by rw [B.state]; rfl
    obtain ⟨t, a1, o, b1, b2, b3⟩ := body p e s m args below meth c s₁ B hml hP s₁ hh0 (Stand.of_body B)
    exact ⟨t, o, a1, b1, b2, b3⟩
/-! ===== END ===== -/

def RX0 : String := "AshlarLodge$Attempt"
def TX0 : u_T := fun k => match k with
  | _ => ("", "", "", false)
def tyX0 : Nat → FieldType := fun k => match k with
  | _ => .int
abbrev wsX00 : List Cond := u_ws RX0 TX0 0
theorem nmX0 : ∀ a, a < 0 → ∀ b, b < 0 → a ≠ b → (TX0 a).2.1 ≠ (TX0 b).2.1 := by decide +kernel
theorem tyX0_ok : ∀ k, k < 0 → parseFieldDescriptor (TX0 k).2.2.1 = some (tyX0 k) := by decide +kernel
abbrev cX0_cuts : ByteArray := prog_2_method_2_code
def yX0_cuts : MethodName := ⟨RX0, "cuts", "(LAshlarLodge$Lodge;III)Z"⟩
abbrev cX0_inspects : ByteArray := prog_2_method_3_code
def yX0_inspects : MethodName := ⟨RX0, "inspects", "(LAshlarLodge$Lodge;I)Z"⟩
abbrev cX0_recuts : ByteArray := prog_2_method_4_code
def yX0_recuts : MethodName := ⟨RX0, "recuts", "(LAshlarLodge$Lodge;III)Z"⟩
abbrev cX0_scraps : ByteArray := prog_2_method_5_code
def yX0_scraps : MethodName := ⟨RX0, "scraps", "(LAshlarLodge$Lodge;I)Z"⟩
abbrev cX0_sets : ByteArray := prog_2_method_6_code
def yX0_sets : MethodName := ⟨RX0, "sets", "(LAshlarLodge$Lodge;I)Z"⟩
def RX1 : String := "AshlarLodge$Forecast"
def TX1 : u_T := fun k => match k with
  | 0 => ("AshlarLodge$Forecast", "lacking", "[I", true)
  | _ => ("AshlarLodge$Forecast", "work", "[I", true)
def tyX1 : Nat → FieldType := fun k => match k with
  | 0 => .array .int
  | _ => .array .int
abbrev wsX10 : List Cond := u_ws RX1 TX1 2
theorem nmX1 : ∀ a, a < 2 → ∀ b, b < 2 → a ≠ b → (TX1 a).2.1 ≠ (TX1 b).2.1 := by decide +kernel
theorem tyX1_ok : ∀ k, k < 2 → parseFieldDescriptor (TX1 k).2.2.1 = some (tyX1 k) := by decide +kernel
abbrev cX1_init : ByteArray := prog_3_method_1_code
def yX1_init : MethodName := ⟨RX1, "<init>", "()V"⟩
abbrev cX1_daysFor : ByteArray := prog_3_method_2_code
def yX1_daysFor : MethodName := ⟨RX1, "daysFor", "(LAshlarLodge$Lodge;)I"⟩
abbrev cX1_takeWork : ByteArray := prog_3_method_3_code
def yX1_takeWork : MethodName := ⟨RX1, "takeWork", "(LAshlarLodge$Lodge;I)V"⟩
abbrev cX1_isAnyLacking : ByteArray := prog_3_method_4_code
def yX1_isAnyLacking : MethodName := ⟨RX1, "isAnyLacking", "()Z"⟩
abbrev cX1_workOneDay : ByteArray := prog_3_method_5_code
def yX1_workOneDay : MethodName := ⟨RX1, "workOneDay", "(LAshlarLodge$Lodge;)V"⟩
abbrev cX1_cutNext : ByteArray := prog_3_method_6_code
def yX1_cutNext : MethodName := ⟨RX1, "cutNext", "(LAshlarLodge$Lodge;I)I"⟩
def RX2 : String := "AshlarLodge$Lodge"
def TX2 : u_T := fun k => match k with
  | 0 => ("AshlarLodge$Lodge", "courses", "LAshlarLodge$Table;", true)
  | 1 => ("AshlarLodge$Lodge", "masons", "LAshlarLodge$Table;", true)
  | 2 => ("AshlarLodge$Lodge", "stones", "LAshlarLodge$Table;", true)
  | 3 => ("AshlarLodge$Lodge", "day", "I", false)
  | 4 => ("AshlarLodge$Lodge", "frost", "Z", false)
  | 5 => ("AshlarLodge$Lodge", "bound", "I", false)
  | 6 => ("AshlarLodge$Lodge", "paid", "I", false)
  | _ => ("AshlarLodge$Lodge", "frostDays", "I", false)
def tyX2 : Nat → FieldType := fun k => match k with
  | 0 => .object "AshlarLodge$Table"
  | 1 => .object "AshlarLodge$Table"
  | 2 => .object "AshlarLodge$Table"
  | 3 => .int
  | 4 => .boolean
  | 5 => .int
  | 6 => .int
  | _ => .int
abbrev wsX20 : List Cond := u_ws RX2 TX2 8
theorem nmX2 : ∀ a, a < 8 → ∀ b, b < 8 → a ≠ b → (TX2 a).2.1 ≠ (TX2 b).2.1 := by decide +kernel
theorem tyX2_ok : ∀ k, k < 8 → parseFieldDescriptor (TX2 k).2.2.1 = some (tyX2 k) := by decide +kernel
abbrev cX2_init : ByteArray := prog_4_method_1_code
def yX2_init : MethodName := ⟨RX2, "<init>", "()V"⟩
abbrev cX2_makeNew : ByteArray := prog_4_method_2_code
def yX2_makeNew : MethodName := ⟨RX2, "makeNew", "()V"⟩
abbrev cX2_copyFrom : ByteArray := prog_4_method_3_code
def yX2_copyFrom : MethodName := ⟨RX2, "copyFrom", "(LAshlarLodge$Lodge;)V"⟩
abbrev cX2_completeCourses : ByteArray := prog_4_method_4_code
def yX2_completeCourses : MethodName := ⟨RX2, "completeCourses", "()I"⟩
abbrev cX2_lacking : ByteArray := prog_4_method_5_code
def yX2_lacking : MethodName := ⟨RX2, "lacking", "(I)I"⟩
abbrev cX2_badMarks : ByteArray := prog_4_method_6_code
def yX2_badMarks : MethodName := ⟨RX2, "badMarks", "(I)I"⟩
abbrev cX2_hindrance : ByteArray := prog_4_method_7_code
def yX2_hindrance : MethodName := ⟨RX2, "hindrance", "(I)I"⟩
abbrev cX2_newCourse : ByteArray := prog_4_method_8_code
def yX2_newCourse : MethodName := ⟨RX2, "newCourse", "(III)I"⟩
abbrev cX2_newMason : ByteArray := prog_4_method_9_code
def yX2_newMason : MethodName := ⟨RX2, "newMason", "(II)I"⟩
abbrev cX2_newStone : ByteArray := prog_4_method_10_code
def yX2_newStone : MethodName := ⟨RX2, "newStone", "(III)I"⟩
abbrev cX2_hasWorkToCut : ByteArray := prog_4_method_11_code
def yX2_hasWorkToCut : MethodName := ⟨RX2, "hasWorkToCut", "(II)Z"⟩
abbrev cX2_mayCut : ByteArray := prog_4_method_12_code
def yX2_mayCut : MethodName := ⟨RX2, "mayCut", "(II)Z"⟩
abbrev cX2_cutStone : ByteArray := prog_4_method_13_code
def yX2_cutStone : MethodName := ⟨RX2, "cutStone", "(III)I"⟩
abbrev cX2_mayInspect : ByteArray := prog_4_method_14_code
def yX2_mayInspect : MethodName := ⟨RX2, "mayInspect", "(I)Z"⟩
abbrev cX2_priceOf : ByteArray := prog_4_method_15_code
def yX2_priceOf : MethodName := ⟨RX2, "priceOf", "(I)I"⟩
abbrev cX2_inspectStone : ByteArray := prog_4_method_16_code
def yX2_inspectStone : MethodName := ⟨RX2, "inspectStone", "(I)I"⟩
abbrev cX2_workToRecut : ByteArray := prog_4_method_17_code
def yX2_workToRecut : MethodName := ⟨RX2, "workToRecut", "(I)I"⟩
abbrev cX2_isSmaller : ByteArray := prog_4_method_18_code
def yX2_isSmaller : MethodName := ⟨RX2, "isSmaller", "(II)Z"⟩
abbrev cX2_mayRecut : ByteArray := prog_4_method_19_code
def yX2_mayRecut : MethodName := ⟨RX2, "mayRecut", "(III)Z"⟩
abbrev cX2_recutStone : ByteArray := prog_4_method_20_code
def yX2_recutStone : MethodName := ⟨RX2, "recutStone", "(III)I"⟩
abbrev cX2_mayScrap : ByteArray := prog_4_method_21_code
def yX2_mayScrap : MethodName := ⟨RX2, "mayScrap", "(I)Z"⟩
abbrev cX2_scrapStone : ByteArray := prog_4_method_22_code
def yX2_scrapStone : MethodName := ⟨RX2, "scrapStone", "(I)I"⟩
abbrev cX2_setStone : ByteArray := prog_4_method_23_code
def yX2_setStone : MethodName := ⟨RX2, "setStone", "(I)I"⟩
abbrev cX2_payAll : ByteArray := prog_4_method_24_code
def yX2_payAll : MethodName := ⟨RX2, "payAll", "()I"⟩
abbrev cX2_handOutWork : ByteArray := prog_4_method_25_code
def yX2_handOutWork : MethodName := ⟨RX2, "handOutWork", "()V"⟩
abbrev cX2_beginDay : ByteArray := prog_4_method_26_code
def yX2_beginDay : MethodName := ⟨RX2, "beginDay", "(Z)I"⟩
abbrev cX2_courseForRecut : ByteArray := prog_4_method_27_code
def yX2_courseForRecut : MethodName := ⟨RX2, "courseForRecut", "(I)I"⟩
abbrev cX2_cheapestFor : ByteArray := prog_4_method_28_code
def yX2_cheapestFor : MethodName := ⟨RX2, "cheapestFor", "(I)I"⟩
abbrev cX2_smallestRate : ByteArray := prog_4_method_29_code
def yX2_smallestRate : MethodName := ⟨RX2, "smallestRate", "()I"⟩
abbrev cX2_costOfLacking : ByteArray := prog_4_method_30_code
def yX2_costOfLacking : MethodName := ⟨RX2, "costOfLacking", "()I"⟩
abbrev cX2_settable : ByteArray := prog_4_method_31_code
def yX2_settable : MethodName := ⟨RX2, "settable", "()I"⟩
abbrev cX2_earnings : ByteArray := prog_4_method_32_code
def yX2_earnings : MethodName := ⟨RX2, "earnings", "(I)I"⟩
abbrev cX2_worstMason : ByteArray := prog_4_method_33_code
def yX2_worstMason : MethodName := ⟨RX2, "worstMason", "()I"⟩
def RX3 : String := "AshlarLodge$Memory"
def TX3 : u_T := fun k => match k with
  | 0 => ("AshlarLodge$Memory", "states", "[LAshlarLodge$Lodge;", true)
  | 1 => ("AshlarLodge$Memory", "next", "I", false)
  | _ => ("AshlarLodge$Memory", "remembered", "I", false)
def tyX3 : Nat → FieldType := fun k => match k with
  | 0 => .array (.object "AshlarLodge$Lodge")
  | 1 => .int
  | _ => .int
abbrev wsX30 : List Cond := u_ws RX3 TX3 3
theorem nmX3 : ∀ a, a < 3 → ∀ b, b < 3 → a ≠ b → (TX3 a).2.1 ≠ (TX3 b).2.1 := by decide +kernel
theorem tyX3_ok : ∀ k, k < 3 → parseFieldDescriptor (TX3 k).2.2.1 = some (tyX3 k) := by decide +kernel
abbrev cX3_init : ByteArray := prog_5_method_1_code
def yX3_init : MethodName := ⟨RX3, "<init>", "()V"⟩
abbrev cX3_isEmpty : ByteArray := prog_5_method_2_code
def yX3_isEmpty : MethodName := ⟨RX3, "isEmpty", "()Z"⟩
abbrev cX3_forgetAll : ByteArray := prog_5_method_3_code
def yX3_forgetAll : MethodName := ⟨RX3, "forgetAll", "()V"⟩
abbrev cX3_remember : ByteArray := prog_5_method_4_code
def yX3_remember : MethodName := ⟨RX3, "remember", "(LAshlarLodge$Lodge;)V"⟩
abbrev cX3_takeBack : ByteArray := prog_5_method_5_code
def yX3_takeBack : MethodName := ⟨RX3, "takeBack", "(LAshlarLodge$Lodge;)I"⟩
def RX4 : String := "AshlarLodge$Reader"
def TX4 : u_T := fun k => match k with
  | 0 => ("AshlarLodge$Reader", "text", "LAshlarLodge$Text;", true)
  | 1 => ("AshlarLodge$Reader", "lodge", "LAshlarLodge$Lodge;", true)
  | _ => ("AshlarLodge$Reader", "place", "I", false)
def tyX4 : Nat → FieldType := fun k => match k with
  | 0 => .object "AshlarLodge$Text"
  | 1 => .object "AshlarLodge$Lodge"
  | _ => .int
abbrev wsX40 : List Cond := u_ws RX4 TX4 3
theorem nmX4 : ∀ a, a < 3 → ∀ b, b < 3 → a ≠ b → (TX4 a).2.1 ≠ (TX4 b).2.1 := by decide +kernel
theorem tyX4_ok : ∀ k, k < 3 → parseFieldDescriptor (TX4 k).2.2.1 = some (tyX4 k) := by decide +kernel
abbrev cX4_init : ByteArray := prog_6_method_1_code
def yX4_init : MethodName := ⟨RX4, "<init>", "(LAshlarLodge$Text;LAshlarLodge$Lodge;)V"⟩
abbrev cX4_read : ByteArray := prog_6_method_2_code
def yX4_read : MethodName := ⟨RX4, "read", "()I"⟩
abbrev cX4_takePart : ByteArray := prog_6_method_3_code
def yX4_takePart : MethodName := ⟨RX4, "takePart", "()Z"⟩
abbrev cX4_takeDigit : ByteArray := prog_6_method_4_code
def yX4_takeDigit : MethodName := ⟨RX4, "takeDigit", "(II)I"⟩
abbrev cX4_takeCourse : ByteArray := prog_6_method_5_code
def yX4_takeCourse : MethodName := ⟨RX4, "takeCourse", "()Z"⟩
abbrev cX4_takeMason : ByteArray := prog_6_method_6_code
def yX4_takeMason : MethodName := ⟨RX4, "takeMason", "()Z"⟩
abbrev cX4_takeStrength : ByteArray := prog_6_method_7_code
def yX4_takeStrength : MethodName := ⟨RX4, "takeStrength", "()I"⟩
abbrev cX4_takeStone : ByteArray := prog_6_method_8_code
def yX4_takeStone : MethodName := ⟨RX4, "takeStone", "()Z"⟩
abbrev cX4_takeFrost : ByteArray := prog_6_method_9_code
def yX4_takeFrost : MethodName := ⟨RX4, "takeFrost", "()Z"⟩
def RX5 : String := "AshlarLodge$Script"
def TX5 : u_T := fun k => match k with
  | _ => ("", "", "", false)
def tyX5 : Nat → FieldType := fun k => match k with
  | _ => .int
abbrev wsX50 : List Cond := u_ws RX5 TX5 0
theorem nmX5 : ∀ a, a < 0 → ∀ b, b < 0 → a ≠ b → (TX5 a).2.1 ≠ (TX5 b).2.1 := by decide +kernel
theorem tyX5_ok : ∀ k, k < 0 → parseFieldDescriptor (TX5 k).2.2.1 = some (tyX5 k) := by decide +kernel
abbrev cX5_withoutLastGroups : ByteArray := prog_7_method_2_code
def yX5_withoutLastGroups : MethodName := ⟨RX5, "withoutLastGroups", "(JI)J"⟩
abbrev cX5_lastGroup : ByteArray := prog_7_method_3_code
def yX5_lastGroup : MethodName := ⟨RX5, "lastGroup", "(J)I"⟩
abbrev cX5_succeeds : ByteArray := prog_7_method_4_code
def yX5_succeeds : MethodName := ⟨RX5, "succeeds", "(LAshlarLodge$Lodge;I)Z"⟩
abbrev cX5_begins : ByteArray := prog_7_method_5_code
def yX5_begins : MethodName := ⟨RX5, "begins", "(LAshlarLodge$Lodge;I)Z"⟩
abbrev cX5_bounds : ByteArray := prog_7_method_6_code
def yX5_bounds : MethodName := ⟨RX5, "bounds", "(LAshlarLodge$Lodge;I)Z"⟩
def RX6 : String := "AshlarLodge$Shelf"
def TX6 : u_T := fun k => match k with
  | 0 => ("AshlarLodge$Shelf", "states", "[LAshlarLodge$Lodge;", true)
  | _ => ("AshlarLodge$Shelf", "filled", "[Z", true)
def tyX6 : Nat → FieldType := fun k => match k with
  | 0 => .array (.object "AshlarLodge$Lodge")
  | _ => .array .boolean
abbrev wsX60 : List Cond := u_ws RX6 TX6 2
theorem nmX6 : ∀ a, a < 2 → ∀ b, b < 2 → a ≠ b → (TX6 a).2.1 ≠ (TX6 b).2.1 := by decide +kernel
theorem tyX6_ok : ∀ k, k < 2 → parseFieldDescriptor (TX6 k).2.2.1 = some (tyX6 k) := by decide +kernel
abbrev cX6_init : ByteArray := prog_8_method_1_code
def yX6_init : MethodName := ⟨RX6, "<init>", "()V"⟩
abbrev cX6_emptyAll : ByteArray := prog_8_method_2_code
def yX6_emptyAll : MethodName := ⟨RX6, "emptyAll", "()V"⟩
abbrev cX6_isFilled : ByteArray := prog_8_method_3_code
def yX6_isFilled : MethodName := ⟨RX6, "isFilled", "(I)Z"⟩
abbrev cX6_store : ByteArray := prog_8_method_4_code
def yX6_store : MethodName := ⟨RX6, "store", "(ILAshlarLodge$Lodge;)V"⟩
abbrev cX6_fetch : ByteArray := prog_8_method_5_code
def yX6_fetch : MethodName := ⟨RX6, "fetch", "(ILAshlarLodge$Lodge;)V"⟩
def RX7 : String := "AshlarLodge$Simulation"
def TX7 : u_T := fun k => match k with
  | _ => ("", "", "", false)
def tyX7 : Nat → FieldType := fun k => match k with
  | _ => .int
abbrev wsX70 : List Cond := u_ws RX7 TX7 0
theorem nmX7 : ∀ a, a < 0 → ∀ b, b < 0 → a ≠ b → (TX7 a).2.1 ≠ (TX7 b).2.1 := by decide +kernel
theorem tyX7_ok : ∀ k, k < 0 → parseFieldDescriptor (TX7 k).2.2.1 = some (tyX7 k) := by decide +kernel
abbrev cX7_playRound : ByteArray := prog_9_method_2_code
def yX7_playRound : MethodName := ⟨RX7, "playRound", "(LAshlarLodge$Lodge;I)V"⟩
abbrev cX7_remainder : ByteArray := prog_9_method_3_code
def yX7_remainder : MethodName := ⟨RX7, "remainder", "(II)I"⟩
abbrev cX7_setLowest : ByteArray := prog_9_method_4_code
def yX7_setLowest : MethodName := ⟨RX7, "setLowest", "(LAshlarLodge$Lodge;)V"⟩
abbrev cX7_recutLowest : ByteArray := prog_9_method_5_code
def yX7_recutLowest : MethodName := ⟨RX7, "recutLowest", "(LAshlarLodge$Lodge;I)V"⟩
def RX8 : String := "AshlarLodge$Table"
def TX8 : u_T := fun k => match k with
  | 0 => ("AshlarLodge$Table", "cells", "[I", true)
  | 1 => ("AshlarLodge$Table", "width", "I", true)
  | 2 => ("AshlarLodge$Table", "limit", "I", true)
  | _ => ("AshlarLodge$Table", "rows", "I", false)
def tyX8 : Nat → FieldType := fun k => match k with
  | 0 => .array .int
  | 1 => .int
  | 2 => .int
  | _ => .int
abbrev wsX80 : List Cond := u_ws RX8 TX8 4
theorem nmX8 : ∀ a, a < 4 → ∀ b, b < 4 → a ≠ b → (TX8 a).2.1 ≠ (TX8 b).2.1 := by decide +kernel
theorem tyX8_ok : ∀ k, k < 4 → parseFieldDescriptor (TX8 k).2.2.1 = some (tyX8 k) := by decide +kernel
abbrev cX8_init : ByteArray := prog_10_method_1_code
def yX8_init : MethodName := ⟨RX8, "<init>", "([III)V"⟩
abbrev cX8_size : ByteArray := prog_10_method_2_code
def yX8_size : MethodName := ⟨RX8, "size", "()I"⟩
abbrev cX8_has : ByteArray := prog_10_method_3_code
def yX8_has : MethodName := ⟨RX8, "has", "(I)Z"⟩
abbrev cX8_hasRoom : ByteArray := prog_10_method_4_code
def yX8_hasRoom : MethodName := ⟨RX8, "hasRoom", "()Z"⟩
abbrev cX8_removeAll : ByteArray := prog_10_method_5_code
def yX8_removeAll : MethodName := ⟨RX8, "removeAll", "()V"⟩
abbrev cX8_addRow : ByteArray := prog_10_method_6_code
def yX8_addRow : MethodName := ⟨RX8, "addRow", "()I"⟩
abbrev cX8_get : ByteArray := prog_10_method_7_code
def yX8_get : MethodName := ⟨RX8, "get", "(II)I"⟩
abbrev cX8_put : ByteArray := prog_10_method_8_code
def yX8_put : MethodName := ⟨RX8, "put", "(III)V"⟩
abbrev cX8_increase : ByteArray := prog_10_method_9_code
def yX8_increase : MethodName := ⟨RX8, "increase", "(III)V"⟩
abbrev cX8_sum : ByteArray := prog_10_method_10_code
def yX8_sum : MethodName := ⟨RX8, "sum", "(I)I"⟩
abbrev cX8_count : ByteArray := prog_10_method_11_code
def yX8_count : MethodName := ⟨RX8, "count", "(II)I"⟩
abbrev cX8_countBoth : ByteArray := prog_10_method_12_code
def yX8_countBoth : MethodName := ⟨RX8, "countBoth", "(IIII)I"⟩
abbrev cX8_firstWith : ByteArray := prog_10_method_13_code
def yX8_firstWith : MethodName := ⟨RX8, "firstWith", "(II)I"⟩
abbrev cX8_copyFrom : ByteArray := prog_10_method_14_code
def yX8_copyFrom : MethodName := ⟨RX8, "copyFrom", "(LAshlarLodge$Table;)V"⟩
def RX9 : String := "AshlarLodge$Text"
def TX9 : u_T := fun k => match k with
  | 0 => ("AshlarLodge$Text", "characters", "[C", true)
  | _ => ("AshlarLodge$Text", "length", "I", false)
def tyX9 : Nat → FieldType := fun k => match k with
  | 0 => .array .char
  | _ => .int
abbrev wsX90 : List Cond := u_ws RX9 TX9 2
theorem nmX9 : ∀ a, a < 2 → ∀ b, b < 2 → a ≠ b → (TX9 a).2.1 ≠ (TX9 b).2.1 := by decide +kernel
theorem tyX9_ok : ∀ k, k < 2 → parseFieldDescriptor (TX9 k).2.2.1 = some (tyX9 k) := by decide +kernel
abbrev cX9_init : ByteArray := prog_11_method_1_code
def yX9_init : MethodName := ⟨RX9, "<init>", "()V"⟩
abbrev cX9_size : ByteArray := prog_11_method_2_code
def yX9_size : MethodName := ⟨RX9, "size", "()I"⟩
abbrev cX9_isFull : ByteArray := prog_11_method_3_code
def yX9_isFull : MethodName := ⟨RX9, "isFull", "()Z"⟩
abbrev cX9_addCharacter : ByteArray := prog_11_method_4_code
def yX9_addCharacter : MethodName := ⟨RX9, "addCharacter", "(C)I"⟩
abbrev cX9_empty : ByteArray := prog_11_method_5_code
def yX9_empty : MethodName := ⟨RX9, "empty", "()I"⟩
abbrev cX9_at : ByteArray := prog_11_method_6_code
def yX9_at : MethodName := ⟨RX9, "at", "(I)C"⟩
def RX10 : String := "AshlarLodge"
def TX10 : u_T := fun k => match k with
  | 0 => ("AshlarLodge", "text", "LAshlarLodge$Text;", true)
  | 1 => ("AshlarLodge", "now", "LAshlarLodge$Lodge;", true)
  | 2 => ("AshlarLodge", "trial", "LAshlarLodge$Lodge;", true)
  | 3 => ("AshlarLodge", "memory", "LAshlarLodge$Memory;", true)
  | 4 => ("AshlarLodge", "shelf", "LAshlarLodge$Shelf;", true)
  | _ => ("AshlarLodge", "forecast", "LAshlarLodge$Forecast;", true)
def tyX10 : Nat → FieldType := fun k => match k with
  | 0 => .object "AshlarLodge$Text"
  | 1 => .object "AshlarLodge$Lodge"
  | 2 => .object "AshlarLodge$Lodge"
  | 3 => .object "AshlarLodge$Memory"
  | 4 => .object "AshlarLodge$Shelf"
  | _ => .object "AshlarLodge$Forecast"
abbrev wsX100 : List Cond := u_ws RX10 TX10 6
theorem nmX10 : ∀ a, a < 6 → ∀ b, b < 6 → a ≠ b → (TX10 a).2.1 ≠ (TX10 b).2.1 := by decide +kernel
theorem tyX10_ok : ∀ k, k < 6 → parseFieldDescriptor (TX10 k).2.2.1 = some (tyX10 k) := by decide +kernel
abbrev cX10_init : ByteArray := prog_1_method_1_code
def yX10_init : MethodName := ⟨RX10, "<init>", "()V"⟩
abbrev cX10_append : ByteArray := prog_1_method_2_code
def yX10_append : MethodName := ⟨RX10, "append", "(I)I"⟩
abbrev cX10_clearText : ByteArray := prog_1_method_3_code
def yX10_clearText : MethodName := ⟨RX10, "clearText", "()I"⟩
abbrev cX10_errorPosition : ByteArray := prog_1_method_4_code
def yX10_errorPosition : MethodName := ⟨RX10, "errorPosition", "()I"⟩
abbrev cX10_load : ByteArray := prog_1_method_5_code
def yX10_load : MethodName := ⟨RX10, "load", "()I"⟩
abbrev cX10_about : ByteArray := prog_1_method_6_code
def yX10_about : MethodName := ⟨RX10, "about", "(I)I"⟩
abbrev cX10_course : ByteArray := prog_1_method_7_code
def yX10_course : MethodName := ⟨RX10, "course", "(II)I"⟩
abbrev cX10_mason : ByteArray := prog_1_method_8_code
def yX10_mason : MethodName := ⟨RX10, "mason", "(II)I"⟩
abbrev cX10_stone : ByteArray := prog_1_method_9_code
def yX10_stone : MethodName := ⟨RX10, "stone", "(II)I"⟩
abbrev cX10_whyNotSet : ByteArray := prog_1_method_10_code
def yX10_whyNotSet : MethodName := ⟨RX10, "whyNotSet", "(I)I"⟩
abbrev cX10_addCourse : ByteArray := prog_1_method_11_code
def yX10_addCourse : MethodName := ⟨RX10, "addCourse", "(III)I"⟩
abbrev cX10_addMason : ByteArray := prog_1_method_12_code
def yX10_addMason : MethodName := ⟨RX10, "addMason", "(II)I"⟩
abbrev cX10_setRate : ByteArray := prog_1_method_13_code
def yX10_setRate : MethodName := ⟨RX10, "setRate", "(II)I"⟩
abbrev cX10_setBound : ByteArray := prog_1_method_14_code
def yX10_setBound : MethodName := ⟨RX10, "setBound", "(I)I"⟩
abbrev cX10_cut : ByteArray := prog_1_method_15_code
def yX10_cut : MethodName := ⟨RX10, "cut", "(III)I"⟩
abbrev cX10_inspect : ByteArray := prog_1_method_16_code
def yX10_inspect : MethodName := ⟨RX10, "inspect", "(I)I"⟩
abbrev cX10_recut : ByteArray := prog_1_method_17_code
def yX10_recut : MethodName := ⟨RX10, "recut", "(III)I"⟩
abbrev cX10_scrap : ByteArray := prog_1_method_18_code
def yX10_scrap : MethodName := ⟨RX10, "scrap", "(I)I"⟩
abbrev cX10_set : ByteArray := prog_1_method_19_code
def yX10_set : MethodName := ⟨RX10, "set", "(I)I"⟩
abbrev cX10_pay : ByteArray := prog_1_method_20_code
def yX10_pay : MethodName := ⟨RX10, "pay", "()I"⟩
abbrev cX10_nextDay : ByteArray := prog_1_method_21_code
def yX10_nextDay : MethodName := ⟨RX10, "nextDay", "(Z)I"⟩
abbrev cX10_undo : ByteArray := prog_1_method_22_code
def yX10_undo : MethodName := ⟨RX10, "undo", "()I"⟩
abbrev cX10_recutFor : ByteArray := prog_1_method_23_code
def yX10_recutFor : MethodName := ⟨RX10, "recutFor", "(I)I"⟩
abbrev cX10_cheapest : ByteArray := prog_1_method_24_code
def yX10_cheapest : MethodName := ⟨RX10, "cheapest", "(I)I"⟩
abbrev cX10_costLeft : ByteArray := prog_1_method_25_code
def yX10_costLeft : MethodName := ⟨RX10, "costLeft", "()I"⟩
abbrev cX10_daysLeft : ByteArray := prog_1_method_26_code
def yX10_daysLeft : MethodName := ⟨RX10, "daysLeft", "()I"⟩
abbrev cX10_canSet : ByteArray := prog_1_method_27_code
def yX10_canSet : MethodName := ⟨RX10, "canSet", "()I"⟩
abbrev cX10_wouldEarn : ByteArray := prog_1_method_28_code
def yX10_wouldEarn : MethodName := ⟨RX10, "wouldEarn", "(I)I"⟩
abbrev cX10_worstMark : ByteArray := prog_1_method_29_code
def yX10_worstMark : MethodName := ⟨RX10, "worstMark", "()I"⟩
abbrev cX10_runScript : ByteArray := prog_1_method_30_code
def yX10_runScript : MethodName := ⟨RX10, "runScript", "(IJ)I"⟩
abbrev cX10_simulate : ByteArray := prog_1_method_31_code
def yX10_simulate : MethodName := ⟨RX10, "simulate", "(JI)I"⟩
abbrev cX10_save : ByteArray := prog_1_method_32_code
def yX10_save : MethodName := ⟨RX10, "save", "(I)I"⟩
abbrev cX10_restore : ByteArray := prog_1_method_33_code
def yX10_restore : MethodName := ⟨RX10, "restore", "(I)I"⟩
abbrev cX10_requireCourse : ByteArray := prog_1_method_34_code
def yX10_requireCourse : MethodName := ⟨RX10, "requireCourse", "(I)V"⟩
abbrev cX10_requireMason : ByteArray := prog_1_method_35_code
def yX10_requireMason : MethodName := ⟨RX10, "requireMason", "(I)V"⟩
abbrev cX10_requireStone : ByteArray := prog_1_method_36_code
def yX10_requireStone : MethodName := ⟨RX10, "requireStone", "(I)V"⟩
abbrev cX10_requireBound : ByteArray := prog_1_method_37_code
def yX10_requireBound : MethodName := ⟨RX10, "requireBound", "(I)V"⟩
abbrev cX10_requireSlot : ByteArray := prog_1_method_38_code
def yX10_requireSlot : MethodName := ⟨RX10, "requireSlot", "(I)V"⟩
abbrev cX10_isWithin : ByteArray := prog_1_method_39_code
def yX10_isWithin : MethodName := ⟨RX10, "isWithin", "(III)Z"⟩
abbrev cX10_copyLodge : ByteArray := prog_1_method_40_code
def yX10_copyLodge : MethodName := ⟨RX10, "copyLodge", "(LAshlarLodge$Lodge;LAshlarLodge$Lodge;)V"⟩
def RX11 : String := "AshlarLodgeModel"
def TX11 : u_T := fun k => match k with
  | 0 => ("AshlarLodgeModel", "refusal", "I", false)
  | 1 => ("AshlarLodgeModel", "text", "[I", true)
  | 2 => ("AshlarLodgeModel", "textSize", "I", false)
  | 3 => ("AshlarLodgeModel", "spot", "I", false)
  | 4 => ("AshlarLodgeModel", "frostTold", "Z", false)
  | 5 => ("AshlarLodgeModel", "read", "[I", true)
  | 6 => ("AshlarLodgeModel", "now", "[I", true)
  | 7 => ("AshlarLodgeModel", "trial", "[I", true)
  | 8 => ("AshlarLodgeModel", "diary", "[I", true)
  | 9 => ("AshlarLodgeModel", "acts", "I", false)
  | 10 => ("AshlarLodgeModel", "kept", "[I", true)
  | 11 => ("AshlarLodgeModel", "isKept", "[Z", true)
  | _ => ("AshlarLodgeModel", "lacking", "[I", true)
def tyX11 : Nat → FieldType := fun k => match k with
  | 0 => .int
  | 1 => .array .int
  | 2 => .int
  | 3 => .int
  | 4 => .boolean
  | 5 => .array .int
  | 6 => .array .int
  | 7 => .array .int
  | 8 => .array .int
  | 9 => .int
  | 10 => .array .int
  | 11 => .array .boolean
  | _ => .array .int
abbrev wsX110 : List Cond := u_ws RX11 TX11 13
theorem nmX11 : ∀ a, a < 13 → ∀ b, b < 13 → a ≠ b → (TX11 a).2.1 ≠ (TX11 b).2.1 := by decide +kernel
theorem tyX11_ok : ∀ k, k < 13 → parseFieldDescriptor (TX11 k).2.2.1 = some (tyX11 k) := by decide +kernel
abbrev cX11_init : ByteArray := prog_13_method_1_code
def yX11_init : MethodName := ⟨RX11, "<init>", "()V"⟩
abbrev cX11_thrown : ByteArray := prog_13_method_2_code
def yX11_thrown : MethodName := ⟨RX11, "thrown", "()I"⟩
abbrev cX11_refused : ByteArray := prog_13_method_3_code
def yX11_refused : MethodName := ⟨RX11, "refused", "(I)Z"⟩
abbrev cX11_in : ByteArray := prog_13_method_4_code
def yX11_in : MethodName := ⟨RX11, "in", "(JJJ)Z"⟩
abbrev cX11_copyPage : ByteArray := prog_13_method_5_code
def yX11_copyPage : MethodName := ⟨RX11, "copyPage", "([II[II)V"⟩
abbrev cX11_isCourse : ByteArray := prog_13_method_6_code
def yX11_isCourse : MethodName := ⟨RX11, "isCourse", "([II)Z"⟩
abbrev cX11_isMason : ByteArray := prog_13_method_7_code
def yX11_isMason : MethodName := ⟨RX11, "isMason", "([II)Z"⟩
abbrev cX11_isStone : ByteArray := prog_13_method_8_code
def yX11_isStone : MethodName := ⟨RX11, "isStone", "([II)Z"⟩
abbrev cX11_sizeOf : ByteArray := prog_13_method_9_code
def yX11_sizeOf : MethodName := ⟨RX11, "sizeOf", "([II)I"⟩
abbrev cX11_facesOf : ByteArray := prog_13_method_10_code
def yX11_facesOf : MethodName := ⟨RX11, "facesOf", "([II)I"⟩
abbrev cX11_neededOf : ByteArray := prog_13_method_11_code
def yX11_neededOf : MethodName := ⟨RX11, "neededOf", "([II)I"⟩
abbrev cX11_stonesOf : ByteArray := prog_13_method_12_code
def yX11_stonesOf : MethodName := ⟨RX11, "stonesOf", "([III)I"⟩
abbrev cX11_stonesWith : ByteArray := prog_13_method_13_code
def yX11_stonesWith : MethodName := ⟨RX11, "stonesWith", "([II)I"⟩
abbrev cX11_markedBy : ByteArray := prog_13_method_14_code
def yX11_markedBy : MethodName := ⟨RX11, "markedBy", "([III)I"⟩
abbrev cX11_isComplete : ByteArray := prog_13_method_15_code
def yX11_isComplete : MethodName := ⟨RX11, "isComplete", "([II)Z"⟩
abbrev cX11_lacks : ByteArray := prog_13_method_16_code
def yX11_lacks : MethodName := ⟨RX11, "lacks", "([II)I"⟩
abbrev cX11_owedToAll : ByteArray := prog_13_method_17_code
def yX11_owedToAll : MethodName := ⟨RX11, "owedToAll", "([I)I"⟩
abbrev cX11_canCut : ByteArray := prog_13_method_18_code
def yX11_canCut : MethodName := ⟨RX11, "canCut", "([III)Z"⟩
abbrev cX11_layStone : ByteArray := prog_13_method_19_code
def yX11_layStone : MethodName := ⟨RX11, "layStone", "([IIII)I"⟩
abbrev cX11_cutOn : ByteArray := prog_13_method_20_code
def yX11_cutOn : MethodName := ⟨RX11, "cutOn", "([IIII)I"⟩
abbrev cX11_priceOf : ByteArray := prog_13_method_21_code
def yX11_priceOf : MethodName := ⟨RX11, "priceOf", "([II)I"⟩
abbrev cX11_inspectOn : ByteArray := prog_13_method_22_code
def yX11_inspectOn : MethodName := ⟨RX11, "inspectOn", "([II)I"⟩
abbrev cX11_canRecut : ByteArray := prog_13_method_23_code
def yX11_canRecut : MethodName := ⟨RX11, "canRecut", "([IIII)Z"⟩
abbrev cX11_recutOn : ByteArray := prog_13_method_24_code
def yX11_recutOn : MethodName := ⟨RX11, "recutOn", "([IIII)I"⟩
abbrev cX11_why : ByteArray := prog_13_method_25_code
def yX11_why : MethodName := ⟨RX11, "why", "([II)I"⟩
abbrev cX11_dayOn : ByteArray := prog_13_method_26_code
def yX11_dayOn : MethodName := ⟨RX11, "dayOn", "([II)I"⟩
abbrev cX11_recutCourse : ByteArray := prog_13_method_27_code
def yX11_recutCourse : MethodName := ⟨RX11, "recutCourse", "([II)I"⟩
abbrev cX11_append : ByteArray := prog_13_method_28_code
def yX11_append : MethodName := ⟨RX11, "append", "(I)I"⟩
abbrev cX11_clearText : ByteArray := prog_13_method_29_code
def yX11_clearText : MethodName := ⟨RX11, "clearText", "()I"⟩
abbrev cX11_eat : ByteArray := prog_13_method_30_code
def yX11_eat : MethodName := ⟨RX11, "eat", "(I)Z"⟩
abbrev cX11_digit : ByteArray := prog_13_method_31_code
def yX11_digit : MethodName := ⟨RX11, "digit", "(II)I"⟩
abbrev cX11_readCourse : ByteArray := prog_13_method_32_code
def yX11_readCourse : MethodName := ⟨RX11, "readCourse", "()Z"⟩
abbrev cX11_readMason : ByteArray := prog_13_method_33_code
def yX11_readMason : MethodName := ⟨RX11, "readMason", "()Z"⟩
abbrev cX11_readStone : ByteArray := prog_13_method_34_code
def yX11_readStone : MethodName := ⟨RX11, "readStone", "()Z"⟩
abbrev cX11_readPart : ByteArray := prog_13_method_35_code
def yX11_readPart : MethodName := ⟨RX11, "readPart", "()Z"⟩
abbrev cX11_readAll : ByteArray := prog_13_method_36_code
def yX11_readAll : MethodName := ⟨RX11, "readAll", "()Z"⟩
abbrev cX11_errorPosition : ByteArray := prog_13_method_37_code
def yX11_errorPosition : MethodName := ⟨RX11, "errorPosition", "()I"⟩
abbrev cX11_load : ByteArray := prog_13_method_38_code
def yX11_load : MethodName := ⟨RX11, "load", "()I"⟩
abbrev cX11_about : ByteArray := prog_13_method_39_code
def yX11_about : MethodName := ⟨RX11, "about", "(I)I"⟩
abbrev cX11_course : ByteArray := prog_13_method_40_code
def yX11_course : MethodName := ⟨RX11, "course", "(II)I"⟩
abbrev cX11_mason : ByteArray := prog_13_method_41_code
def yX11_mason : MethodName := ⟨RX11, "mason", "(II)I"⟩
abbrev cX11_stone : ByteArray := prog_13_method_42_code
def yX11_stone : MethodName := ⟨RX11, "stone", "(II)I"⟩
abbrev cX11_whyNotSet : ByteArray := prog_13_method_43_code
def yX11_whyNotSet : MethodName := ⟨RX11, "whyNotSet", "(I)I"⟩
abbrev cX11_note : ByteArray := prog_13_method_44_code
def yX11_note : MethodName := ⟨RX11, "note", "()V"⟩
abbrev cX11_addCourse : ByteArray := prog_13_method_45_code
def yX11_addCourse : MethodName := ⟨RX11, "addCourse", "(III)I"⟩
abbrev cX11_addMason : ByteArray := prog_13_method_46_code
def yX11_addMason : MethodName := ⟨RX11, "addMason", "(II)I"⟩
abbrev cX11_setRate : ByteArray := prog_13_method_47_code
def yX11_setRate : MethodName := ⟨RX11, "setRate", "(II)I"⟩
abbrev cX11_setBound : ByteArray := prog_13_method_48_code
def yX11_setBound : MethodName := ⟨RX11, "setBound", "(I)I"⟩
abbrev cX11_cut : ByteArray := prog_13_method_49_code
def yX11_cut : MethodName := ⟨RX11, "cut", "(III)I"⟩
abbrev cX11_inspect : ByteArray := prog_13_method_50_code
def yX11_inspect : MethodName := ⟨RX11, "inspect", "(I)I"⟩
abbrev cX11_recut : ByteArray := prog_13_method_51_code
def yX11_recut : MethodName := ⟨RX11, "recut", "(III)I"⟩
abbrev cX11_scrap : ByteArray := prog_13_method_52_code
def yX11_scrap : MethodName := ⟨RX11, "scrap", "(I)I"⟩
abbrev cX11_set : ByteArray := prog_13_method_53_code
def yX11_set : MethodName := ⟨RX11, "set", "(I)I"⟩
abbrev cX11_pay : ByteArray := prog_13_method_54_code
def yX11_pay : MethodName := ⟨RX11, "pay", "()I"⟩
abbrev cX11_nextDay : ByteArray := prog_13_method_55_code
def yX11_nextDay : MethodName := ⟨RX11, "nextDay", "(Z)I"⟩
abbrev cX11_undo : ByteArray := prog_13_method_56_code
def yX11_undo : MethodName := ⟨RX11, "undo", "()I"⟩
abbrev cX11_recutFor : ByteArray := prog_13_method_57_code
def yX11_recutFor : MethodName := ⟨RX11, "recutFor", "(I)I"⟩
abbrev cX11_cheapest : ByteArray := prog_13_method_58_code
def yX11_cheapest : MethodName := ⟨RX11, "cheapest", "(I)I"⟩
abbrev cX11_layLacking : ByteArray := prog_13_method_59_code
def yX11_layLacking : MethodName := ⟨RX11, "layLacking", "()I"⟩
abbrev cX11_costLeft : ByteArray := prog_13_method_60_code
def yX11_costLeft : MethodName := ⟨RX11, "costLeft", "()I"⟩
abbrev cX11_workOf : ByteArray := prog_13_method_61_code
def yX11_workOf : MethodName := ⟨RX11, "workOf", "(I)I"⟩
abbrev cX11_daysLeft : ByteArray := prog_13_method_62_code
def yX11_daysLeft : MethodName := ⟨RX11, "daysLeft", "()I"⟩
abbrev cX11_canSet : ByteArray := prog_13_method_63_code
def yX11_canSet : MethodName := ⟨RX11, "canSet", "()I"⟩
abbrev cX11_wouldEarn : ByteArray := prog_13_method_64_code
def yX11_wouldEarn : MethodName := ⟨RX11, "wouldEarn", "(I)I"⟩
abbrev cX11_worstMark : ByteArray := prog_13_method_65_code
def yX11_worstMark : MethodName := ⟨RX11, "worstMark", "()I"⟩
abbrev cX11_does : ByteArray := prog_13_method_66_code
def yX11_does : MethodName := ⟨RX11, "does", "(IIIII)Z"⟩
abbrev cX11_runScript : ByteArray := prog_13_method_67_code
def yX11_runScript : MethodName := ⟨RX11, "runScript", "(IJ)I"⟩
abbrev cX11_lowest : ByteArray := prog_13_method_68_code
def yX11_lowest : MethodName := ⟨RX11, "lowest", "(I)I"⟩
abbrev cX11_recutLowest : ByteArray := prog_13_method_69_code
def yX11_recutLowest : MethodName := ⟨RX11, "recutLowest", "(I)V"⟩
abbrev cX11_setLowest : ByteArray := prog_13_method_70_code
def yX11_setLowest : MethodName := ⟨RX11, "setLowest", "()V"⟩
abbrev cX11_simulateRound : ByteArray := prog_13_method_71_code
def yX11_simulateRound : MethodName := ⟨RX11, "simulateRound", "(I)V"⟩
abbrev cX11_simulate : ByteArray := prog_13_method_72_code
def yX11_simulate : MethodName := ⟨RX11, "simulate", "(JI)I"⟩
abbrev cX11_save : ByteArray := prog_13_method_73_code
def yX11_save : MethodName := ⟨RX11, "save", "(I)I"⟩
abbrev cX11_restore : ByteArray := prog_13_method_74_code
def yX11_restore : MethodName := ⟨RX11, "restore", "(I)I"⟩
def RL : String := "AshlarLodgeLaw"
abbrev cL_append : ByteArray := method_3_code
def yL_append : MethodName := ⟨RL, "append", "(LAshlarLodge;I[J)I"⟩
abbrev cL_load : ByteArray := method_4_code
def yL_load : MethodName := ⟨RL, "load", "(LAshlarLodge;[J)I"⟩
abbrev cL_about : ByteArray := method_5_code
def yL_about : MethodName := ⟨RL, "about", "(LAshlarLodge;I[J)I"⟩
abbrev cL_course : ByteArray := method_6_code
def yL_course : MethodName := ⟨RL, "course", "(LAshlarLodge;II[J)I"⟩
abbrev cL_mason : ByteArray := method_7_code
def yL_mason : MethodName := ⟨RL, "mason", "(LAshlarLodge;II[J)I"⟩
abbrev cL_stone : ByteArray := method_8_code
def yL_stone : MethodName := ⟨RL, "stone", "(LAshlarLodge;II[J)I"⟩
abbrev cL_whyNotSet : ByteArray := method_9_code
def yL_whyNotSet : MethodName := ⟨RL, "whyNotSet", "(LAshlarLodge;I[J)I"⟩
abbrev cL_addCourse : ByteArray := method_10_code
def yL_addCourse : MethodName := ⟨RL, "addCourse", "(LAshlarLodge;III[J)I"⟩
abbrev cL_addMason : ByteArray := method_11_code
def yL_addMason : MethodName := ⟨RL, "addMason", "(LAshlarLodge;II[J)I"⟩
abbrev cL_setRate : ByteArray := method_12_code
def yL_setRate : MethodName := ⟨RL, "setRate", "(LAshlarLodge;II[J)I"⟩
abbrev cL_setBound : ByteArray := method_13_code
def yL_setBound : MethodName := ⟨RL, "setBound", "(LAshlarLodge;I[J)I"⟩
abbrev cL_cut : ByteArray := method_14_code
def yL_cut : MethodName := ⟨RL, "cut", "(LAshlarLodge;III[J)I"⟩
abbrev cL_inspect : ByteArray := method_15_code
def yL_inspect : MethodName := ⟨RL, "inspect", "(LAshlarLodge;I[J)I"⟩
abbrev cL_recut : ByteArray := method_16_code
def yL_recut : MethodName := ⟨RL, "recut", "(LAshlarLodge;III[J)I"⟩
abbrev cL_scrap : ByteArray := method_17_code
def yL_scrap : MethodName := ⟨RL, "scrap", "(LAshlarLodge;I[J)I"⟩
abbrev cL_set : ByteArray := method_18_code
def yL_set : MethodName := ⟨RL, "set", "(LAshlarLodge;I[J)I"⟩
abbrev cL_undo : ByteArray := method_19_code
def yL_undo : MethodName := ⟨RL, "undo", "(LAshlarLodge;[J)I"⟩
abbrev cL_recutFor : ByteArray := method_20_code
def yL_recutFor : MethodName := ⟨RL, "recutFor", "(LAshlarLodge;I[J)I"⟩
abbrev cL_cheapest : ByteArray := method_21_code
def yL_cheapest : MethodName := ⟨RL, "cheapest", "(LAshlarLodge;I[J)I"⟩
abbrev cL_wouldEarn : ByteArray := method_22_code
def yL_wouldEarn : MethodName := ⟨RL, "wouldEarn", "(LAshlarLodge;I[J)I"⟩
abbrev cL_runScript : ByteArray := method_23_code
def yL_runScript : MethodName := ⟨RL, "runScript", "(LAshlarLodge;IJ[J)I"⟩
abbrev cL_simulate : ByteArray := method_24_code
def yL_simulate : MethodName := ⟨RL, "simulate", "(LAshlarLodge;JI[J)I"⟩
abbrev cL_save : ByteArray := method_25_code
def yL_save : MethodName := ⟨RL, "save", "(LAshlarLodge;I[J)I"⟩
abbrev cL_restore : ByteArray := method_26_code
def yL_restore : MethodName := ⟨RL, "restore", "(LAshlarLodge;I[J)I"⟩
abbrev cL_law : ByteArray := code
def yL_law : MethodName := ⟨RL, "law", "([I)Z"⟩
abbrev vwCl : List vw_C := [(RX1, TX1, 2), (RX2, TX2, 8), (RX3, TX3, 3), (RX4, TX4, 3), (RX6, TX6, 2), (RX8, TX8, 4), (RX9, TX9, 2), (RX10, TX10, 6), (RX11, TX11, 13)]
end
section
theorem dX0_cuts_0 : decode cX0_cuts 0 = .ok (.aload_n 0, 1) := by decide +kernel
theorem dX0_cuts_1 : decode cX0_cuts 1 = .ok (.iload_n 1, 1) := by decide +kernel
theorem dX0_cuts_2 : decode cX0_cuts 2 = .ok (.iload_n 2, 1) := by decide +kernel
theorem dX0_cuts_3 : decode cX0_cuts 3 = .ok (.invokevirtual 7, 3) := by decide +kernel
theorem dX0_cuts_6 : decode cX0_cuts 6 = .ok (.ifCond .ne 5, 3) := by decide +kernel
theorem dX0_cuts_9 : decode cX0_cuts 9 = .ok (.iconst 0, 1) := by decide +kernel
theorem dX0_cuts_10 : decode cX0_cuts 10 = .ok (.ireturn, 1) := by decide +kernel
theorem dX0_cuts_11 : decode cX0_cuts 11 = .ok (.aload_n 0, 1) := by decide +kernel
theorem dX0_cuts_12 : decode cX0_cuts 12 = .ok (.iload_n 1, 1) := by decide +kernel
theorem dX0_cuts_13 : decode cX0_cuts 13 = .ok (.iload_n 2, 1) := by decide +kernel
theorem dX0_cuts_14 : decode cX0_cuts 14 = .ok (.iload_n 3, 1) := by decide +kernel
theorem dX0_cuts_15 : decode cX0_cuts 15 = .ok (.invokevirtual 13, 3) := by decide +kernel
theorem dX0_cuts_18 : decode cX0_cuts 18 = .ok (.pop, 1) := by decide +kernel
theorem dX0_cuts_19 : decode cX0_cuts 19 = .ok (.iconst 1, 1) := by decide +kernel
theorem dX0_cuts_20 : decode cX0_cuts 20 = .ok (.ireturn, 1) := by decide +kernel
theorem dX0_inspects_0 : decode cX0_inspects 0 = .ok (.aload_n 0, 1) := by decide +kernel
theorem dX0_inspects_1 : decode cX0_inspects 1 = .ok (.iload_n 1, 1) := by decide +kernel
theorem dX0_inspects_2 : decode cX0_inspects 2 = .ok (.invokevirtual 17, 3) := by decide +kernel
theorem dX0_inspects_5 : decode cX0_inspects 5 = .ok (.ifCond .ne 5, 3) := by decide +kernel
theorem dX0_inspects_8 : decode cX0_inspects 8 = .ok (.iconst 0, 1) := by decide +kernel
theorem dX0_inspects_9 : decode cX0_inspects 9 = .ok (.ireturn, 1) := by decide +kernel
theorem dX0_inspects_10 : decode cX0_inspects 10 = .ok (.aload_n 0, 1) := by decide +kernel
theorem dX0_inspects_11 : decode cX0_inspects 11 = .ok (.iload_n 1, 1) := by decide +kernel
theorem dX0_inspects_12 : decode cX0_inspects 12 = .ok (.invokevirtual 21, 3) := by decide +kernel
theorem dX0_inspects_15 : decode cX0_inspects 15 = .ok (.pop, 1) := by decide +kernel
theorem dX0_inspects_16 : decode cX0_inspects 16 = .ok (.iconst 1, 1) := by decide +kernel
theorem dX0_inspects_17 : decode cX0_inspects 17 = .ok (.ireturn, 1) := by decide +kernel
theorem dX0_recuts_0 : decode cX0_recuts 0 = .ok (.aload_n 0, 1) := by decide +kernel
theorem dX0_recuts_1 : decode cX0_recuts 1 = .ok (.iload_n 1, 1) := by decide +kernel
theorem dX0_recuts_2 : decode cX0_recuts 2 = .ok (.iload_n 2, 1) := by decide +kernel
theorem dX0_recuts_3 : decode cX0_recuts 3 = .ok (.iload_n 3, 1) := by decide +kernel
theorem dX0_recuts_4 : decode cX0_recuts 4 = .ok (.invokevirtual 25, 3) := by decide +kernel
theorem dX0_recuts_7 : decode cX0_recuts 7 = .ok (.ifCond .ne 5, 3) := by decide +kernel
theorem dX0_recuts_10 : decode cX0_recuts 10 = .ok (.iconst 0, 1) := by decide +kernel
theorem dX0_recuts_11 : decode cX0_recuts 11 = .ok (.ireturn, 1) := by decide +kernel
theorem dX0_recuts_12 : decode cX0_recuts 12 = .ok (.aload_n 0, 1) := by decide +kernel
theorem dX0_recuts_13 : decode cX0_recuts 13 = .ok (.iload_n 1, 1) := by decide +kernel
theorem dX0_recuts_14 : decode cX0_recuts 14 = .ok (.iload_n 2, 1) := by decide +kernel
theorem dX0_recuts_15 : decode cX0_recuts 15 = .ok (.iload_n 3, 1) := by decide +kernel
theorem dX0_recuts_16 : decode cX0_recuts 16 = .ok (.invokevirtual 29, 3) := by decide +kernel
theorem dX0_recuts_19 : decode cX0_recuts 19 = .ok (.pop, 1) := by decide +kernel
theorem dX0_recuts_20 : decode cX0_recuts 20 = .ok (.iconst 1, 1) := by decide +kernel
theorem dX0_recuts_21 : decode cX0_recuts 21 = .ok (.ireturn, 1) := by decide +kernel
theorem dX0_scraps_0 : decode cX0_scraps 0 = .ok (.aload_n 0, 1) := by decide +kernel
theorem dX0_scraps_1 : decode cX0_scraps 1 = .ok (.iload_n 1, 1) := by decide +kernel
theorem dX0_scraps_2 : decode cX0_scraps 2 = .ok (.invokevirtual 32, 3) := by decide +kernel
theorem dX0_scraps_5 : decode cX0_scraps 5 = .ok (.ifCond .ne 5, 3) := by decide +kernel
theorem dX0_scraps_8 : decode cX0_scraps 8 = .ok (.iconst 0, 1) := by decide +kernel
theorem dX0_scraps_9 : decode cX0_scraps 9 = .ok (.ireturn, 1) := by decide +kernel
theorem dX0_scraps_10 : decode cX0_scraps 10 = .ok (.aload_n 0, 1) := by decide +kernel
theorem dX0_scraps_11 : decode cX0_scraps 11 = .ok (.iload_n 1, 1) := by decide +kernel
theorem dX0_scraps_12 : decode cX0_scraps 12 = .ok (.invokevirtual 35, 3) := by decide +kernel
theorem dX0_scraps_15 : decode cX0_scraps 15 = .ok (.pop, 1) := by decide +kernel
theorem dX0_scraps_16 : decode cX0_scraps 16 = .ok (.iconst 1, 1) := by decide +kernel
theorem dX0_scraps_17 : decode cX0_scraps 17 = .ok (.ireturn, 1) := by decide +kernel
theorem dX0_sets_0 : decode cX0_sets 0 = .ok (.aload_n 0, 1) := by decide +kernel
theorem dX0_sets_1 : decode cX0_sets 1 = .ok (.iload_n 1, 1) := by decide +kernel
theorem dX0_sets_2 : decode cX0_sets 2 = .ok (.invokevirtual 38, 3) := by decide +kernel
theorem dX0_sets_5 : decode cX0_sets 5 = .ok (.ifCond .eq 5, 3) := by decide +kernel
theorem dX0_sets_8 : decode cX0_sets 8 = .ok (.iconst 0, 1) := by decide +kernel
theorem dX0_sets_9 : decode cX0_sets 9 = .ok (.ireturn, 1) := by decide +kernel
theorem dX0_sets_10 : decode cX0_sets 10 = .ok (.aload_n 0, 1) := by decide +kernel
theorem dX0_sets_11 : decode cX0_sets 11 = .ok (.iload_n 1, 1) := by decide +kernel
theorem dX0_sets_12 : decode cX0_sets 12 = .ok (.invokevirtual 41, 3) := by decide +kernel
theorem dX0_sets_15 : decode cX0_sets 15 = .ok (.pop, 1) := by decide +kernel
theorem dX0_sets_16 : decode cX0_sets 16 = .ok (.iconst 1, 1) := by decide +kernel
theorem dX0_sets_17 : decode cX0_sets 17 = .ok (.ireturn, 1) := by decide +kernel
theorem dX1_init_0 : decode cX1_init 0 = .ok (.aload_n 0, 1) := by decide +kernel
theorem dX1_init_1 : decode cX1_init 1 = .ok (.invokespecial 3, 3) := by decide +kernel
theorem dX1_init_4 : decode cX1_init 4 = .ok (.aload_n 0, 1) := by decide +kernel
theorem dX1_init_5 : decode cX1_init 5 = .ok (.bipush 6, 2) := by decide +kernel
theorem dX1_init_7 : decode cX1_init 7 = .ok (.newarray .int, 2) := by decide +kernel
theorem dX1_init_9 : decode cX1_init 9 = .ok (.putfield 9, 3) := by decide +kernel
theorem dX1_init_12 : decode cX1_init 12 = .ok (.aload_n 0, 1) := by decide +kernel
theorem dX1_init_13 : decode cX1_init 13 = .ok (.bipush 6, 2) := by decide +kernel
theorem dX1_init_15 : decode cX1_init 15 = .ok (.newarray .int, 2) := by decide +kernel
theorem dX1_init_17 : decode cX1_init 17 = .ok (.putfield 15, 3) := by decide +kernel
theorem dX1_init_20 : decode cX1_init 20 = .ok (.return_, 1) := by decide +kernel
theorem dX1_daysFor_0 : decode cX1_daysFor 0 = .ok (.iconst 0, 1) := by decide +kernel
theorem dX1_daysFor_1 : decode cX1_daysFor 1 = .ok (.istore_n 2, 1) := by decide +kernel
theorem dX1_daysFor_2 : decode cX1_daysFor 2 = .ok (.iload_n 2, 1) := by decide +kernel
theorem dX1_daysFor_3 : decode cX1_daysFor 3 = .ok (.aload_n 0, 1) := by decide +kernel
theorem dX1_daysFor_4 : decode cX1_daysFor 4 = .ok (.getfield 9, 3) := by decide +kernel
theorem dX1_daysFor_7 : decode cX1_daysFor 7 = .ok (.arraylength, 1) := by decide +kernel
theorem dX1_daysFor_8 : decode cX1_daysFor 8 = .ok (.if_icmp .ge 35, 3) := by decide +kernel
theorem dX1_daysFor_11 : decode cX1_daysFor 11 = .ok (.aload_n 0, 1) := by decide +kernel
theorem dX1_daysFor_12 : decode cX1_daysFor 12 = .ok (.getfield 9, 3) := by decide +kernel
theorem dX1_daysFor_15 : decode cX1_daysFor 15 = .ok (.iload_n 2, 1) := by decide +kernel
theorem dX1_daysFor_16 : decode cX1_daysFor 16 = .ok (.aload_n 1, 1) := by decide +kernel
theorem dX1_daysFor_17 : decode cX1_daysFor 17 = .ok (.getfield 18, 3) := by decide +kernel
theorem dX1_daysFor_20 : decode cX1_daysFor 20 = .ok (.iload_n 2, 1) := by decide +kernel
theorem dX1_daysFor_21 : decode cX1_daysFor 21 = .ok (.invokevirtual 24, 3) := by decide +kernel
theorem dX1_daysFor_24 : decode cX1_daysFor 24 = .ok (.ifCond .eq 11, 3) := by decide +kernel
theorem dX1_daysFor_27 : decode cX1_daysFor 27 = .ok (.aload_n 1, 1) := by decide +kernel
theorem dX1_daysFor_28 : decode cX1_daysFor 28 = .ok (.iload_n 2, 1) := by decide +kernel
theorem dX1_daysFor_29 : decode cX1_daysFor 29 = .ok (.invokevirtual 30, 3) := by decide +kernel
theorem dX1_daysFor_32 : decode cX1_daysFor 32 = .ok (.goto 4, 3) := by decide +kernel
theorem dX1_daysFor_35 : decode cX1_daysFor 35 = .ok (.iconst 0, 1) := by decide +kernel
theorem dX1_daysFor_36 : decode cX1_daysFor 36 = .ok (.iastore, 1) := by decide +kernel
theorem dX1_daysFor_37 : decode cX1_daysFor 37 = .ok (.iinc 2 1, 3) := by decide +kernel
theorem dX1_daysFor_40 : decode cX1_daysFor 40 = .ok (.goto (-38), 3) := by decide +kernel
theorem dX1_daysFor_43 : decode cX1_daysFor 43 = .ok (.aload_n 0, 1) := by decide +kernel
theorem dX1_daysFor_44 : decode cX1_daysFor 44 = .ok (.aload_n 1, 1) := by decide +kernel
theorem dX1_daysFor_45 : decode cX1_daysFor 45 = .ok (.iconst 2, 1) := by decide +kernel
theorem dX1_daysFor_46 : decode cX1_daysFor 46 = .ok (.invokevirtual 33, 3) := by decide +kernel
theorem dX1_daysFor_49 : decode cX1_daysFor 49 = .ok (.iconst 0, 1) := by decide +kernel
theorem dX1_daysFor_50 : decode cX1_daysFor 50 = .ok (.istore_n 2, 1) := by decide +kernel
theorem dX1_daysFor_51 : decode cX1_daysFor 51 = .ok (.iload_n 2, 1) := by decide +kernel
theorem dX1_daysFor_52 : decode cX1_daysFor 52 = .ok (.bipush 99, 2) := by decide +kernel
theorem dX1_daysFor_54 : decode cX1_daysFor 54 = .ok (.if_icmp .gt 29, 3) := by decide +kernel
theorem dX1_daysFor_57 : decode cX1_daysFor 57 = .ok (.aload_n 0, 1) := by decide +kernel
theorem dX1_daysFor_58 : decode cX1_daysFor 58 = .ok (.invokevirtual 37, 3) := by decide +kernel
theorem dX1_daysFor_61 : decode cX1_daysFor 61 = .ok (.ifCond .ne 5, 3) := by decide +kernel
theorem dX1_daysFor_64 : decode cX1_daysFor 64 = .ok (.iload_n 2, 1) := by decide +kernel
theorem dX1_daysFor_65 : decode cX1_daysFor 65 = .ok (.ireturn, 1) := by decide +kernel
theorem dX1_daysFor_66 : decode cX1_daysFor 66 = .ok (.aload_n 0, 1) := by decide +kernel
theorem dX1_daysFor_67 : decode cX1_daysFor 67 = .ok (.aload_n 1, 1) := by decide +kernel
theorem dX1_daysFor_68 : decode cX1_daysFor 68 = .ok (.invokevirtual 41, 3) := by decide +kernel
theorem dX1_daysFor_71 : decode cX1_daysFor 71 = .ok (.aload_n 0, 1) := by decide +kernel
theorem dX1_daysFor_72 : decode cX1_daysFor 72 = .ok (.aload_n 1, 1) := by decide +kernel
theorem dX1_daysFor_73 : decode cX1_daysFor 73 = .ok (.iconst 1, 1) := by decide +kernel
theorem dX1_daysFor_74 : decode cX1_daysFor 74 = .ok (.invokevirtual 33, 3) := by decide +kernel
theorem dX1_daysFor_77 : decode cX1_daysFor 77 = .ok (.iinc 2 1, 3) := by decide +kernel
theorem dX1_daysFor_80 : decode cX1_daysFor 80 = .ok (.goto (-29), 3) := by decide +kernel
theorem dX1_daysFor_83 : decode cX1_daysFor 83 = .ok (.bipush (-9), 2) := by decide +kernel
theorem dX1_daysFor_85 : decode cX1_daysFor 85 = .ok (.ireturn, 1) := by decide +kernel
theorem dX1_takeWork_0 : decode cX1_takeWork 0 = .ok (.iconst 0, 1) := by decide +kernel
theorem dX1_takeWork_1 : decode cX1_takeWork 1 = .ok (.istore_n 3, 1) := by decide +kernel
theorem dX1_takeWork_2 : decode cX1_takeWork 2 = .ok (.iload_n 3, 1) := by decide +kernel
theorem dX1_takeWork_3 : decode cX1_takeWork 3 = .ok (.aload_n 0, 1) := by decide +kernel
theorem dX1_takeWork_4 : decode cX1_takeWork 4 = .ok (.getfield 15, 3) := by decide +kernel
theorem dX1_takeWork_7 : decode cX1_takeWork 7 = .ok (.arraylength, 1) := by decide +kernel
theorem dX1_takeWork_8 : decode cX1_takeWork 8 = .ok (.if_icmp .ge 24, 3) := by decide +kernel
theorem dX1_takeWork_11 : decode cX1_takeWork 11 = .ok (.aload_n 0, 1) := by decide +kernel
theorem dX1_takeWork_12 : decode cX1_takeWork 12 = .ok (.getfield 15, 3) := by decide +kernel
theorem dX1_takeWork_15 : decode cX1_takeWork 15 = .ok (.iload_n 3, 1) := by decide +kernel
theorem dX1_takeWork_16 : decode cX1_takeWork 16 = .ok (.aload_n 1, 1) := by decide +kernel
theorem dX1_takeWork_17 : decode cX1_takeWork 17 = .ok (.getfield 45, 3) := by decide +kernel
theorem dX1_takeWork_20 : decode cX1_takeWork 20 = .ok (.iload_n 3, 1) := by decide +kernel
theorem dX1_takeWork_21 : decode cX1_takeWork 21 = .ok (.iload_n 2, 1) := by decide +kernel
theorem dX1_takeWork_22 : decode cX1_takeWork 22 = .ok (.invokevirtual 48, 3) := by decide +kernel
theorem dX1_takeWork_25 : decode cX1_takeWork 25 = .ok (.iastore, 1) := by decide +kernel
theorem dX1_takeWork_26 : decode cX1_takeWork 26 = .ok (.iinc 3 1, 3) := by decide +kernel
theorem dX1_takeWork_29 : decode cX1_takeWork 29 = .ok (.goto (-27), 3) := by decide +kernel
theorem dX1_takeWork_32 : decode cX1_takeWork 32 = .ok (.return_, 1) := by decide +kernel
theorem dX1_isAnyLacking_0 : decode cX1_isAnyLacking 0 = .ok (.iconst 0, 1) := by decide +kernel
theorem dX1_isAnyLacking_1 : decode cX1_isAnyLacking 1 = .ok (.istore_n 1, 1) := by decide +kernel
theorem dX1_isAnyLacking_2 : decode cX1_isAnyLacking 2 = .ok (.iload_n 1, 1) := by decide +kernel
theorem dX1_isAnyLacking_3 : decode cX1_isAnyLacking 3 = .ok (.aload_n 0, 1) := by decide +kernel
theorem dX1_isAnyLacking_4 : decode cX1_isAnyLacking 4 = .ok (.getfield 9, 3) := by decide +kernel
theorem dX1_isAnyLacking_7 : decode cX1_isAnyLacking 7 = .ok (.arraylength, 1) := by decide +kernel
theorem dX1_isAnyLacking_8 : decode cX1_isAnyLacking 8 = .ok (.if_icmp .ge 20, 3) := by decide +kernel
theorem dX1_isAnyLacking_11 : decode cX1_isAnyLacking 11 = .ok (.aload_n 0, 1) := by decide +kernel
theorem dX1_isAnyLacking_12 : decode cX1_isAnyLacking 12 = .ok (.getfield 9, 3) := by decide +kernel
theorem dX1_isAnyLacking_15 : decode cX1_isAnyLacking 15 = .ok (.iload_n 1, 1) := by decide +kernel
theorem dX1_isAnyLacking_16 : decode cX1_isAnyLacking 16 = .ok (.iaload, 1) := by decide +kernel
theorem dX1_isAnyLacking_17 : decode cX1_isAnyLacking 17 = .ok (.ifCond .le 5, 3) := by decide +kernel
theorem dX1_isAnyLacking_20 : decode cX1_isAnyLacking 20 = .ok (.iconst 1, 1) := by decide +kernel
theorem dX1_isAnyLacking_21 : decode cX1_isAnyLacking 21 = .ok (.ireturn, 1) := by decide +kernel
theorem dX1_isAnyLacking_22 : decode cX1_isAnyLacking 22 = .ok (.iinc 1 1, 3) := by decide +kernel
theorem dX1_isAnyLacking_25 : decode cX1_isAnyLacking 25 = .ok (.goto (-23), 3) := by decide +kernel
theorem dX1_isAnyLacking_28 : decode cX1_isAnyLacking 28 = .ok (.iconst 0, 1) := by decide +kernel
theorem dX1_isAnyLacking_29 : decode cX1_isAnyLacking 29 = .ok (.ireturn, 1) := by decide +kernel
theorem dX1_workOneDay_0 : decode cX1_workOneDay 0 = .ok (.iconst 0, 1) := by decide +kernel
theorem dX1_workOneDay_1 : decode cX1_workOneDay 1 = .ok (.istore_n 2, 1) := by decide +kernel
theorem dX1_workOneDay_2 : decode cX1_workOneDay 2 = .ok (.iload_n 2, 1) := by decide +kernel
theorem dX1_workOneDay_3 : decode cX1_workOneDay 3 = .ok (.aload_n 0, 1) := by decide +kernel
theorem dX1_workOneDay_4 : decode cX1_workOneDay 4 = .ok (.getfield 15, 3) := by decide +kernel
theorem dX1_workOneDay_7 : decode cX1_workOneDay 7 = .ok (.arraylength, 1) := by decide +kernel
theorem dX1_workOneDay_8 : decode cX1_workOneDay 8 = .ok (.if_icmp .ge 55, 3) := by decide +kernel
theorem dX1_workOneDay_11 : decode cX1_workOneDay 11 = .ok (.iconst 0, 1) := by decide +kernel
theorem dX1_workOneDay_12 : decode cX1_workOneDay 12 = .ok (.istore_n 3, 1) := by decide +kernel
theorem dX1_workOneDay_13 : decode cX1_workOneDay 13 = .ok (.iload_n 3, 1) := by decide +kernel
theorem dX1_workOneDay_14 : decode cX1_workOneDay 14 = .ok (.bipush 12, 2) := by decide +kernel
theorem dX1_workOneDay_16 : decode cX1_workOneDay 16 = .ok (.if_icmp .ge 41, 3) := by decide +kernel
theorem dX1_workOneDay_19 : decode cX1_workOneDay 19 = .ok (.aload_n 0, 1) := by decide +kernel
theorem dX1_workOneDay_20 : decode cX1_workOneDay 20 = .ok (.aload_n 1, 1) := by decide +kernel
theorem dX1_workOneDay_21 : decode cX1_workOneDay 21 = .ok (.aload_n 0, 1) := by decide +kernel
theorem dX1_workOneDay_22 : decode cX1_workOneDay 22 = .ok (.getfield 15, 3) := by decide +kernel
theorem dX1_workOneDay_25 : decode cX1_workOneDay 25 = .ok (.iload_n 2, 1) := by decide +kernel
theorem dX1_workOneDay_26 : decode cX1_workOneDay 26 = .ok (.iaload, 1) := by decide +kernel
theorem dX1_workOneDay_27 : decode cX1_workOneDay 27 = .ok (.invokevirtual 52, 3) := by decide +kernel
theorem dX1_workOneDay_30 : decode cX1_workOneDay 30 = .ok (.istore 4, 2) := by decide +kernel
theorem dX1_workOneDay_32 : decode cX1_workOneDay 32 = .ok (.iload 4, 2) := by decide +kernel
theorem dX1_workOneDay_34 : decode cX1_workOneDay 34 = .ok (.ifCond .ne 6, 3) := by decide +kernel
theorem dX1_workOneDay_37 : decode cX1_workOneDay 37 = .ok (.goto 20, 3) := by decide +kernel
theorem dX1_workOneDay_40 : decode cX1_workOneDay 40 = .ok (.aload_n 0, 1) := by decide +kernel
theorem dX1_workOneDay_41 : decode cX1_workOneDay 41 = .ok (.getfield 15, 3) := by decide +kernel
theorem dX1_workOneDay_44 : decode cX1_workOneDay 44 = .ok (.iload_n 2, 1) := by decide +kernel
theorem dX1_workOneDay_45 : decode cX1_workOneDay 45 = .ok (.dup2, 1) := by decide +kernel
theorem dX1_workOneDay_46 : decode cX1_workOneDay 46 = .ok (.iaload, 1) := by decide +kernel
theorem dX1_workOneDay_47 : decode cX1_workOneDay 47 = .ok (.iload 4, 2) := by decide +kernel
theorem dX1_workOneDay_49 : decode cX1_workOneDay 49 = .ok (.isub, 1) := by decide +kernel
theorem dX1_workOneDay_50 : decode cX1_workOneDay 50 = .ok (.iastore, 1) := by decide +kernel
theorem dX1_workOneDay_51 : decode cX1_workOneDay 51 = .ok (.iinc 3 1, 3) := by decide +kernel
theorem dX1_workOneDay_54 : decode cX1_workOneDay 54 = .ok (.goto (-41), 3) := by decide +kernel
theorem dX1_workOneDay_57 : decode cX1_workOneDay 57 = .ok (.iinc 2 1, 3) := by decide +kernel
theorem dX1_workOneDay_60 : decode cX1_workOneDay 60 = .ok (.goto (-58), 3) := by decide +kernel
theorem dX1_workOneDay_63 : decode cX1_workOneDay 63 = .ok (.return_, 1) := by decide +kernel
theorem dX1_cutNext_0 : decode cX1_cutNext 0 = .ok (.iconst 0, 1) := by decide +kernel
theorem dX1_cutNext_1 : decode cX1_cutNext 1 = .ok (.istore_n 3, 1) := by decide +kernel
theorem dX1_cutNext_2 : decode cX1_cutNext 2 = .ok (.iload_n 3, 1) := by decide +kernel
theorem dX1_cutNext_3 : decode cX1_cutNext 3 = .ok (.aload_n 0, 1) := by decide +kernel
theorem dX1_cutNext_4 : decode cX1_cutNext 4 = .ok (.getfield 9, 3) := by decide +kernel
theorem dX1_cutNext_7 : decode cX1_cutNext 7 = .ok (.arraylength, 1) := by decide +kernel
theorem dX1_cutNext_8 : decode cX1_cutNext 8 = .ok (.if_icmp .ge 48, 3) := by decide +kernel
theorem dX1_cutNext_11 : decode cX1_cutNext 11 = .ok (.aload_n 1, 1) := by decide +kernel
theorem dX1_cutNext_12 : decode cX1_cutNext 12 = .ok (.getfield 18, 3) := by decide +kernel
theorem dX1_cutNext_15 : decode cX1_cutNext 15 = .ok (.iload_n 3, 1) := by decide +kernel
theorem dX1_cutNext_16 : decode cX1_cutNext 16 = .ok (.iconst 1, 1) := by decide +kernel
theorem dX1_cutNext_17 : decode cX1_cutNext 17 = .ok (.invokevirtual 48, 3) := by decide +kernel
theorem dX1_cutNext_20 : decode cX1_cutNext 20 = .ok (.istore 4, 2) := by decide +kernel
theorem dX1_cutNext_22 : decode cX1_cutNext 22 = .ok (.aload_n 0, 1) := by decide +kernel
theorem dX1_cutNext_23 : decode cX1_cutNext 23 = .ok (.getfield 9, 3) := by decide +kernel
theorem dX1_cutNext_26 : decode cX1_cutNext 26 = .ok (.iload_n 3, 1) := by decide +kernel
theorem dX1_cutNext_27 : decode cX1_cutNext 27 = .ok (.iaload, 1) := by decide +kernel
theorem dX1_cutNext_28 : decode cX1_cutNext 28 = .ok (.ifCond .le 22, 3) := by decide +kernel
theorem dX1_cutNext_31 : decode cX1_cutNext 31 = .ok (.iload 4, 2) := by decide +kernel
theorem dX1_cutNext_33 : decode cX1_cutNext 33 = .ok (.iload_n 2, 1) := by decide +kernel
theorem dX1_cutNext_34 : decode cX1_cutNext 34 = .ok (.if_icmp .gt 16, 3) := by decide +kernel
theorem dX1_cutNext_37 : decode cX1_cutNext 37 = .ok (.aload_n 0, 1) := by decide +kernel
theorem dX1_cutNext_38 : decode cX1_cutNext 38 = .ok (.getfield 9, 3) := by decide +kernel
theorem dX1_cutNext_41 : decode cX1_cutNext 41 = .ok (.iload_n 3, 1) := by decide +kernel
theorem dX1_cutNext_42 : decode cX1_cutNext 42 = .ok (.dup2, 1) := by decide +kernel
theorem dX1_cutNext_43 : decode cX1_cutNext 43 = .ok (.iaload, 1) := by decide +kernel
theorem dX1_cutNext_44 : decode cX1_cutNext 44 = .ok (.iconst 1, 1) := by decide +kernel
theorem dX1_cutNext_45 : decode cX1_cutNext 45 = .ok (.isub, 1) := by decide +kernel
theorem dX1_cutNext_46 : decode cX1_cutNext 46 = .ok (.iastore, 1) := by decide +kernel
theorem dX1_cutNext_47 : decode cX1_cutNext 47 = .ok (.iload 4, 2) := by decide +kernel
theorem dX1_cutNext_49 : decode cX1_cutNext 49 = .ok (.ireturn, 1) := by decide +kernel
theorem dX1_cutNext_50 : decode cX1_cutNext 50 = .ok (.iinc 3 1, 3) := by decide +kernel
theorem dX1_cutNext_53 : decode cX1_cutNext 53 = .ok (.goto (-51), 3) := by decide +kernel
theorem dX1_cutNext_56 : decode cX1_cutNext 56 = .ok (.iconst 0, 1) := by decide +kernel
theorem dX1_cutNext_57 : decode cX1_cutNext 57 = .ok (.ireturn, 1) := by decide +kernel
theorem dX2_init_0 : decode cX2_init 0 = .ok (.aload_n 0, 1) := by decide +kernel
theorem dX2_init_1 : decode cX2_init 1 = .ok (.invokespecial 3, 3) := by decide +kernel
theorem dX2_init_4 : decode cX2_init 4 = .ok (.aload_n 0, 1) := by decide +kernel
theorem dX2_init_5 : decode cX2_init 5 = .ok (.new 9, 3) := by decide +kernel
theorem dX2_init_8 : decode cX2_init 8 = .ok (.dup, 1) := by decide +kernel
theorem dX2_init_9 : decode cX2_init 9 = .ok (.bipush 18, 2) := by decide +kernel
theorem dX2_init_11 : decode cX2_init 11 = .ok (.newarray .int, 2) := by decide +kernel
theorem dX2_init_13 : decode cX2_init 13 = .ok (.iconst 3, 1) := by decide +kernel
theorem dX2_init_14 : decode cX2_init 14 = .ok (.bipush 6, 2) := by decide +kernel
theorem dX2_init_16 : decode cX2_init 16 = .ok (.invokespecial 11, 3) := by decide +kernel
theorem dX2_init_19 : decode cX2_init 19 = .ok (.putfield 14, 3) := by decide +kernel
theorem dX2_init_22 : decode cX2_init 22 = .ok (.aload_n 0, 1) := by decide +kernel
theorem dX2_init_23 : decode cX2_init 23 = .ok (.new 9, 3) := by decide +kernel
theorem dX2_init_26 : decode cX2_init 26 = .ok (.dup, 1) := by decide +kernel
theorem dX2_init_27 : decode cX2_init 27 = .ok (.bipush 24, 2) := by decide +kernel
theorem dX2_init_29 : decode cX2_init 29 = .ok (.newarray .int, 2) := by decide +kernel
theorem dX2_init_31 : decode cX2_init 31 = .ok (.iconst 4, 1) := by decide +kernel
theorem dX2_init_32 : decode cX2_init 32 = .ok (.bipush 6, 2) := by decide +kernel
theorem dX2_init_34 : decode cX2_init 34 = .ok (.invokespecial 11, 3) := by decide +kernel
theorem dX2_init_37 : decode cX2_init 37 = .ok (.putfield 20, 3) := by decide +kernel
theorem dX2_init_40 : decode cX2_init 40 = .ok (.aload_n 0, 1) := by decide +kernel
theorem dX2_init_41 : decode cX2_init 41 = .ok (.new 9, 3) := by decide +kernel
theorem dX2_init_44 : decode cX2_init 44 = .ok (.dup, 1) := by decide +kernel
theorem dX2_init_45 : decode cX2_init 45 = .ok (.sipush 144, 3) := by decide +kernel
theorem dX2_init_48 : decode cX2_init 48 = .ok (.newarray .int, 2) := by decide +kernel
theorem dX2_init_50 : decode cX2_init 50 = .ok (.bipush 6, 2) := by decide +kernel
theorem dX2_init_52 : decode cX2_init 52 = .ok (.bipush 24, 2) := by decide +kernel
theorem dX2_init_54 : decode cX2_init 54 = .ok (.invokespecial 11, 3) := by decide +kernel
theorem dX2_init_57 : decode cX2_init 57 = .ok (.putfield 23, 3) := by decide +kernel
theorem dX2_init_60 : decode cX2_init 60 = .ok (.aload_n 0, 1) := by decide +kernel
theorem dX2_init_61 : decode cX2_init 61 = .ok (.iconst 3, 1) := by decide +kernel
theorem dX2_init_62 : decode cX2_init 62 = .ok (.putfield 26, 3) := by decide +kernel
theorem dX2_init_65 : decode cX2_init 65 = .ok (.return_, 1) := by decide +kernel
theorem dX2_makeNew_0 : decode cX2_makeNew 0 = .ok (.aload_n 0, 1) := by decide +kernel
theorem dX2_makeNew_1 : decode cX2_makeNew 1 = .ok (.getfield 14, 3) := by decide +kernel
theorem dX2_makeNew_4 : decode cX2_makeNew 4 = .ok (.invokevirtual 30, 3) := by decide +kernel
theorem dX2_makeNew_7 : decode cX2_makeNew 7 = .ok (.aload_n 0, 1) := by decide +kernel
theorem dX2_makeNew_8 : decode cX2_makeNew 8 = .ok (.getfield 20, 3) := by decide +kernel
theorem dX2_makeNew_11 : decode cX2_makeNew 11 = .ok (.invokevirtual 30, 3) := by decide +kernel
theorem dX2_makeNew_14 : decode cX2_makeNew 14 = .ok (.aload_n 0, 1) := by decide +kernel
theorem dX2_makeNew_15 : decode cX2_makeNew 15 = .ok (.getfield 23, 3) := by decide +kernel
theorem dX2_makeNew_18 : decode cX2_makeNew 18 = .ok (.invokevirtual 30, 3) := by decide +kernel
theorem dX2_makeNew_21 : decode cX2_makeNew 21 = .ok (.aload_n 0, 1) := by decide +kernel
theorem dX2_makeNew_22 : decode cX2_makeNew 22 = .ok (.iconst 0, 1) := by decide +kernel
theorem dX2_makeNew_23 : decode cX2_makeNew 23 = .ok (.putfield 33, 3) := by decide +kernel
theorem dX2_makeNew_26 : decode cX2_makeNew 26 = .ok (.aload_n 0, 1) := by decide +kernel
theorem dX2_makeNew_27 : decode cX2_makeNew 27 = .ok (.iconst 0, 1) := by decide +kernel
theorem dX2_makeNew_28 : decode cX2_makeNew 28 = .ok (.putfield 36, 3) := by decide +kernel
theorem dX2_makeNew_31 : decode cX2_makeNew 31 = .ok (.aload_n 0, 1) := by decide +kernel
theorem dX2_makeNew_32 : decode cX2_makeNew 32 = .ok (.iconst 3, 1) := by decide +kernel
theorem dX2_makeNew_33 : decode cX2_makeNew 33 = .ok (.putfield 26, 3) := by decide +kernel
theorem dX2_makeNew_36 : decode cX2_makeNew 36 = .ok (.aload_n 0, 1) := by decide +kernel
theorem dX2_makeNew_37 : decode cX2_makeNew 37 = .ok (.iconst 0, 1) := by decide +kernel
theorem dX2_makeNew_38 : decode cX2_makeNew 38 = .ok (.putfield 40, 3) := by decide +kernel
theorem dX2_makeNew_41 : decode cX2_makeNew 41 = .ok (.aload_n 0, 1) := by decide +kernel
theorem dX2_makeNew_42 : decode cX2_makeNew 42 = .ok (.iconst 0, 1) := by decide +kernel
theorem dX2_makeNew_43 : decode cX2_makeNew 43 = .ok (.putfield 43, 3) := by decide +kernel
theorem dX2_makeNew_46 : decode cX2_makeNew 46 = .ok (.return_, 1) := by decide +kernel
theorem dX2_copyFrom_0 : decode cX2_copyFrom 0 = .ok (.aload_n 0, 1) := by decide +kernel
theorem dX2_copyFrom_1 : decode cX2_copyFrom 1 = .ok (.getfield 14, 3) := by decide +kernel
theorem dX2_copyFrom_4 : decode cX2_copyFrom 4 = .ok (.aload_n 1, 1) := by decide +kernel
theorem dX2_copyFrom_5 : decode cX2_copyFrom 5 = .ok (.getfield 14, 3) := by decide +kernel
theorem dX2_copyFrom_8 : decode cX2_copyFrom 8 = .ok (.invokevirtual 46, 3) := by decide +kernel
theorem dX2_copyFrom_11 : decode cX2_copyFrom 11 = .ok (.aload_n 0, 1) := by decide +kernel
theorem dX2_copyFrom_12 : decode cX2_copyFrom 12 = .ok (.getfield 20, 3) := by decide +kernel
theorem dX2_copyFrom_15 : decode cX2_copyFrom 15 = .ok (.aload_n 1, 1) := by decide +kernel
theorem dX2_copyFrom_16 : decode cX2_copyFrom 16 = .ok (.getfield 20, 3) := by decide +kernel
theorem dX2_copyFrom_19 : decode cX2_copyFrom 19 = .ok (.invokevirtual 46, 3) := by decide +kernel
theorem dX2_copyFrom_22 : decode cX2_copyFrom 22 = .ok (.aload_n 0, 1) := by decide +kernel
theorem dX2_copyFrom_23 : decode cX2_copyFrom 23 = .ok (.getfield 23, 3) := by decide +kernel
theorem dX2_copyFrom_26 : decode cX2_copyFrom 26 = .ok (.aload_n 1, 1) := by decide +kernel
theorem dX2_copyFrom_27 : decode cX2_copyFrom 27 = .ok (.getfield 23, 3) := by decide +kernel
theorem dX2_copyFrom_30 : decode cX2_copyFrom 30 = .ok (.invokevirtual 46, 3) := by decide +kernel
theorem dX2_copyFrom_33 : decode cX2_copyFrom 33 = .ok (.aload_n 0, 1) := by decide +kernel
theorem dX2_copyFrom_34 : decode cX2_copyFrom 34 = .ok (.aload_n 1, 1) := by decide +kernel
theorem dX2_copyFrom_35 : decode cX2_copyFrom 35 = .ok (.getfield 33, 3) := by decide +kernel
theorem dX2_copyFrom_38 : decode cX2_copyFrom 38 = .ok (.putfield 33, 3) := by decide +kernel
theorem dX2_copyFrom_41 : decode cX2_copyFrom 41 = .ok (.aload_n 0, 1) := by decide +kernel
theorem dX2_copyFrom_42 : decode cX2_copyFrom 42 = .ok (.aload_n 1, 1) := by decide +kernel
theorem dX2_copyFrom_43 : decode cX2_copyFrom 43 = .ok (.getfield 36, 3) := by decide +kernel
theorem dX2_copyFrom_46 : decode cX2_copyFrom 46 = .ok (.putfield 36, 3) := by decide +kernel
theorem dX2_copyFrom_49 : decode cX2_copyFrom 49 = .ok (.aload_n 0, 1) := by decide +kernel
theorem dX2_copyFrom_50 : decode cX2_copyFrom 50 = .ok (.aload_n 1, 1) := by decide +kernel
theorem dX2_copyFrom_51 : decode cX2_copyFrom 51 = .ok (.getfield 26, 3) := by decide +kernel
theorem dX2_copyFrom_54 : decode cX2_copyFrom 54 = .ok (.putfield 26, 3) := by decide +kernel
theorem dX2_copyFrom_57 : decode cX2_copyFrom 57 = .ok (.aload_n 0, 1) := by decide +kernel
theorem dX2_copyFrom_58 : decode cX2_copyFrom 58 = .ok (.aload_n 1, 1) := by decide +kernel
theorem dX2_copyFrom_59 : decode cX2_copyFrom 59 = .ok (.getfield 40, 3) := by decide +kernel
theorem dX2_copyFrom_62 : decode cX2_copyFrom 62 = .ok (.putfield 40, 3) := by decide +kernel
theorem dX2_copyFrom_65 : decode cX2_copyFrom 65 = .ok (.aload_n 0, 1) := by decide +kernel
theorem dX2_copyFrom_66 : decode cX2_copyFrom 66 = .ok (.aload_n 1, 1) := by decide +kernel
theorem dX2_copyFrom_67 : decode cX2_copyFrom 67 = .ok (.getfield 43, 3) := by decide +kernel
theorem dX2_copyFrom_70 : decode cX2_copyFrom 70 = .ok (.putfield 43, 3) := by decide +kernel
theorem dX2_copyFrom_73 : decode cX2_copyFrom 73 = .ok (.return_, 1) := by decide +kernel
theorem dX2_completeCourses_0 : decode cX2_completeCourses 0 = .ok (.iconst 0, 1) := by decide +kernel
theorem dX2_completeCourses_1 : decode cX2_completeCourses 1 = .ok (.istore_n 1, 1) := by decide +kernel
theorem dX2_completeCourses_2 : decode cX2_completeCourses 2 = .ok (.iload_n 1, 1) := by decide +kernel
theorem dX2_completeCourses_3 : decode cX2_completeCourses 3 = .ok (.aload_n 0, 1) := by decide +kernel
theorem dX2_completeCourses_4 : decode cX2_completeCourses 4 = .ok (.getfield 14, 3) := by decide +kernel
theorem dX2_completeCourses_7 : decode cX2_completeCourses 7 = .ok (.invokevirtual 50, 3) := by decide +kernel
theorem dX2_completeCourses_10 : decode cX2_completeCourses 10 = .ok (.if_icmp .ge 34, 3) := by decide +kernel
theorem dX2_completeCourses_13 : decode cX2_completeCourses 13 = .ok (.aload_n 0, 1) := by decide +kernel
theorem dX2_completeCourses_14 : decode cX2_completeCourses 14 = .ok (.getfield 23, 3) := by decide +kernel
theorem dX2_completeCourses_17 : decode cX2_completeCourses 17 = .ok (.iconst 0, 1) := by decide +kernel
theorem dX2_completeCourses_18 : decode cX2_completeCourses 18 = .ok (.iload_n 1, 1) := by decide +kernel
theorem dX2_completeCourses_19 : decode cX2_completeCourses 19 = .ok (.iconst 3, 1) := by decide +kernel
theorem dX2_completeCourses_20 : decode cX2_completeCourses 20 = .ok (.iconst 3, 1) := by decide +kernel
theorem dX2_completeCourses_21 : decode cX2_completeCourses 21 = .ok (.invokevirtual 54, 3) := by decide +kernel
theorem dX2_completeCourses_24 : decode cX2_completeCourses 24 = .ok (.aload_n 0, 1) := by decide +kernel
theorem dX2_completeCourses_25 : decode cX2_completeCourses 25 = .ok (.getfield 14, 3) := by decide +kernel
theorem dX2_completeCourses_28 : decode cX2_completeCourses 28 = .ok (.iload_n 1, 1) := by decide +kernel
theorem dX2_completeCourses_29 : decode cX2_completeCourses 29 = .ok (.iconst 2, 1) := by decide +kernel
theorem dX2_completeCourses_30 : decode cX2_completeCourses 30 = .ok (.invokevirtual 58, 3) := by decide +kernel
theorem dX2_completeCourses_33 : decode cX2_completeCourses 33 = .ok (.if_icmp .ge 5, 3) := by decide +kernel
theorem dX2_completeCourses_36 : decode cX2_completeCourses 36 = .ok (.iload_n 1, 1) := by decide +kernel
theorem dX2_completeCourses_37 : decode cX2_completeCourses 37 = .ok (.ireturn, 1) := by decide +kernel
theorem dX2_completeCourses_38 : decode cX2_completeCourses 38 = .ok (.iinc 1 1, 3) := by decide +kernel
theorem dX2_completeCourses_41 : decode cX2_completeCourses 41 = .ok (.goto (-39), 3) := by decide +kernel
theorem dX2_completeCourses_44 : decode cX2_completeCourses 44 = .ok (.aload_n 0, 1) := by decide +kernel
theorem dX2_completeCourses_45 : decode cX2_completeCourses 45 = .ok (.getfield 14, 3) := by decide +kernel
theorem dX2_completeCourses_48 : decode cX2_completeCourses 48 = .ok (.invokevirtual 50, 3) := by decide +kernel
theorem dX2_completeCourses_51 : decode cX2_completeCourses 51 = .ok (.ireturn, 1) := by decide +kernel
theorem dX2_lacking_0 : decode cX2_lacking 0 = .ok (.aload_n 0, 1) := by decide +kernel
theorem dX2_lacking_1 : decode cX2_lacking 1 = .ok (.getfield 23, 3) := by decide +kernel
theorem dX2_lacking_4 : decode cX2_lacking 4 = .ok (.iconst 0, 1) := by decide +kernel
theorem dX2_lacking_5 : decode cX2_lacking 5 = .ok (.iload_n 1, 1) := by decide +kernel
theorem dX2_lacking_6 : decode cX2_lacking 6 = .ok (.iconst 3, 1) := by decide +kernel
theorem dX2_lacking_7 : decode cX2_lacking 7 = .ok (.iconst 3, 1) := by decide +kernel
theorem dX2_lacking_8 : decode cX2_lacking 8 = .ok (.invokevirtual 54, 3) := by decide +kernel
theorem dX2_lacking_11 : decode cX2_lacking 11 = .ok (.aload_n 0, 1) := by decide +kernel
theorem dX2_lacking_12 : decode cX2_lacking 12 = .ok (.getfield 23, 3) := by decide +kernel
theorem dX2_lacking_15 : decode cX2_lacking 15 = .ok (.iconst 0, 1) := by decide +kernel
theorem dX2_lacking_16 : decode cX2_lacking 16 = .ok (.iload_n 1, 1) := by decide +kernel
theorem dX2_lacking_17 : decode cX2_lacking 17 = .ok (.iconst 3, 1) := by decide +kernel
theorem dX2_lacking_18 : decode cX2_lacking 18 = .ok (.iconst 1, 1) := by decide +kernel
theorem dX2_lacking_19 : decode cX2_lacking 19 = .ok (.invokevirtual 54, 3) := by decide +kernel
theorem dX2_lacking_22 : decode cX2_lacking 22 = .ok (.iadd, 1) := by decide +kernel
theorem dX2_lacking_23 : decode cX2_lacking 23 = .ok (.istore_n 2, 1) := by decide +kernel
theorem dX2_lacking_24 : decode cX2_lacking 24 = .ok (.iconst 0, 1) := by decide +kernel
theorem dX2_lacking_25 : decode cX2_lacking 25 = .ok (.aload_n 0, 1) := by decide +kernel
theorem dX2_lacking_26 : decode cX2_lacking 26 = .ok (.getfield 14, 3) := by decide +kernel
theorem dX2_lacking_29 : decode cX2_lacking 29 = .ok (.iload_n 1, 1) := by decide +kernel
theorem dX2_lacking_30 : decode cX2_lacking 30 = .ok (.iconst 2, 1) := by decide +kernel
theorem dX2_lacking_31 : decode cX2_lacking 31 = .ok (.invokevirtual 58, 3) := by decide +kernel
theorem dX2_lacking_34 : decode cX2_lacking 34 = .ok (.iload_n 2, 1) := by decide +kernel
theorem dX2_lacking_35 : decode cX2_lacking 35 = .ok (.isub, 1) := by decide +kernel
theorem dX2_lacking_36 : decode cX2_lacking 36 = .ok (.invokestatic 62, 3) := by decide +kernel
theorem dX2_lacking_39 : decode cX2_lacking 39 = .ok (.ireturn, 1) := by decide +kernel
theorem dX2_badMarks_0 : decode cX2_badMarks 0 = .ok (.aload_n 0, 1) := by decide +kernel
theorem dX2_badMarks_1 : decode cX2_badMarks 1 = .ok (.getfield 23, 3) := by decide +kernel
theorem dX2_badMarks_4 : decode cX2_badMarks 4 = .ok (.iconst 1, 1) := by decide +kernel
theorem dX2_badMarks_5 : decode cX2_badMarks 5 = .ok (.iload_n 1, 1) := by decide +kernel
theorem dX2_badMarks_6 : decode cX2_badMarks 6 = .ok (.iconst 3, 1) := by decide +kernel
theorem dX2_badMarks_7 : decode cX2_badMarks 7 = .ok (.iconst 2, 1) := by decide +kernel
theorem dX2_badMarks_8 : decode cX2_badMarks 8 = .ok (.invokevirtual 54, 3) := by decide +kernel
theorem dX2_badMarks_11 : decode cX2_badMarks 11 = .ok (.aload_n 0, 1) := by decide +kernel
theorem dX2_badMarks_12 : decode cX2_badMarks 12 = .ok (.getfield 23, 3) := by decide +kernel
theorem dX2_badMarks_15 : decode cX2_badMarks 15 = .ok (.iconst 1, 1) := by decide +kernel
theorem dX2_badMarks_16 : decode cX2_badMarks 16 = .ok (.iload_n 1, 1) := by decide +kernel
theorem dX2_badMarks_17 : decode cX2_badMarks 17 = .ok (.iconst 3, 1) := by decide +kernel
theorem dX2_badMarks_18 : decode cX2_badMarks 18 = .ok (.iconst 4, 1) := by decide +kernel
theorem dX2_badMarks_19 : decode cX2_badMarks 19 = .ok (.invokevirtual 54, 3) := by decide +kernel
theorem dX2_badMarks_22 : decode cX2_badMarks 22 = .ok (.iadd, 1) := by decide +kernel
theorem dX2_badMarks_23 : decode cX2_badMarks 23 = .ok (.ireturn, 1) := by decide +kernel
theorem dX2_hindrance_0 : decode cX2_hindrance 0 = .ok (.aload_n 0, 1) := by decide +kernel
theorem dX2_hindrance_1 : decode cX2_hindrance 1 = .ok (.getfield 23, 3) := by decide +kernel
theorem dX2_hindrance_4 : decode cX2_hindrance 4 = .ok (.iload_n 1, 1) := by decide +kernel
theorem dX2_hindrance_5 : decode cX2_hindrance 5 = .ok (.iconst 3, 1) := by decide +kernel
theorem dX2_hindrance_6 : decode cX2_hindrance 6 = .ok (.invokevirtual 58, 3) := by decide +kernel
theorem dX2_hindrance_9 : decode cX2_hindrance 9 = .ok (.iconst 1, 1) := by decide +kernel
theorem dX2_hindrance_10 : decode cX2_hindrance 10 = .ok (.if_icmp .eq 5, 3) := by decide +kernel
theorem dX2_hindrance_13 : decode cX2_hindrance 13 = .ok (.iconst 1, 1) := by decide +kernel
theorem dX2_hindrance_14 : decode cX2_hindrance 14 = .ok (.ireturn, 1) := by decide +kernel
theorem dX2_hindrance_15 : decode cX2_hindrance 15 = .ok (.aload_n 0, 1) := by decide +kernel
theorem dX2_hindrance_16 : decode cX2_hindrance 16 = .ok (.getfield 36, 3) := by decide +kernel
theorem dX2_hindrance_19 : decode cX2_hindrance 19 = .ok (.ifCond .eq 5, 3) := by decide +kernel
theorem dX2_hindrance_22 : decode cX2_hindrance 22 = .ok (.iconst 2, 1) := by decide +kernel
theorem dX2_hindrance_23 : decode cX2_hindrance 23 = .ok (.ireturn, 1) := by decide +kernel
theorem dX2_hindrance_24 : decode cX2_hindrance 24 = .ok (.aload_n 0, 1) := by decide +kernel
theorem dX2_hindrance_25 : decode cX2_hindrance 25 = .ok (.getfield 23, 3) := by decide +kernel
theorem dX2_hindrance_28 : decode cX2_hindrance 28 = .ok (.iload_n 1, 1) := by decide +kernel
theorem dX2_hindrance_29 : decode cX2_hindrance 29 = .ok (.iconst 0, 1) := by decide +kernel
theorem dX2_hindrance_30 : decode cX2_hindrance 30 = .ok (.invokevirtual 58, 3) := by decide +kernel
theorem dX2_hindrance_33 : decode cX2_hindrance 33 = .ok (.istore_n 2, 1) := by decide +kernel
theorem dX2_hindrance_34 : decode cX2_hindrance 34 = .ok (.aload_n 0, 1) := by decide +kernel
theorem dX2_hindrance_35 : decode cX2_hindrance 35 = .ok (.invokevirtual 67, 3) := by decide +kernel
theorem dX2_hindrance_38 : decode cX2_hindrance 38 = .ok (.istore_n 3, 1) := by decide +kernel
theorem dX2_hindrance_39 : decode cX2_hindrance 39 = .ok (.iload_n 2, 1) := by decide +kernel
theorem dX2_hindrance_40 : decode cX2_hindrance 40 = .ok (.iload_n 3, 1) := by decide +kernel
theorem dX2_hindrance_41 : decode cX2_hindrance 41 = .ok (.if_icmp .le 5, 3) := by decide +kernel
theorem dX2_hindrance_44 : decode cX2_hindrance 44 = .ok (.iconst 3, 1) := by decide +kernel
theorem dX2_hindrance_45 : decode cX2_hindrance 45 = .ok (.ireturn, 1) := by decide +kernel
theorem dX2_hindrance_46 : decode cX2_hindrance 46 = .ok (.iload_n 2, 1) := by decide +kernel
theorem dX2_hindrance_47 : decode cX2_hindrance 47 = .ok (.iload_n 3, 1) := by decide +kernel
theorem dX2_hindrance_48 : decode cX2_hindrance 48 = .ok (.if_icmp .ge 7, 3) := by decide +kernel
theorem dX2_hindrance_51 : decode cX2_hindrance 51 = .ok (.iconst 4, 1) := by decide +kernel
theorem dX2_hindrance_52 : decode cX2_hindrance 52 = .ok (.goto 4, 3) := by decide +kernel
theorem dX2_hindrance_55 : decode cX2_hindrance 55 = .ok (.iconst 0, 1) := by decide +kernel
theorem dX2_hindrance_56 : decode cX2_hindrance 56 = .ok (.ireturn, 1) := by decide +kernel
theorem dX2_newCourse_0 : decode cX2_newCourse 0 = .ok (.aload_n 0, 1) := by decide +kernel
theorem dX2_newCourse_1 : decode cX2_newCourse 1 = .ok (.getfield 14, 3) := by decide +kernel
theorem dX2_newCourse_4 : decode cX2_newCourse 4 = .ok (.invokevirtual 70, 3) := by decide +kernel
theorem dX2_newCourse_7 : decode cX2_newCourse 7 = .ok (.istore 4, 2) := by decide +kernel
theorem dX2_newCourse_9 : decode cX2_newCourse 9 = .ok (.aload_n 0, 1) := by decide +kernel
theorem dX2_newCourse_10 : decode cX2_newCourse 10 = .ok (.getfield 14, 3) := by decide +kernel
theorem dX2_newCourse_13 : decode cX2_newCourse 13 = .ok (.iload 4, 2) := by decide +kernel
theorem dX2_newCourse_15 : decode cX2_newCourse 15 = .ok (.iconst 0, 1) := by decide +kernel
theorem dX2_newCourse_16 : decode cX2_newCourse 16 = .ok (.iload_n 1, 1) := by decide +kernel
theorem dX2_newCourse_17 : decode cX2_newCourse 17 = .ok (.invokevirtual 73, 3) := by decide +kernel
theorem dX2_newCourse_20 : decode cX2_newCourse 20 = .ok (.aload_n 0, 1) := by decide +kernel
theorem dX2_newCourse_21 : decode cX2_newCourse 21 = .ok (.getfield 14, 3) := by decide +kernel
theorem dX2_newCourse_24 : decode cX2_newCourse 24 = .ok (.iload 4, 2) := by decide +kernel
theorem dX2_newCourse_26 : decode cX2_newCourse 26 = .ok (.iconst 1, 1) := by decide +kernel
theorem dX2_newCourse_27 : decode cX2_newCourse 27 = .ok (.iload_n 2, 1) := by decide +kernel
theorem dX2_newCourse_28 : decode cX2_newCourse 28 = .ok (.invokevirtual 73, 3) := by decide +kernel
theorem dX2_newCourse_31 : decode cX2_newCourse 31 = .ok (.aload_n 0, 1) := by decide +kernel
theorem dX2_newCourse_32 : decode cX2_newCourse 32 = .ok (.getfield 14, 3) := by decide +kernel
theorem dX2_newCourse_35 : decode cX2_newCourse 35 = .ok (.iload 4, 2) := by decide +kernel
theorem dX2_newCourse_37 : decode cX2_newCourse 37 = .ok (.iconst 2, 1) := by decide +kernel
theorem dX2_newCourse_38 : decode cX2_newCourse 38 = .ok (.iload_n 3, 1) := by decide +kernel
theorem dX2_newCourse_39 : decode cX2_newCourse 39 = .ok (.invokevirtual 73, 3) := by decide +kernel
theorem dX2_newCourse_42 : decode cX2_newCourse 42 = .ok (.iload 4, 2) := by decide +kernel
theorem dX2_newCourse_44 : decode cX2_newCourse 44 = .ok (.ireturn, 1) := by decide +kernel
theorem dX2_newMason_0 : decode cX2_newMason 0 = .ok (.aload_n 0, 1) := by decide +kernel
theorem dX2_newMason_1 : decode cX2_newMason 1 = .ok (.getfield 20, 3) := by decide +kernel
theorem dX2_newMason_4 : decode cX2_newMason 4 = .ok (.invokevirtual 70, 3) := by decide +kernel
theorem dX2_newMason_7 : decode cX2_newMason 7 = .ok (.istore_n 3, 1) := by decide +kernel
theorem dX2_newMason_8 : decode cX2_newMason 8 = .ok (.aload_n 0, 1) := by decide +kernel
theorem dX2_newMason_9 : decode cX2_newMason 9 = .ok (.getfield 20, 3) := by decide +kernel
theorem dX2_newMason_12 : decode cX2_newMason 12 = .ok (.iload_n 3, 1) := by decide +kernel
theorem dX2_newMason_13 : decode cX2_newMason 13 = .ok (.iconst 0, 1) := by decide +kernel
theorem dX2_newMason_14 : decode cX2_newMason 14 = .ok (.iload_n 1, 1) := by decide +kernel
theorem dX2_newMason_15 : decode cX2_newMason 15 = .ok (.invokevirtual 73, 3) := by decide +kernel
theorem dX2_newMason_18 : decode cX2_newMason 18 = .ok (.aload_n 0, 1) := by decide +kernel
theorem dX2_newMason_19 : decode cX2_newMason 19 = .ok (.getfield 20, 3) := by decide +kernel
theorem dX2_newMason_22 : decode cX2_newMason 22 = .ok (.iload_n 3, 1) := by decide +kernel
theorem dX2_newMason_23 : decode cX2_newMason 23 = .ok (.iconst 1, 1) := by decide +kernel
theorem dX2_newMason_24 : decode cX2_newMason 24 = .ok (.iload_n 2, 1) := by decide +kernel
theorem dX2_newMason_25 : decode cX2_newMason 25 = .ok (.invokevirtual 73, 3) := by decide +kernel
theorem dX2_newMason_28 : decode cX2_newMason 28 = .ok (.aload_n 0, 1) := by decide +kernel
theorem dX2_newMason_29 : decode cX2_newMason 29 = .ok (.getfield 20, 3) := by decide +kernel
theorem dX2_newMason_32 : decode cX2_newMason 32 = .ok (.iload_n 3, 1) := by decide +kernel
theorem dX2_newMason_33 : decode cX2_newMason 33 = .ok (.iconst 2, 1) := by decide +kernel
theorem dX2_newMason_34 : decode cX2_newMason 34 = .ok (.iconst 0, 1) := by decide +kernel
theorem dX2_newMason_35 : decode cX2_newMason 35 = .ok (.invokevirtual 73, 3) := by decide +kernel
theorem dX2_newMason_38 : decode cX2_newMason 38 = .ok (.aload_n 0, 1) := by decide +kernel
theorem dX2_newMason_39 : decode cX2_newMason 39 = .ok (.getfield 20, 3) := by decide +kernel
theorem dX2_newMason_42 : decode cX2_newMason 42 = .ok (.iload_n 3, 1) := by decide +kernel
theorem dX2_newMason_43 : decode cX2_newMason 43 = .ok (.iconst 3, 1) := by decide +kernel
theorem dX2_newMason_44 : decode cX2_newMason 44 = .ok (.iconst 0, 1) := by decide +kernel
theorem dX2_newMason_45 : decode cX2_newMason 45 = .ok (.invokevirtual 73, 3) := by decide +kernel
theorem dX2_newMason_48 : decode cX2_newMason 48 = .ok (.iload_n 3, 1) := by decide +kernel
theorem dX2_newMason_49 : decode cX2_newMason 49 = .ok (.ireturn, 1) := by decide +kernel
theorem dX2_newStone_0 : decode cX2_newStone 0 = .ok (.aload_n 0, 1) := by decide +kernel
theorem dX2_newStone_1 : decode cX2_newStone 1 = .ok (.getfield 23, 3) := by decide +kernel
theorem dX2_newStone_4 : decode cX2_newStone 4 = .ok (.invokevirtual 70, 3) := by decide +kernel
theorem dX2_newStone_7 : decode cX2_newStone 7 = .ok (.istore 4, 2) := by decide +kernel
theorem dX2_newStone_9 : decode cX2_newStone 9 = .ok (.aload_n 0, 1) := by decide +kernel
theorem dX2_newStone_10 : decode cX2_newStone 10 = .ok (.getfield 23, 3) := by decide +kernel
theorem dX2_newStone_13 : decode cX2_newStone 13 = .ok (.iload 4, 2) := by decide +kernel
theorem dX2_newStone_15 : decode cX2_newStone 15 = .ok (.iconst 0, 1) := by decide +kernel
theorem dX2_newStone_16 : decode cX2_newStone 16 = .ok (.iload_n 2, 1) := by decide +kernel
theorem dX2_newStone_17 : decode cX2_newStone 17 = .ok (.invokevirtual 73, 3) := by decide +kernel
theorem dX2_newStone_20 : decode cX2_newStone 20 = .ok (.aload_n 0, 1) := by decide +kernel
theorem dX2_newStone_21 : decode cX2_newStone 21 = .ok (.getfield 23, 3) := by decide +kernel
theorem dX2_newStone_24 : decode cX2_newStone 24 = .ok (.iload 4, 2) := by decide +kernel
theorem dX2_newStone_26 : decode cX2_newStone 26 = .ok (.iconst 1, 1) := by decide +kernel
theorem dX2_newStone_27 : decode cX2_newStone 27 = .ok (.iload_n 1, 1) := by decide +kernel
theorem dX2_newStone_28 : decode cX2_newStone 28 = .ok (.invokevirtual 73, 3) := by decide +kernel
theorem dX2_newStone_31 : decode cX2_newStone 31 = .ok (.aload_n 0, 1) := by decide +kernel
theorem dX2_newStone_32 : decode cX2_newStone 32 = .ok (.getfield 23, 3) := by decide +kernel
theorem dX2_newStone_35 : decode cX2_newStone 35 = .ok (.iload 4, 2) := by decide +kernel
theorem dX2_newStone_37 : decode cX2_newStone 37 = .ok (.iconst 2, 1) := by decide +kernel
theorem dX2_newStone_38 : decode cX2_newStone 38 = .ok (.iload_n 3, 1) := by decide +kernel
theorem dX2_newStone_39 : decode cX2_newStone 39 = .ok (.invokevirtual 73, 3) := by decide +kernel
theorem dX2_newStone_42 : decode cX2_newStone 42 = .ok (.aload_n 0, 1) := by decide +kernel
theorem dX2_newStone_43 : decode cX2_newStone 43 = .ok (.getfield 23, 3) := by decide +kernel
theorem dX2_newStone_46 : decode cX2_newStone 46 = .ok (.iload 4, 2) := by decide +kernel
theorem dX2_newStone_48 : decode cX2_newStone 48 = .ok (.iconst 3, 1) := by decide +kernel
theorem dX2_newStone_49 : decode cX2_newStone 49 = .ok (.iconst 0, 1) := by decide +kernel
theorem dX2_newStone_50 : decode cX2_newStone 50 = .ok (.invokevirtual 73, 3) := by decide +kernel
theorem dX2_newStone_53 : decode cX2_newStone 53 = .ok (.aload_n 0, 1) := by decide +kernel
theorem dX2_newStone_54 : decode cX2_newStone 54 = .ok (.getfield 23, 3) := by decide +kernel
theorem dX2_newStone_57 : decode cX2_newStone 57 = .ok (.iload 4, 2) := by decide +kernel
theorem dX2_newStone_59 : decode cX2_newStone 59 = .ok (.iconst 4, 1) := by decide +kernel
theorem dX2_newStone_60 : decode cX2_newStone 60 = .ok (.iconst 0, 1) := by decide +kernel
theorem dX2_newStone_61 : decode cX2_newStone 61 = .ok (.invokevirtual 73, 3) := by decide +kernel
theorem dX2_newStone_64 : decode cX2_newStone 64 = .ok (.aload_n 0, 1) := by decide +kernel
theorem dX2_newStone_65 : decode cX2_newStone 65 = .ok (.getfield 23, 3) := by decide +kernel
theorem dX2_newStone_68 : decode cX2_newStone 68 = .ok (.iload 4, 2) := by decide +kernel
theorem dX2_newStone_70 : decode cX2_newStone 70 = .ok (.iconst 5, 1) := by decide +kernel
theorem dX2_newStone_71 : decode cX2_newStone 71 = .ok (.iload_n 1, 1) := by decide +kernel
theorem dX2_newStone_72 : decode cX2_newStone 72 = .ok (.invokevirtual 73, 3) := by decide +kernel
theorem dX2_newStone_75 : decode cX2_newStone 75 = .ok (.iload 4, 2) := by decide +kernel
theorem dX2_newStone_77 : decode cX2_newStone 77 = .ok (.ireturn, 1) := by decide +kernel
theorem dX2_hasWorkToCut_0 : decode cX2_hasWorkToCut 0 = .ok (.aload_n 0, 1) := by decide +kernel
theorem dX2_hasWorkToCut_1 : decode cX2_hasWorkToCut 1 = .ok (.getfield 20, 3) := by decide +kernel
theorem dX2_hasWorkToCut_4 : decode cX2_hasWorkToCut 4 = .ok (.iload_n 1, 1) := by decide +kernel
theorem dX2_hasWorkToCut_5 : decode cX2_hasWorkToCut 5 = .ok (.iconst 2, 1) := by decide +kernel
theorem dX2_hasWorkToCut_6 : decode cX2_hasWorkToCut 6 = .ok (.invokevirtual 58, 3) := by decide +kernel
theorem dX2_hasWorkToCut_9 : decode cX2_hasWorkToCut 9 = .ok (.aload_n 0, 1) := by decide +kernel
theorem dX2_hasWorkToCut_10 : decode cX2_hasWorkToCut 10 = .ok (.getfield 14, 3) := by decide +kernel
theorem dX2_hasWorkToCut_13 : decode cX2_hasWorkToCut 13 = .ok (.iload_n 2, 1) := by decide +kernel
theorem dX2_hasWorkToCut_14 : decode cX2_hasWorkToCut 14 = .ok (.iconst 1, 1) := by decide +kernel
theorem dX2_hasWorkToCut_15 : decode cX2_hasWorkToCut 15 = .ok (.invokevirtual 58, 3) := by decide +kernel
theorem dX2_hasWorkToCut_18 : decode cX2_hasWorkToCut 18 = .ok (.if_icmp .lt 7, 3) := by decide +kernel
theorem dX2_hasWorkToCut_21 : decode cX2_hasWorkToCut 21 = .ok (.iconst 1, 1) := by decide +kernel
theorem dX2_hasWorkToCut_22 : decode cX2_hasWorkToCut 22 = .ok (.goto 4, 3) := by decide +kernel
theorem dX2_hasWorkToCut_25 : decode cX2_hasWorkToCut 25 = .ok (.iconst 0, 1) := by decide +kernel
theorem dX2_hasWorkToCut_26 : decode cX2_hasWorkToCut 26 = .ok (.ireturn, 1) := by decide +kernel
theorem dX2_mayCut_0 : decode cX2_mayCut 0 = .ok (.aload_n 0, 1) := by decide +kernel
theorem dX2_mayCut_1 : decode cX2_mayCut 1 = .ok (.getfield 20, 3) := by decide +kernel
theorem dX2_mayCut_4 : decode cX2_mayCut 4 = .ok (.iload_n 1, 1) := by decide +kernel
theorem dX2_mayCut_5 : decode cX2_mayCut 5 = .ok (.invokevirtual 77, 3) := by decide +kernel
theorem dX2_mayCut_8 : decode cX2_mayCut 8 = .ok (.ifCond .eq 37, 3) := by decide +kernel
theorem dX2_mayCut_11 : decode cX2_mayCut 11 = .ok (.aload_n 0, 1) := by decide +kernel
theorem dX2_mayCut_12 : decode cX2_mayCut 12 = .ok (.getfield 14, 3) := by decide +kernel
theorem dX2_mayCut_15 : decode cX2_mayCut 15 = .ok (.iload_n 2, 1) := by decide +kernel
theorem dX2_mayCut_16 : decode cX2_mayCut 16 = .ok (.invokevirtual 77, 3) := by decide +kernel
theorem dX2_mayCut_19 : decode cX2_mayCut 19 = .ok (.ifCond .eq 26, 3) := by decide +kernel
theorem dX2_mayCut_22 : decode cX2_mayCut 22 = .ok (.aload_n 0, 1) := by decide +kernel
theorem dX2_mayCut_23 : decode cX2_mayCut 23 = .ok (.iload_n 1, 1) := by decide +kernel
theorem dX2_mayCut_24 : decode cX2_mayCut 24 = .ok (.iload_n 2, 1) := by decide +kernel
theorem dX2_mayCut_25 : decode cX2_mayCut 25 = .ok (.invokevirtual 81, 3) := by decide +kernel
theorem dX2_mayCut_28 : decode cX2_mayCut 28 = .ok (.ifCond .eq 17, 3) := by decide +kernel
theorem dX2_mayCut_31 : decode cX2_mayCut 31 = .ok (.aload_n 0, 1) := by decide +kernel
theorem dX2_mayCut_32 : decode cX2_mayCut 32 = .ok (.getfield 23, 3) := by decide +kernel
theorem dX2_mayCut_35 : decode cX2_mayCut 35 = .ok (.invokevirtual 85, 3) := by decide +kernel
theorem dX2_mayCut_38 : decode cX2_mayCut 38 = .ok (.ifCond .eq 7, 3) := by decide +kernel
theorem dX2_mayCut_41 : decode cX2_mayCut 41 = .ok (.iconst 1, 1) := by decide +kernel
theorem dX2_mayCut_42 : decode cX2_mayCut 42 = .ok (.goto 4, 3) := by decide +kernel
theorem dX2_mayCut_45 : decode cX2_mayCut 45 = .ok (.iconst 0, 1) := by decide +kernel
theorem dX2_mayCut_46 : decode cX2_mayCut 46 = .ok (.ireturn, 1) := by decide +kernel
theorem dX2_cutStone_0 : decode cX2_cutStone 0 = .ok (.aload_n 0, 1) := by decide +kernel
theorem dX2_cutStone_1 : decode cX2_cutStone 1 = .ok (.getfield 20, 3) := by decide +kernel
theorem dX2_cutStone_4 : decode cX2_cutStone 4 = .ok (.iload_n 1, 1) := by decide +kernel
theorem dX2_cutStone_5 : decode cX2_cutStone 5 = .ok (.iconst 2, 1) := by decide +kernel
theorem dX2_cutStone_6 : decode cX2_cutStone 6 = .ok (.aload_n 0, 1) := by decide +kernel
theorem dX2_cutStone_7 : decode cX2_cutStone 7 = .ok (.getfield 14, 3) := by decide +kernel
theorem dX2_cutStone_10 : decode cX2_cutStone 10 = .ok (.iload_n 2, 1) := by decide +kernel
theorem dX2_cutStone_11 : decode cX2_cutStone 11 = .ok (.iconst 1, 1) := by decide +kernel
theorem dX2_cutStone_12 : decode cX2_cutStone 12 = .ok (.invokevirtual 58, 3) := by decide +kernel
theorem dX2_cutStone_15 : decode cX2_cutStone 15 = .ok (.ineg, 1) := by decide +kernel
theorem dX2_cutStone_16 : decode cX2_cutStone 16 = .ok (.invokevirtual 89, 3) := by decide +kernel
theorem dX2_cutStone_19 : decode cX2_cutStone 19 = .ok (.aload_n 0, 1) := by decide +kernel
theorem dX2_cutStone_20 : decode cX2_cutStone 20 = .ok (.iload_n 1, 1) := by decide +kernel
theorem dX2_cutStone_21 : decode cX2_cutStone 21 = .ok (.iload_n 2, 1) := by decide +kernel
theorem dX2_cutStone_22 : decode cX2_cutStone 22 = .ok (.iload_n 3, 1) := by decide +kernel
theorem dX2_cutStone_23 : decode cX2_cutStone 23 = .ok (.invokevirtual 92, 3) := by decide +kernel
theorem dX2_cutStone_26 : decode cX2_cutStone 26 = .ok (.ireturn, 1) := by decide +kernel
theorem dX2_mayInspect_0 : decode cX2_mayInspect 0 = .ok (.aload_n 0, 1) := by decide +kernel
theorem dX2_mayInspect_1 : decode cX2_mayInspect 1 = .ok (.getfield 23, 3) := by decide +kernel
theorem dX2_mayInspect_4 : decode cX2_mayInspect 4 = .ok (.iload_n 1, 1) := by decide +kernel
theorem dX2_mayInspect_5 : decode cX2_mayInspect 5 = .ok (.invokevirtual 77, 3) := by decide +kernel
theorem dX2_mayInspect_8 : decode cX2_mayInspect 8 = .ok (.ifCond .eq 19, 3) := by decide +kernel
theorem dX2_mayInspect_11 : decode cX2_mayInspect 11 = .ok (.aload_n 0, 1) := by decide +kernel
theorem dX2_mayInspect_12 : decode cX2_mayInspect 12 = .ok (.getfield 23, 3) := by decide +kernel
theorem dX2_mayInspect_15 : decode cX2_mayInspect 15 = .ok (.iload_n 1, 1) := by decide +kernel
theorem dX2_mayInspect_16 : decode cX2_mayInspect 16 = .ok (.iconst 3, 1) := by decide +kernel
theorem dX2_mayInspect_17 : decode cX2_mayInspect 17 = .ok (.invokevirtual 58, 3) := by decide +kernel
theorem dX2_mayInspect_20 : decode cX2_mayInspect 20 = .ok (.ifCond .ne 7, 3) := by decide +kernel
theorem dX2_mayInspect_23 : decode cX2_mayInspect 23 = .ok (.iconst 1, 1) := by decide +kernel
theorem dX2_mayInspect_24 : decode cX2_mayInspect 24 = .ok (.goto 4, 3) := by decide +kernel
theorem dX2_mayInspect_27 : decode cX2_mayInspect 27 = .ok (.iconst 0, 1) := by decide +kernel
theorem dX2_mayInspect_28 : decode cX2_mayInspect 28 = .ok (.ireturn, 1) := by decide +kernel
theorem dX2_priceOf_0 : decode cX2_priceOf 0 = .ok (.aload_n 0, 1) := by decide +kernel
theorem dX2_priceOf_1 : decode cX2_priceOf 1 = .ok (.getfield 14, 3) := by decide +kernel
theorem dX2_priceOf_4 : decode cX2_priceOf 4 = .ok (.aload_n 0, 1) := by decide +kernel
theorem dX2_priceOf_5 : decode cX2_priceOf 5 = .ok (.getfield 23, 3) := by decide +kernel
theorem dX2_priceOf_8 : decode cX2_priceOf 8 = .ok (.iload_n 1, 1) := by decide +kernel
theorem dX2_priceOf_9 : decode cX2_priceOf 9 = .ok (.iconst 0, 1) := by decide +kernel
theorem dX2_priceOf_10 : decode cX2_priceOf 10 = .ok (.invokevirtual 58, 3) := by decide +kernel
theorem dX2_priceOf_13 : decode cX2_priceOf 13 = .ok (.iconst 1, 1) := by decide +kernel
theorem dX2_priceOf_14 : decode cX2_priceOf 14 = .ok (.invokevirtual 58, 3) := by decide +kernel
theorem dX2_priceOf_17 : decode cX2_priceOf 17 = .ok (.aload_n 0, 1) := by decide +kernel
theorem dX2_priceOf_18 : decode cX2_priceOf 18 = .ok (.getfield 20, 3) := by decide +kernel
theorem dX2_priceOf_21 : decode cX2_priceOf 21 = .ok (.aload_n 0, 1) := by decide +kernel
theorem dX2_priceOf_22 : decode cX2_priceOf 22 = .ok (.getfield 23, 3) := by decide +kernel
theorem dX2_priceOf_25 : decode cX2_priceOf 25 = .ok (.iload_n 1, 1) := by decide +kernel
theorem dX2_priceOf_26 : decode cX2_priceOf 26 = .ok (.iconst 1, 1) := by decide +kernel
theorem dX2_priceOf_27 : decode cX2_priceOf 27 = .ok (.invokevirtual 58, 3) := by decide +kernel
theorem dX2_priceOf_30 : decode cX2_priceOf 30 = .ok (.iconst 0, 1) := by decide +kernel
theorem dX2_priceOf_31 : decode cX2_priceOf 31 = .ok (.invokevirtual 58, 3) := by decide +kernel
theorem dX2_priceOf_34 : decode cX2_priceOf 34 = .ok (.imul, 1) := by decide +kernel
theorem dX2_priceOf_35 : decode cX2_priceOf 35 = .ok (.istore_n 2, 1) := by decide +kernel
theorem dX2_priceOf_36 : decode cX2_priceOf 36 = .ok (.aload_n 0, 1) := by decide +kernel
theorem dX2_priceOf_37 : decode cX2_priceOf 37 = .ok (.getfield 23, 3) := by decide +kernel
theorem dX2_priceOf_40 : decode cX2_priceOf 40 = .ok (.iload_n 1, 1) := by decide +kernel
theorem dX2_priceOf_41 : decode cX2_priceOf 41 = .ok (.iconst 4, 1) := by decide +kernel
theorem dX2_priceOf_42 : decode cX2_priceOf 42 = .ok (.invokevirtual 58, 3) := by decide +kernel
theorem dX2_priceOf_45 : decode cX2_priceOf 45 = .ok (.ifCond .le 9, 3) := by decide +kernel
theorem dX2_priceOf_48 : decode cX2_priceOf 48 = .ok (.iload_n 2, 1) := by decide +kernel
theorem dX2_priceOf_49 : decode cX2_priceOf 49 = .ok (.iconst 2, 1) := by decide +kernel
theorem dX2_priceOf_50 : decode cX2_priceOf 50 = .ok (.idiv, 1) := by decide +kernel
theorem dX2_priceOf_51 : decode cX2_priceOf 51 = .ok (.goto 4, 3) := by decide +kernel
theorem dX2_priceOf_54 : decode cX2_priceOf 54 = .ok (.iload_n 2, 1) := by decide +kernel
theorem dX2_priceOf_55 : decode cX2_priceOf 55 = .ok (.ireturn, 1) := by decide +kernel
theorem dX2_inspectStone_0 : decode cX2_inspectStone 0 = .ok (.aload_n 0, 1) := by decide +kernel
theorem dX2_inspectStone_1 : decode cX2_inspectStone 1 = .ok (.getfield 23, 3) := by decide +kernel
theorem dX2_inspectStone_4 : decode cX2_inspectStone 4 = .ok (.iload_n 1, 1) := by decide +kernel
theorem dX2_inspectStone_5 : decode cX2_inspectStone 5 = .ok (.iconst 2, 1) := by decide +kernel
theorem dX2_inspectStone_6 : decode cX2_inspectStone 6 = .ok (.invokevirtual 58, 3) := by decide +kernel
theorem dX2_inspectStone_9 : decode cX2_inspectStone 9 = .ok (.aload_n 0, 1) := by decide +kernel
theorem dX2_inspectStone_10 : decode cX2_inspectStone 10 = .ok (.getfield 26, 3) := by decide +kernel
theorem dX2_inspectStone_13 : decode cX2_inspectStone 13 = .ok (.if_icmp .le 16, 3) := by decide +kernel
theorem dX2_inspectStone_16 : decode cX2_inspectStone 16 = .ok (.aload_n 0, 1) := by decide +kernel
theorem dX2_inspectStone_17 : decode cX2_inspectStone 17 = .ok (.getfield 23, 3) := by decide +kernel
theorem dX2_inspectStone_20 : decode cX2_inspectStone 20 = .ok (.iload_n 1, 1) := by decide +kernel
theorem dX2_inspectStone_21 : decode cX2_inspectStone 21 = .ok (.iconst 3, 1) := by decide +kernel
theorem dX2_inspectStone_22 : decode cX2_inspectStone 22 = .ok (.iconst 2, 1) := by decide +kernel
theorem dX2_inspectStone_23 : decode cX2_inspectStone 23 = .ok (.invokevirtual 73, 3) := by decide +kernel
theorem dX2_inspectStone_26 : decode cX2_inspectStone 26 = .ok (.bipush (-9), 2) := by decide +kernel
theorem dX2_inspectStone_28 : decode cX2_inspectStone 28 = .ok (.ireturn, 1) := by decide +kernel
theorem dX2_inspectStone_29 : decode cX2_inspectStone 29 = .ok (.aload_n 0, 1) := by decide +kernel
theorem dX2_inspectStone_30 : decode cX2_inspectStone 30 = .ok (.iload_n 1, 1) := by decide +kernel
theorem dX2_inspectStone_31 : decode cX2_inspectStone 31 = .ok (.invokevirtual 96, 3) := by decide +kernel
theorem dX2_inspectStone_34 : decode cX2_inspectStone 34 = .ok (.istore_n 2, 1) := by decide +kernel
theorem dX2_inspectStone_35 : decode cX2_inspectStone 35 = .ok (.aload_n 0, 1) := by decide +kernel
theorem dX2_inspectStone_36 : decode cX2_inspectStone 36 = .ok (.getfield 23, 3) := by decide +kernel
theorem dX2_inspectStone_39 : decode cX2_inspectStone 39 = .ok (.iload_n 1, 1) := by decide +kernel
theorem dX2_inspectStone_40 : decode cX2_inspectStone 40 = .ok (.iconst 3, 1) := by decide +kernel
theorem dX2_inspectStone_41 : decode cX2_inspectStone 41 = .ok (.iconst 1, 1) := by decide +kernel
theorem dX2_inspectStone_42 : decode cX2_inspectStone 42 = .ok (.invokevirtual 73, 3) := by decide +kernel
theorem dX2_inspectStone_45 : decode cX2_inspectStone 45 = .ok (.aload_n 0, 1) := by decide +kernel
theorem dX2_inspectStone_46 : decode cX2_inspectStone 46 = .ok (.getfield 20, 3) := by decide +kernel
theorem dX2_inspectStone_49 : decode cX2_inspectStone 49 = .ok (.aload_n 0, 1) := by decide +kernel
theorem dX2_inspectStone_50 : decode cX2_inspectStone 50 = .ok (.getfield 23, 3) := by decide +kernel
theorem dX2_inspectStone_53 : decode cX2_inspectStone 53 = .ok (.iload_n 1, 1) := by decide +kernel
theorem dX2_inspectStone_54 : decode cX2_inspectStone 54 = .ok (.iconst 1, 1) := by decide +kernel
theorem dX2_inspectStone_55 : decode cX2_inspectStone 55 = .ok (.invokevirtual 58, 3) := by decide +kernel
theorem dX2_inspectStone_58 : decode cX2_inspectStone 58 = .ok (.iconst 3, 1) := by decide +kernel
theorem dX2_inspectStone_59 : decode cX2_inspectStone 59 = .ok (.iload_n 2, 1) := by decide +kernel
theorem dX2_inspectStone_60 : decode cX2_inspectStone 60 = .ok (.invokevirtual 89, 3) := by decide +kernel
theorem dX2_inspectStone_63 : decode cX2_inspectStone 63 = .ok (.iload_n 2, 1) := by decide +kernel
theorem dX2_inspectStone_64 : decode cX2_inspectStone 64 = .ok (.ireturn, 1) := by decide +kernel
theorem dX2_workToRecut_0 : decode cX2_workToRecut 0 = .ok (.aload_n 0, 1) := by decide +kernel
theorem dX2_workToRecut_1 : decode cX2_workToRecut 1 = .ok (.getfield 14, 3) := by decide +kernel
theorem dX2_workToRecut_4 : decode cX2_workToRecut 4 = .ok (.iload_n 1, 1) := by decide +kernel
theorem dX2_workToRecut_5 : decode cX2_workToRecut 5 = .ok (.iconst 1, 1) := by decide +kernel
theorem dX2_workToRecut_6 : decode cX2_workToRecut 6 = .ok (.invokevirtual 58, 3) := by decide +kernel
theorem dX2_workToRecut_9 : decode cX2_workToRecut 9 = .ok (.iconst 1, 1) := by decide +kernel
theorem dX2_workToRecut_10 : decode cX2_workToRecut 10 = .ok (.iadd, 1) := by decide +kernel
theorem dX2_workToRecut_11 : decode cX2_workToRecut 11 = .ok (.iconst 2, 1) := by decide +kernel
theorem dX2_workToRecut_12 : decode cX2_workToRecut 12 = .ok (.idiv, 1) := by decide +kernel
theorem dX2_workToRecut_13 : decode cX2_workToRecut 13 = .ok (.ireturn, 1) := by decide +kernel
theorem dX2_isSmaller_0 : decode cX2_isSmaller 0 = .ok (.aload_n 0, 1) := by decide +kernel
theorem dX2_isSmaller_1 : decode cX2_isSmaller 1 = .ok (.getfield 14, 3) := by decide +kernel
theorem dX2_isSmaller_4 : decode cX2_isSmaller 4 = .ok (.iload_n 1, 1) := by decide +kernel
theorem dX2_isSmaller_5 : decode cX2_isSmaller 5 = .ok (.iconst 0, 1) := by decide +kernel
theorem dX2_isSmaller_6 : decode cX2_isSmaller 6 = .ok (.invokevirtual 58, 3) := by decide +kernel
theorem dX2_isSmaller_9 : decode cX2_isSmaller 9 = .ok (.aload_n 0, 1) := by decide +kernel
theorem dX2_isSmaller_10 : decode cX2_isSmaller 10 = .ok (.getfield 14, 3) := by decide +kernel
theorem dX2_isSmaller_13 : decode cX2_isSmaller 13 = .ok (.iload_n 2, 1) := by decide +kernel
theorem dX2_isSmaller_14 : decode cX2_isSmaller 14 = .ok (.iconst 0, 1) := by decide +kernel
theorem dX2_isSmaller_15 : decode cX2_isSmaller 15 = .ok (.invokevirtual 58, 3) := by decide +kernel
theorem dX2_isSmaller_18 : decode cX2_isSmaller 18 = .ok (.if_icmp .ge 7, 3) := by decide +kernel
theorem dX2_isSmaller_21 : decode cX2_isSmaller 21 = .ok (.iconst 1, 1) := by decide +kernel
theorem dX2_isSmaller_22 : decode cX2_isSmaller 22 = .ok (.goto 4, 3) := by decide +kernel
theorem dX2_isSmaller_25 : decode cX2_isSmaller 25 = .ok (.iconst 0, 1) := by decide +kernel
theorem dX2_isSmaller_26 : decode cX2_isSmaller 26 = .ok (.ireturn, 1) := by decide +kernel
theorem dX2_mayRecut_0 : decode cX2_mayRecut 0 = .ok (.aload_n 0, 1) := by decide +kernel
theorem dX2_mayRecut_1 : decode cX2_mayRecut 1 = .ok (.getfield 20, 3) := by decide +kernel
theorem dX2_mayRecut_4 : decode cX2_mayRecut 4 = .ok (.iload_n 1, 1) := by decide +kernel
theorem dX2_mayRecut_5 : decode cX2_mayRecut 5 = .ok (.invokevirtual 77, 3) := by decide +kernel
theorem dX2_mayRecut_8 : decode cX2_mayRecut 8 = .ok (.ifCond .eq 76, 3) := by decide +kernel
theorem dX2_mayRecut_11 : decode cX2_mayRecut 11 = .ok (.aload_n 0, 1) := by decide +kernel
theorem dX2_mayRecut_12 : decode cX2_mayRecut 12 = .ok (.getfield 23, 3) := by decide +kernel
theorem dX2_mayRecut_15 : decode cX2_mayRecut 15 = .ok (.iload_n 2, 1) := by decide +kernel
theorem dX2_mayRecut_16 : decode cX2_mayRecut 16 = .ok (.invokevirtual 77, 3) := by decide +kernel
theorem dX2_mayRecut_19 : decode cX2_mayRecut 19 = .ok (.ifCond .eq 65, 3) := by decide +kernel
theorem dX2_mayRecut_22 : decode cX2_mayRecut 22 = .ok (.aload_n 0, 1) := by decide +kernel
theorem dX2_mayRecut_23 : decode cX2_mayRecut 23 = .ok (.getfield 14, 3) := by decide +kernel
theorem dX2_mayRecut_26 : decode cX2_mayRecut 26 = .ok (.iload_n 3, 1) := by decide +kernel
theorem dX2_mayRecut_27 : decode cX2_mayRecut 27 = .ok (.invokevirtual 77, 3) := by decide +kernel
theorem dX2_mayRecut_30 : decode cX2_mayRecut 30 = .ok (.ifCond .eq 54, 3) := by decide +kernel
theorem dX2_mayRecut_33 : decode cX2_mayRecut 33 = .ok (.aload_n 0, 1) := by decide +kernel
theorem dX2_mayRecut_34 : decode cX2_mayRecut 34 = .ok (.getfield 23, 3) := by decide +kernel
theorem dX2_mayRecut_37 : decode cX2_mayRecut 37 = .ok (.iload_n 2, 1) := by decide +kernel
theorem dX2_mayRecut_38 : decode cX2_mayRecut 38 = .ok (.iconst 3, 1) := by decide +kernel
theorem dX2_mayRecut_39 : decode cX2_mayRecut 39 = .ok (.invokevirtual 58, 3) := by decide +kernel
theorem dX2_mayRecut_42 : decode cX2_mayRecut 42 = .ok (.iconst 2, 1) := by decide +kernel
theorem dX2_mayRecut_43 : decode cX2_mayRecut 43 = .ok (.if_icmp .ne 41, 3) := by decide +kernel
theorem dX2_mayRecut_46 : decode cX2_mayRecut 46 = .ok (.aload_n 0, 1) := by decide +kernel
theorem dX2_mayRecut_47 : decode cX2_mayRecut 47 = .ok (.iload_n 3, 1) := by decide +kernel
theorem dX2_mayRecut_48 : decode cX2_mayRecut 48 = .ok (.aload_n 0, 1) := by decide +kernel
theorem dX2_mayRecut_49 : decode cX2_mayRecut 49 = .ok (.getfield 23, 3) := by decide +kernel
theorem dX2_mayRecut_52 : decode cX2_mayRecut 52 = .ok (.iload_n 2, 1) := by decide +kernel
theorem dX2_mayRecut_53 : decode cX2_mayRecut 53 = .ok (.iconst 0, 1) := by decide +kernel
theorem dX2_mayRecut_54 : decode cX2_mayRecut 54 = .ok (.invokevirtual 58, 3) := by decide +kernel
theorem dX2_mayRecut_57 : decode cX2_mayRecut 57 = .ok (.invokevirtual 100, 3) := by decide +kernel
theorem dX2_mayRecut_60 : decode cX2_mayRecut 60 = .ok (.ifCond .eq 24, 3) := by decide +kernel
theorem dX2_mayRecut_63 : decode cX2_mayRecut 63 = .ok (.aload_n 0, 1) := by decide +kernel
theorem dX2_mayRecut_64 : decode cX2_mayRecut 64 = .ok (.getfield 20, 3) := by decide +kernel
theorem dX2_mayRecut_67 : decode cX2_mayRecut 67 = .ok (.iload_n 1, 1) := by decide +kernel
theorem dX2_mayRecut_68 : decode cX2_mayRecut 68 = .ok (.iconst 2, 1) := by decide +kernel
theorem dX2_mayRecut_69 : decode cX2_mayRecut 69 = .ok (.invokevirtual 58, 3) := by decide +kernel
theorem dX2_mayRecut_72 : decode cX2_mayRecut 72 = .ok (.aload_n 0, 1) := by decide +kernel
theorem dX2_mayRecut_73 : decode cX2_mayRecut 73 = .ok (.iload_n 3, 1) := by decide +kernel
theorem dX2_mayRecut_74 : decode cX2_mayRecut 74 = .ok (.invokevirtual 103, 3) := by decide +kernel
theorem dX2_mayRecut_77 : decode cX2_mayRecut 77 = .ok (.if_icmp .lt 7, 3) := by decide +kernel
theorem dX2_mayRecut_80 : decode cX2_mayRecut 80 = .ok (.iconst 1, 1) := by decide +kernel
theorem dX2_mayRecut_81 : decode cX2_mayRecut 81 = .ok (.goto 4, 3) := by decide +kernel
theorem dX2_mayRecut_84 : decode cX2_mayRecut 84 = .ok (.iconst 0, 1) := by decide +kernel
theorem dX2_mayRecut_85 : decode cX2_mayRecut 85 = .ok (.ireturn, 1) := by decide +kernel
theorem dX2_recutStone_0 : decode cX2_recutStone 0 = .ok (.aload_n 0, 1) := by decide +kernel
theorem dX2_recutStone_1 : decode cX2_recutStone 1 = .ok (.getfield 14, 3) := by decide +kernel
theorem dX2_recutStone_4 : decode cX2_recutStone 4 = .ok (.aload_n 0, 1) := by decide +kernel
theorem dX2_recutStone_5 : decode cX2_recutStone 5 = .ok (.getfield 23, 3) := by decide +kernel
theorem dX2_recutStone_8 : decode cX2_recutStone 8 = .ok (.iload_n 2, 1) := by decide +kernel
theorem dX2_recutStone_9 : decode cX2_recutStone 9 = .ok (.iconst 0, 1) := by decide +kernel
theorem dX2_recutStone_10 : decode cX2_recutStone 10 = .ok (.invokevirtual 58, 3) := by decide +kernel
theorem dX2_recutStone_13 : decode cX2_recutStone 13 = .ok (.iconst 0, 1) := by decide +kernel
theorem dX2_recutStone_14 : decode cX2_recutStone 14 = .ok (.invokevirtual 58, 3) := by decide +kernel
theorem dX2_recutStone_17 : decode cX2_recutStone 17 = .ok (.aload_n 0, 1) := by decide +kernel
theorem dX2_recutStone_18 : decode cX2_recutStone 18 = .ok (.getfield 14, 3) := by decide +kernel
theorem dX2_recutStone_21 : decode cX2_recutStone 21 = .ok (.iload_n 3, 1) := by decide +kernel
theorem dX2_recutStone_22 : decode cX2_recutStone 22 = .ok (.iconst 0, 1) := by decide +kernel
theorem dX2_recutStone_23 : decode cX2_recutStone 23 = .ok (.invokevirtual 58, 3) := by decide +kernel
theorem dX2_recutStone_26 : decode cX2_recutStone 26 = .ok (.isub, 1) := by decide +kernel
theorem dX2_recutStone_27 : decode cX2_recutStone 27 = .ok (.istore 4, 2) := by decide +kernel
theorem dX2_recutStone_29 : decode cX2_recutStone 29 = .ok (.iconst 0, 1) := by decide +kernel
theorem dX2_recutStone_30 : decode cX2_recutStone 30 = .ok (.aload_n 0, 1) := by decide +kernel
theorem dX2_recutStone_31 : decode cX2_recutStone 31 = .ok (.getfield 23, 3) := by decide +kernel
theorem dX2_recutStone_34 : decode cX2_recutStone 34 = .ok (.iload_n 2, 1) := by decide +kernel
theorem dX2_recutStone_35 : decode cX2_recutStone 35 = .ok (.iconst 2, 1) := by decide +kernel
theorem dX2_recutStone_36 : decode cX2_recutStone 36 = .ok (.invokevirtual 58, 3) := by decide +kernel
theorem dX2_recutStone_39 : decode cX2_recutStone 39 = .ok (.iload 4, 2) := by decide +kernel
theorem dX2_recutStone_41 : decode cX2_recutStone 41 = .ok (.isub, 1) := by decide +kernel
theorem dX2_recutStone_42 : decode cX2_recutStone 42 = .ok (.invokestatic 62, 3) := by decide +kernel
theorem dX2_recutStone_45 : decode cX2_recutStone 45 = .ok (.istore 5, 2) := by decide +kernel
theorem dX2_recutStone_47 : decode cX2_recutStone 47 = .ok (.aload_n 0, 1) := by decide +kernel
theorem dX2_recutStone_48 : decode cX2_recutStone 48 = .ok (.getfield 20, 3) := by decide +kernel
theorem dX2_recutStone_51 : decode cX2_recutStone 51 = .ok (.iload_n 1, 1) := by decide +kernel
theorem dX2_recutStone_52 : decode cX2_recutStone 52 = .ok (.iconst 2, 1) := by decide +kernel
theorem dX2_recutStone_53 : decode cX2_recutStone 53 = .ok (.aload_n 0, 1) := by decide +kernel
theorem dX2_recutStone_54 : decode cX2_recutStone 54 = .ok (.iload_n 3, 1) := by decide +kernel
theorem dX2_recutStone_55 : decode cX2_recutStone 55 = .ok (.invokevirtual 103, 3) := by decide +kernel
theorem dX2_recutStone_58 : decode cX2_recutStone 58 = .ok (.ineg, 1) := by decide +kernel
theorem dX2_recutStone_59 : decode cX2_recutStone 59 = .ok (.invokevirtual 89, 3) := by decide +kernel
theorem dX2_recutStone_62 : decode cX2_recutStone 62 = .ok (.aload_n 0, 1) := by decide +kernel
theorem dX2_recutStone_63 : decode cX2_recutStone 63 = .ok (.getfield 23, 3) := by decide +kernel
theorem dX2_recutStone_66 : decode cX2_recutStone 66 = .ok (.iload_n 2, 1) := by decide +kernel
theorem dX2_recutStone_67 : decode cX2_recutStone 67 = .ok (.iconst 0, 1) := by decide +kernel
theorem dX2_recutStone_68 : decode cX2_recutStone 68 = .ok (.iload_n 3, 1) := by decide +kernel
theorem dX2_recutStone_69 : decode cX2_recutStone 69 = .ok (.invokevirtual 73, 3) := by decide +kernel
theorem dX2_recutStone_72 : decode cX2_recutStone 72 = .ok (.aload_n 0, 1) := by decide +kernel
theorem dX2_recutStone_73 : decode cX2_recutStone 73 = .ok (.getfield 23, 3) := by decide +kernel
theorem dX2_recutStone_76 : decode cX2_recutStone 76 = .ok (.iload_n 2, 1) := by decide +kernel
theorem dX2_recutStone_77 : decode cX2_recutStone 77 = .ok (.iconst 1, 1) := by decide +kernel
theorem dX2_recutStone_78 : decode cX2_recutStone 78 = .ok (.iload_n 1, 1) := by decide +kernel
theorem dX2_recutStone_79 : decode cX2_recutStone 79 = .ok (.invokevirtual 73, 3) := by decide +kernel
theorem dX2_recutStone_82 : decode cX2_recutStone 82 = .ok (.aload_n 0, 1) := by decide +kernel
theorem dX2_recutStone_83 : decode cX2_recutStone 83 = .ok (.getfield 23, 3) := by decide +kernel
theorem dX2_recutStone_86 : decode cX2_recutStone 86 = .ok (.iload_n 2, 1) := by decide +kernel
theorem dX2_recutStone_87 : decode cX2_recutStone 87 = .ok (.iconst 2, 1) := by decide +kernel
theorem dX2_recutStone_88 : decode cX2_recutStone 88 = .ok (.iload 5, 2) := by decide +kernel
theorem dX2_recutStone_90 : decode cX2_recutStone 90 = .ok (.invokevirtual 73, 3) := by decide +kernel
theorem dX2_recutStone_93 : decode cX2_recutStone 93 = .ok (.aload_n 0, 1) := by decide +kernel
theorem dX2_recutStone_94 : decode cX2_recutStone 94 = .ok (.getfield 23, 3) := by decide +kernel
theorem dX2_recutStone_97 : decode cX2_recutStone 97 = .ok (.iload_n 2, 1) := by decide +kernel
theorem dX2_recutStone_98 : decode cX2_recutStone 98 = .ok (.iconst 3, 1) := by decide +kernel
theorem dX2_recutStone_99 : decode cX2_recutStone 99 = .ok (.iconst 0, 1) := by decide +kernel
theorem dX2_recutStone_100 : decode cX2_recutStone 100 = .ok (.invokevirtual 73, 3) := by decide +kernel
theorem dX2_recutStone_103 : decode cX2_recutStone 103 = .ok (.aload_n 0, 1) := by decide +kernel
theorem dX2_recutStone_104 : decode cX2_recutStone 104 = .ok (.getfield 23, 3) := by decide +kernel
theorem dX2_recutStone_107 : decode cX2_recutStone 107 = .ok (.iload_n 2, 1) := by decide +kernel
theorem dX2_recutStone_108 : decode cX2_recutStone 108 = .ok (.iconst 4, 1) := by decide +kernel
theorem dX2_recutStone_109 : decode cX2_recutStone 109 = .ok (.iconst 1, 1) := by decide +kernel
theorem dX2_recutStone_110 : decode cX2_recutStone 110 = .ok (.invokevirtual 89, 3) := by decide +kernel
theorem dX2_recutStone_113 : decode cX2_recutStone 113 = .ok (.iload 5, 2) := by decide +kernel
theorem dX2_recutStone_115 : decode cX2_recutStone 115 = .ok (.ireturn, 1) := by decide +kernel
theorem dX2_mayScrap_0 : decode cX2_mayScrap 0 = .ok (.aload_n 0, 1) := by decide +kernel
theorem dX2_mayScrap_1 : decode cX2_mayScrap 1 = .ok (.getfield 23, 3) := by decide +kernel
theorem dX2_mayScrap_4 : decode cX2_mayScrap 4 = .ok (.iload_n 1, 1) := by decide +kernel
theorem dX2_mayScrap_5 : decode cX2_mayScrap 5 = .ok (.invokevirtual 77, 3) := by decide +kernel
theorem dX2_mayScrap_8 : decode cX2_mayScrap 8 = .ok (.ifCond .eq 20, 3) := by decide +kernel
theorem dX2_mayScrap_11 : decode cX2_mayScrap 11 = .ok (.aload_n 0, 1) := by decide +kernel
theorem dX2_mayScrap_12 : decode cX2_mayScrap 12 = .ok (.getfield 23, 3) := by decide +kernel
theorem dX2_mayScrap_15 : decode cX2_mayScrap 15 = .ok (.iload_n 1, 1) := by decide +kernel
theorem dX2_mayScrap_16 : decode cX2_mayScrap 16 = .ok (.iconst 3, 1) := by decide +kernel
theorem dX2_mayScrap_17 : decode cX2_mayScrap 17 = .ok (.invokevirtual 58, 3) := by decide +kernel
theorem dX2_mayScrap_20 : decode cX2_mayScrap 20 = .ok (.iconst 2, 1) := by decide +kernel
theorem dX2_mayScrap_21 : decode cX2_mayScrap 21 = .ok (.if_icmp .ne 7, 3) := by decide +kernel
theorem dX2_mayScrap_24 : decode cX2_mayScrap 24 = .ok (.iconst 1, 1) := by decide +kernel
theorem dX2_mayScrap_25 : decode cX2_mayScrap 25 = .ok (.goto 4, 3) := by decide +kernel
theorem dX2_mayScrap_28 : decode cX2_mayScrap 28 = .ok (.iconst 0, 1) := by decide +kernel
theorem dX2_mayScrap_29 : decode cX2_mayScrap 29 = .ok (.ireturn, 1) := by decide +kernel
theorem dX2_scrapStone_0 : decode cX2_scrapStone 0 = .ok (.aload_n 0, 1) := by decide +kernel
theorem dX2_scrapStone_1 : decode cX2_scrapStone 1 = .ok (.getfield 23, 3) := by decide +kernel
theorem dX2_scrapStone_4 : decode cX2_scrapStone 4 = .ok (.iload_n 1, 1) := by decide +kernel
theorem dX2_scrapStone_5 : decode cX2_scrapStone 5 = .ok (.iconst 3, 1) := by decide +kernel
theorem dX2_scrapStone_6 : decode cX2_scrapStone 6 = .ok (.iconst 4, 1) := by decide +kernel
theorem dX2_scrapStone_7 : decode cX2_scrapStone 7 = .ok (.invokevirtual 73, 3) := by decide +kernel
theorem dX2_scrapStone_10 : decode cX2_scrapStone 10 = .ok (.aload_n 0, 1) := by decide +kernel
theorem dX2_scrapStone_11 : decode cX2_scrapStone 11 = .ok (.getfield 23, 3) := by decide +kernel
theorem dX2_scrapStone_14 : decode cX2_scrapStone 14 = .ok (.iconst 3, 1) := by decide +kernel
theorem dX2_scrapStone_15 : decode cX2_scrapStone 15 = .ok (.iconst 4, 1) := by decide +kernel
theorem dX2_scrapStone_16 : decode cX2_scrapStone 16 = .ok (.invokevirtual 106, 3) := by decide +kernel
theorem dX2_scrapStone_19 : decode cX2_scrapStone 19 = .ok (.ireturn, 1) := by decide +kernel
theorem dX2_setStone_0 : decode cX2_setStone 0 = .ok (.aload_n 0, 1) := by decide +kernel
theorem dX2_setStone_1 : decode cX2_setStone 1 = .ok (.getfield 23, 3) := by decide +kernel
theorem dX2_setStone_4 : decode cX2_setStone 4 = .ok (.iload_n 1, 1) := by decide +kernel
theorem dX2_setStone_5 : decode cX2_setStone 5 = .ok (.iconst 3, 1) := by decide +kernel
theorem dX2_setStone_6 : decode cX2_setStone 6 = .ok (.iconst 3, 1) := by decide +kernel
theorem dX2_setStone_7 : decode cX2_setStone 7 = .ok (.invokevirtual 73, 3) := by decide +kernel
theorem dX2_setStone_10 : decode cX2_setStone 10 = .ok (.aload_n 0, 1) := by decide +kernel
theorem dX2_setStone_11 : decode cX2_setStone 11 = .ok (.getfield 23, 3) := by decide +kernel
theorem dX2_setStone_14 : decode cX2_setStone 14 = .ok (.iconst 0, 1) := by decide +kernel
theorem dX2_setStone_15 : decode cX2_setStone 15 = .ok (.aload_n 0, 1) := by decide +kernel
theorem dX2_setStone_16 : decode cX2_setStone 16 = .ok (.getfield 23, 3) := by decide +kernel
theorem dX2_setStone_19 : decode cX2_setStone 19 = .ok (.iload_n 1, 1) := by decide +kernel
theorem dX2_setStone_20 : decode cX2_setStone 20 = .ok (.iconst 0, 1) := by decide +kernel
theorem dX2_setStone_21 : decode cX2_setStone 21 = .ok (.invokevirtual 58, 3) := by decide +kernel
theorem dX2_setStone_24 : decode cX2_setStone 24 = .ok (.iconst 3, 1) := by decide +kernel
theorem dX2_setStone_25 : decode cX2_setStone 25 = .ok (.iconst 3, 1) := by decide +kernel
theorem dX2_setStone_26 : decode cX2_setStone 26 = .ok (.invokevirtual 54, 3) := by decide +kernel
theorem dX2_setStone_29 : decode cX2_setStone 29 = .ok (.ireturn, 1) := by decide +kernel
theorem dX2_payAll_0 : decode cX2_payAll 0 = .ok (.aload_n 0, 1) := by decide +kernel
theorem dX2_payAll_1 : decode cX2_payAll 1 = .ok (.getfield 20, 3) := by decide +kernel
theorem dX2_payAll_4 : decode cX2_payAll 4 = .ok (.iconst 3, 1) := by decide +kernel
theorem dX2_payAll_5 : decode cX2_payAll 5 = .ok (.invokevirtual 109, 3) := by decide +kernel
theorem dX2_payAll_8 : decode cX2_payAll 8 = .ok (.istore_n 1, 1) := by decide +kernel
theorem dX2_payAll_9 : decode cX2_payAll 9 = .ok (.iconst 0, 1) := by decide +kernel
theorem dX2_payAll_10 : decode cX2_payAll 10 = .ok (.istore_n 2, 1) := by decide +kernel
theorem dX2_payAll_11 : decode cX2_payAll 11 = .ok (.iload_n 2, 1) := by decide +kernel
theorem dX2_payAll_12 : decode cX2_payAll 12 = .ok (.aload_n 0, 1) := by decide +kernel
theorem dX2_payAll_13 : decode cX2_payAll 13 = .ok (.getfield 20, 3) := by decide +kernel
theorem dX2_payAll_16 : decode cX2_payAll 16 = .ok (.invokevirtual 50, 3) := by decide +kernel
theorem dX2_payAll_19 : decode cX2_payAll 19 = .ok (.if_icmp .ge 19, 3) := by decide +kernel
theorem dX2_payAll_22 : decode cX2_payAll 22 = .ok (.aload_n 0, 1) := by decide +kernel
theorem dX2_payAll_23 : decode cX2_payAll 23 = .ok (.getfield 20, 3) := by decide +kernel
theorem dX2_payAll_26 : decode cX2_payAll 26 = .ok (.iload_n 2, 1) := by decide +kernel
theorem dX2_payAll_27 : decode cX2_payAll 27 = .ok (.iconst 3, 1) := by decide +kernel
theorem dX2_payAll_28 : decode cX2_payAll 28 = .ok (.iconst 0, 1) := by decide +kernel
theorem dX2_payAll_29 : decode cX2_payAll 29 = .ok (.invokevirtual 73, 3) := by decide +kernel
theorem dX2_payAll_32 : decode cX2_payAll 32 = .ok (.iinc 2 1, 3) := by decide +kernel
theorem dX2_payAll_35 : decode cX2_payAll 35 = .ok (.goto (-24), 3) := by decide +kernel
theorem dX2_payAll_38 : decode cX2_payAll 38 = .ok (.aload_n 0, 1) := by decide +kernel
theorem dX2_payAll_39 : decode cX2_payAll 39 = .ok (.dup, 1) := by decide +kernel
theorem dX2_payAll_40 : decode cX2_payAll 40 = .ok (.getfield 40, 3) := by decide +kernel
theorem dX2_payAll_43 : decode cX2_payAll 43 = .ok (.iload_n 1, 1) := by decide +kernel
theorem dX2_payAll_44 : decode cX2_payAll 44 = .ok (.iadd, 1) := by decide +kernel
theorem dX2_payAll_45 : decode cX2_payAll 45 = .ok (.putfield 40, 3) := by decide +kernel
theorem dX2_payAll_48 : decode cX2_payAll 48 = .ok (.iload_n 1, 1) := by decide +kernel
theorem dX2_payAll_49 : decode cX2_payAll 49 = .ok (.ireturn, 1) := by decide +kernel
theorem dX2_handOutWork_0 : decode cX2_handOutWork 0 = .ok (.iconst 0, 1) := by decide +kernel
theorem dX2_handOutWork_1 : decode cX2_handOutWork 1 = .ok (.istore_n 1, 1) := by decide +kernel
theorem dX2_handOutWork_2 : decode cX2_handOutWork 2 = .ok (.iload_n 1, 1) := by decide +kernel
theorem dX2_handOutWork_3 : decode cX2_handOutWork 3 = .ok (.aload_n 0, 1) := by decide +kernel
theorem dX2_handOutWork_4 : decode cX2_handOutWork 4 = .ok (.getfield 20, 3) := by decide +kernel
theorem dX2_handOutWork_7 : decode cX2_handOutWork 7 = .ok (.invokevirtual 50, 3) := by decide +kernel
theorem dX2_handOutWork_10 : decode cX2_handOutWork 10 = .ok (.if_icmp .ge 38, 3) := by decide +kernel
theorem dX2_handOutWork_13 : decode cX2_handOutWork 13 = .ok (.aload_n 0, 1) := by decide +kernel
theorem dX2_handOutWork_14 : decode cX2_handOutWork 14 = .ok (.getfield 20, 3) := by decide +kernel
theorem dX2_handOutWork_17 : decode cX2_handOutWork 17 = .ok (.iload_n 1, 1) := by decide +kernel
theorem dX2_handOutWork_18 : decode cX2_handOutWork 18 = .ok (.iconst 2, 1) := by decide +kernel
theorem dX2_handOutWork_19 : decode cX2_handOutWork 19 = .ok (.aload_n 0, 1) := by decide +kernel
theorem dX2_handOutWork_20 : decode cX2_handOutWork 20 = .ok (.getfield 36, 3) := by decide +kernel
theorem dX2_handOutWork_23 : decode cX2_handOutWork 23 = .ok (.ifCond .eq 7, 3) := by decide +kernel
theorem dX2_handOutWork_26 : decode cX2_handOutWork 26 = .ok (.iconst 0, 1) := by decide +kernel
theorem dX2_handOutWork_27 : decode cX2_handOutWork 27 = .ok (.goto 12, 3) := by decide +kernel
theorem dX2_handOutWork_30 : decode cX2_handOutWork 30 = .ok (.aload_n 0, 1) := by decide +kernel
theorem dX2_handOutWork_31 : decode cX2_handOutWork 31 = .ok (.getfield 20, 3) := by decide +kernel
theorem dX2_handOutWork_34 : decode cX2_handOutWork 34 = .ok (.iload_n 1, 1) := by decide +kernel
theorem dX2_handOutWork_35 : decode cX2_handOutWork 35 = .ok (.iconst 1, 1) := by decide +kernel
theorem dX2_handOutWork_36 : decode cX2_handOutWork 36 = .ok (.invokevirtual 58, 3) := by decide +kernel
theorem dX2_handOutWork_39 : decode cX2_handOutWork 39 = .ok (.invokevirtual 73, 3) := by decide +kernel
theorem dX2_handOutWork_42 : decode cX2_handOutWork 42 = .ok (.iinc 1 1, 3) := by decide +kernel
theorem dX2_handOutWork_45 : decode cX2_handOutWork 45 = .ok (.goto (-43), 3) := by decide +kernel
theorem dX2_handOutWork_48 : decode cX2_handOutWork 48 = .ok (.return_, 1) := by decide +kernel
theorem dX2_beginDay_0 : decode cX2_beginDay 0 = .ok (.aload_n 0, 1) := by decide +kernel
theorem dX2_beginDay_1 : decode cX2_beginDay 1 = .ok (.dup, 1) := by decide +kernel
theorem dX2_beginDay_2 : decode cX2_beginDay 2 = .ok (.getfield 33, 3) := by decide +kernel
theorem dX2_beginDay_5 : decode cX2_beginDay 5 = .ok (.iconst 1, 1) := by decide +kernel
theorem dX2_beginDay_6 : decode cX2_beginDay 6 = .ok (.iadd, 1) := by decide +kernel
theorem dX2_beginDay_7 : decode cX2_beginDay 7 = .ok (.putfield 33, 3) := by decide +kernel
theorem dX2_beginDay_10 : decode cX2_beginDay 10 = .ok (.aload_n 0, 1) := by decide +kernel
theorem dX2_beginDay_11 : decode cX2_beginDay 11 = .ok (.iload_n 1, 1) := by decide +kernel
theorem dX2_beginDay_12 : decode cX2_beginDay 12 = .ok (.putfield 36, 3) := by decide +kernel
theorem dX2_beginDay_15 : decode cX2_beginDay 15 = .ok (.aload_n 0, 1) := by decide +kernel
theorem dX2_beginDay_16 : decode cX2_beginDay 16 = .ok (.invokevirtual 112, 3) := by decide +kernel
theorem dX2_beginDay_19 : decode cX2_beginDay 19 = .ok (.iload_n 1, 1) := by decide +kernel
theorem dX2_beginDay_20 : decode cX2_beginDay 20 = .ok (.ifCond .eq 52, 3) := by decide +kernel
theorem dX2_beginDay_23 : decode cX2_beginDay 23 = .ok (.aload_n 0, 1) := by decide +kernel
theorem dX2_beginDay_24 : decode cX2_beginDay 24 = .ok (.dup, 1) := by decide +kernel
theorem dX2_beginDay_25 : decode cX2_beginDay 25 = .ok (.getfield 43, 3) := by decide +kernel
theorem dX2_beginDay_28 : decode cX2_beginDay 28 = .ok (.iconst 1, 1) := by decide +kernel
theorem dX2_beginDay_29 : decode cX2_beginDay 29 = .ok (.iadd, 1) := by decide +kernel
theorem dX2_beginDay_30 : decode cX2_beginDay 30 = .ok (.putfield 43, 3) := by decide +kernel
theorem dX2_beginDay_33 : decode cX2_beginDay 33 = .ok (.iconst 0, 1) := by decide +kernel
theorem dX2_beginDay_34 : decode cX2_beginDay 34 = .ok (.istore_n 2, 1) := by decide +kernel
theorem dX2_beginDay_35 : decode cX2_beginDay 35 = .ok (.iload_n 2, 1) := by decide +kernel
theorem dX2_beginDay_36 : decode cX2_beginDay 36 = .ok (.aload_n 0, 1) := by decide +kernel
theorem dX2_beginDay_37 : decode cX2_beginDay 37 = .ok (.getfield 20, 3) := by decide +kernel
theorem dX2_beginDay_40 : decode cX2_beginDay 40 = .ok (.invokevirtual 50, 3) := by decide +kernel
theorem dX2_beginDay_43 : decode cX2_beginDay 43 = .ok (.if_icmp .ge 29, 3) := by decide +kernel
theorem dX2_beginDay_46 : decode cX2_beginDay 46 = .ok (.aload_n 0, 1) := by decide +kernel
theorem dX2_beginDay_47 : decode cX2_beginDay 47 = .ok (.getfield 20, 3) := by decide +kernel
theorem dX2_beginDay_50 : decode cX2_beginDay 50 = .ok (.iload_n 2, 1) := by decide +kernel
theorem dX2_beginDay_51 : decode cX2_beginDay 51 = .ok (.iconst 3, 1) := by decide +kernel
theorem dX2_beginDay_52 : decode cX2_beginDay 52 = .ok (.iconst 2, 1) := by decide +kernel
theorem dX2_beginDay_53 : decode cX2_beginDay 53 = .ok (.aload_n 0, 1) := by decide +kernel
theorem dX2_beginDay_54 : decode cX2_beginDay 54 = .ok (.getfield 20, 3) := by decide +kernel
theorem dX2_beginDay_57 : decode cX2_beginDay 57 = .ok (.iload_n 2, 1) := by decide +kernel
theorem dX2_beginDay_58 : decode cX2_beginDay 58 = .ok (.iconst 0, 1) := by decide +kernel
theorem dX2_beginDay_59 : decode cX2_beginDay 59 = .ok (.invokevirtual 58, 3) := by decide +kernel
theorem dX2_beginDay_62 : decode cX2_beginDay 62 = .ok (.imul, 1) := by decide +kernel
theorem dX2_beginDay_63 : decode cX2_beginDay 63 = .ok (.invokevirtual 89, 3) := by decide +kernel
theorem dX2_beginDay_66 : decode cX2_beginDay 66 = .ok (.iinc 2 1, 3) := by decide +kernel
theorem dX2_beginDay_69 : decode cX2_beginDay 69 = .ok (.goto (-34), 3) := by decide +kernel
theorem dX2_beginDay_72 : decode cX2_beginDay 72 = .ok (.aload_n 0, 1) := by decide +kernel
theorem dX2_beginDay_73 : decode cX2_beginDay 73 = .ok (.getfield 33, 3) := by decide +kernel
theorem dX2_beginDay_76 : decode cX2_beginDay 76 = .ok (.ireturn, 1) := by decide +kernel
theorem dX2_courseForRecut_0 : decode cX2_courseForRecut 0 = .ok (.aload_n 0, 1) := by decide +kernel
theorem dX2_courseForRecut_1 : decode cX2_courseForRecut 1 = .ok (.getfield 23, 3) := by decide +kernel
theorem dX2_courseForRecut_4 : decode cX2_courseForRecut 4 = .ok (.iload_n 1, 1) := by decide +kernel
theorem dX2_courseForRecut_5 : decode cX2_courseForRecut 5 = .ok (.iconst 3, 1) := by decide +kernel
theorem dX2_courseForRecut_6 : decode cX2_courseForRecut 6 = .ok (.invokevirtual 58, 3) := by decide +kernel
theorem dX2_courseForRecut_9 : decode cX2_courseForRecut 9 = .ok (.iconst 2, 1) := by decide +kernel
theorem dX2_courseForRecut_10 : decode cX2_courseForRecut 10 = .ok (.if_icmp .eq 6, 3) := by decide +kernel
theorem dX2_courseForRecut_13 : decode cX2_courseForRecut 13 = .ok (.bipush (-9), 2) := by decide +kernel
theorem dX2_courseForRecut_15 : decode cX2_courseForRecut 15 = .ok (.ireturn, 1) := by decide +kernel
theorem dX2_courseForRecut_16 : decode cX2_courseForRecut 16 = .ok (.aload_n 0, 1) := by decide +kernel
theorem dX2_courseForRecut_17 : decode cX2_courseForRecut 17 = .ok (.getfield 23, 3) := by decide +kernel
theorem dX2_courseForRecut_20 : decode cX2_courseForRecut 20 = .ok (.iload_n 1, 1) := by decide +kernel
theorem dX2_courseForRecut_21 : decode cX2_courseForRecut 21 = .ok (.iconst 0, 1) := by decide +kernel
theorem dX2_courseForRecut_22 : decode cX2_courseForRecut 22 = .ok (.invokevirtual 58, 3) := by decide +kernel
theorem dX2_courseForRecut_25 : decode cX2_courseForRecut 25 = .ok (.istore_n 2, 1) := by decide +kernel
theorem dX2_courseForRecut_26 : decode cX2_courseForRecut 26 = .ok (.bipush (-9), 2) := by decide +kernel
theorem dX2_courseForRecut_28 : decode cX2_courseForRecut 28 = .ok (.istore_n 3, 1) := by decide +kernel
theorem dX2_courseForRecut_29 : decode cX2_courseForRecut 29 = .ok (.iconst 0, 1) := by decide +kernel
theorem dX2_courseForRecut_30 : decode cX2_courseForRecut 30 = .ok (.istore 4, 2) := by decide +kernel
theorem dX2_courseForRecut_32 : decode cX2_courseForRecut 32 = .ok (.iload 4, 2) := by decide +kernel
theorem dX2_courseForRecut_34 : decode cX2_courseForRecut 34 = .ok (.aload_n 0, 1) := by decide +kernel
theorem dX2_courseForRecut_35 : decode cX2_courseForRecut 35 = .ok (.getfield 14, 3) := by decide +kernel
theorem dX2_courseForRecut_38 : decode cX2_courseForRecut 38 = .ok (.invokevirtual 50, 3) := by decide +kernel
theorem dX2_courseForRecut_41 : decode cX2_courseForRecut 41 = .ok (.if_icmp .ge 47, 3) := by decide +kernel
theorem dX2_courseForRecut_44 : decode cX2_courseForRecut 44 = .ok (.aload_n 0, 1) := by decide +kernel
theorem dX2_courseForRecut_45 : decode cX2_courseForRecut 45 = .ok (.iload 4, 2) := by decide +kernel
theorem dX2_courseForRecut_47 : decode cX2_courseForRecut 47 = .ok (.iload_n 2, 1) := by decide +kernel
theorem dX2_courseForRecut_48 : decode cX2_courseForRecut 48 = .ok (.invokevirtual 100, 3) := by decide +kernel
theorem dX2_courseForRecut_51 : decode cX2_courseForRecut 51 = .ok (.ifCond .eq 31, 3) := by decide +kernel
theorem dX2_courseForRecut_54 : decode cX2_courseForRecut 54 = .ok (.aload_n 0, 1) := by decide +kernel
theorem dX2_courseForRecut_55 : decode cX2_courseForRecut 55 = .ok (.iload 4, 2) := by decide +kernel
theorem dX2_courseForRecut_57 : decode cX2_courseForRecut 57 = .ok (.invokevirtual 115, 3) := by decide +kernel
theorem dX2_courseForRecut_60 : decode cX2_courseForRecut 60 = .ok (.ifCond .le 22, 3) := by decide +kernel
theorem dX2_courseForRecut_63 : decode cX2_courseForRecut 63 = .ok (.iload_n 3, 1) := by decide +kernel
theorem dX2_courseForRecut_64 : decode cX2_courseForRecut 64 = .ok (.bipush (-9), 2) := by decide +kernel
theorem dX2_courseForRecut_66 : decode cX2_courseForRecut 66 = .ok (.if_icmp .eq 13, 3) := by decide +kernel
theorem dX2_courseForRecut_69 : decode cX2_courseForRecut 69 = .ok (.aload_n 0, 1) := by decide +kernel
theorem dX2_courseForRecut_70 : decode cX2_courseForRecut 70 = .ok (.iload_n 3, 1) := by decide +kernel
theorem dX2_courseForRecut_71 : decode cX2_courseForRecut 71 = .ok (.iload 4, 2) := by decide +kernel
theorem dX2_courseForRecut_73 : decode cX2_courseForRecut 73 = .ok (.invokevirtual 100, 3) := by decide +kernel
theorem dX2_courseForRecut_76 : decode cX2_courseForRecut 76 = .ok (.ifCond .eq 6, 3) := by decide +kernel
theorem dX2_courseForRecut_79 : decode cX2_courseForRecut 79 = .ok (.iload 4, 2) := by decide +kernel
theorem dX2_courseForRecut_81 : decode cX2_courseForRecut 81 = .ok (.istore_n 3, 1) := by decide +kernel
theorem dX2_courseForRecut_82 : decode cX2_courseForRecut 82 = .ok (.iinc 4 1, 3) := by decide +kernel
theorem dX2_courseForRecut_85 : decode cX2_courseForRecut 85 = .ok (.goto (-53), 3) := by decide +kernel
theorem dX2_courseForRecut_88 : decode cX2_courseForRecut 88 = .ok (.iload_n 3, 1) := by decide +kernel
theorem dX2_courseForRecut_89 : decode cX2_courseForRecut 89 = .ok (.ireturn, 1) := by decide +kernel
theorem dX2_cheapestFor_0 : decode cX2_cheapestFor 0 = .ok (.bipush (-9), 2) := by decide +kernel
theorem dX2_cheapestFor_2 : decode cX2_cheapestFor 2 = .ok (.istore_n 2, 1) := by decide +kernel
theorem dX2_cheapestFor_3 : decode cX2_cheapestFor 3 = .ok (.iconst 0, 1) := by decide +kernel
theorem dX2_cheapestFor_4 : decode cX2_cheapestFor 4 = .ok (.istore_n 3, 1) := by decide +kernel
theorem dX2_cheapestFor_5 : decode cX2_cheapestFor 5 = .ok (.iload_n 3, 1) := by decide +kernel
theorem dX2_cheapestFor_6 : decode cX2_cheapestFor 6 = .ok (.aload_n 0, 1) := by decide +kernel
theorem dX2_cheapestFor_7 : decode cX2_cheapestFor 7 = .ok (.getfield 20, 3) := by decide +kernel
theorem dX2_cheapestFor_10 : decode cX2_cheapestFor 10 = .ok (.invokevirtual 50, 3) := by decide +kernel
theorem dX2_cheapestFor_13 : decode cX2_cheapestFor 13 = .ok (.if_icmp .ge 47, 3) := by decide +kernel
theorem dX2_cheapestFor_16 : decode cX2_cheapestFor 16 = .ok (.aload_n 0, 1) := by decide +kernel
theorem dX2_cheapestFor_17 : decode cX2_cheapestFor 17 = .ok (.iload_n 3, 1) := by decide +kernel
theorem dX2_cheapestFor_18 : decode cX2_cheapestFor 18 = .ok (.iload_n 1, 1) := by decide +kernel
theorem dX2_cheapestFor_19 : decode cX2_cheapestFor 19 = .ok (.invokevirtual 81, 3) := by decide +kernel
theorem dX2_cheapestFor_22 : decode cX2_cheapestFor 22 = .ok (.ifCond .eq 32, 3) := by decide +kernel
theorem dX2_cheapestFor_25 : decode cX2_cheapestFor 25 = .ok (.iload_n 2, 1) := by decide +kernel
theorem dX2_cheapestFor_26 : decode cX2_cheapestFor 26 = .ok (.bipush (-9), 2) := by decide +kernel
theorem dX2_cheapestFor_28 : decode cX2_cheapestFor 28 = .ok (.if_icmp .eq 24, 3) := by decide +kernel
theorem dX2_cheapestFor_31 : decode cX2_cheapestFor 31 = .ok (.aload_n 0, 1) := by decide +kernel
theorem dX2_cheapestFor_32 : decode cX2_cheapestFor 32 = .ok (.getfield 20, 3) := by decide +kernel
theorem dX2_cheapestFor_35 : decode cX2_cheapestFor 35 = .ok (.iload_n 3, 1) := by decide +kernel
theorem dX2_cheapestFor_36 : decode cX2_cheapestFor 36 = .ok (.iconst 0, 1) := by decide +kernel
theorem dX2_cheapestFor_37 : decode cX2_cheapestFor 37 = .ok (.invokevirtual 58, 3) := by decide +kernel
theorem dX2_cheapestFor_40 : decode cX2_cheapestFor 40 = .ok (.aload_n 0, 1) := by decide +kernel
theorem dX2_cheapestFor_41 : decode cX2_cheapestFor 41 = .ok (.getfield 20, 3) := by decide +kernel
theorem dX2_cheapestFor_44 : decode cX2_cheapestFor 44 = .ok (.iload_n 2, 1) := by decide +kernel
theorem dX2_cheapestFor_45 : decode cX2_cheapestFor 45 = .ok (.iconst 0, 1) := by decide +kernel
theorem dX2_cheapestFor_46 : decode cX2_cheapestFor 46 = .ok (.invokevirtual 58, 3) := by decide +kernel
theorem dX2_cheapestFor_49 : decode cX2_cheapestFor 49 = .ok (.if_icmp .ge 5, 3) := by decide +kernel
theorem dX2_cheapestFor_52 : decode cX2_cheapestFor 52 = .ok (.iload_n 3, 1) := by decide +kernel
theorem dX2_cheapestFor_53 : decode cX2_cheapestFor 53 = .ok (.istore_n 2, 1) := by decide +kernel
theorem dX2_cheapestFor_54 : decode cX2_cheapestFor 54 = .ok (.iinc 3 1, 3) := by decide +kernel
theorem dX2_cheapestFor_57 : decode cX2_cheapestFor 57 = .ok (.goto (-52), 3) := by decide +kernel
theorem dX2_cheapestFor_60 : decode cX2_cheapestFor 60 = .ok (.iload_n 2, 1) := by decide +kernel
theorem dX2_cheapestFor_61 : decode cX2_cheapestFor 61 = .ok (.ireturn, 1) := by decide +kernel
theorem dX2_smallestRate_0 : decode cX2_smallestRate 0 = .ok (.bipush 9, 2) := by decide +kernel
theorem dX2_smallestRate_2 : decode cX2_smallestRate 2 = .ok (.istore_n 1, 1) := by decide +kernel
theorem dX2_smallestRate_3 : decode cX2_smallestRate 3 = .ok (.iconst 0, 1) := by decide +kernel
theorem dX2_smallestRate_4 : decode cX2_smallestRate 4 = .ok (.istore_n 2, 1) := by decide +kernel
theorem dX2_smallestRate_5 : decode cX2_smallestRate 5 = .ok (.iload_n 2, 1) := by decide +kernel
theorem dX2_smallestRate_6 : decode cX2_smallestRate 6 = .ok (.aload_n 0, 1) := by decide +kernel
theorem dX2_smallestRate_7 : decode cX2_smallestRate 7 = .ok (.getfield 20, 3) := by decide +kernel
theorem dX2_smallestRate_10 : decode cX2_smallestRate 10 = .ok (.invokevirtual 50, 3) := by decide +kernel
theorem dX2_smallestRate_13 : decode cX2_smallestRate 13 = .ok (.if_icmp .ge 23, 3) := by decide +kernel
theorem dX2_smallestRate_16 : decode cX2_smallestRate 16 = .ok (.iload_n 1, 1) := by decide +kernel
theorem dX2_smallestRate_17 : decode cX2_smallestRate 17 = .ok (.aload_n 0, 1) := by decide +kernel
theorem dX2_smallestRate_18 : decode cX2_smallestRate 18 = .ok (.getfield 20, 3) := by decide +kernel
theorem dX2_smallestRate_21 : decode cX2_smallestRate 21 = .ok (.iload_n 2, 1) := by decide +kernel
theorem dX2_smallestRate_22 : decode cX2_smallestRate 22 = .ok (.iconst 0, 1) := by decide +kernel
theorem dX2_smallestRate_23 : decode cX2_smallestRate 23 = .ok (.invokevirtual 58, 3) := by decide +kernel
theorem dX2_smallestRate_26 : decode cX2_smallestRate 26 = .ok (.invokestatic 118, 3) := by decide +kernel
theorem dX2_smallestRate_29 : decode cX2_smallestRate 29 = .ok (.istore_n 1, 1) := by decide +kernel
theorem dX2_smallestRate_30 : decode cX2_smallestRate 30 = .ok (.iinc 2 1, 3) := by decide +kernel
theorem dX2_smallestRate_33 : decode cX2_smallestRate 33 = .ok (.goto (-28), 3) := by decide +kernel
theorem dX2_smallestRate_36 : decode cX2_smallestRate 36 = .ok (.iload_n 1, 1) := by decide +kernel
theorem dX2_smallestRate_37 : decode cX2_smallestRate 37 = .ok (.ireturn, 1) := by decide +kernel
theorem dX2_costOfLacking_0 : decode cX2_costOfLacking 0 = .ok (.iconst 0, 1) := by decide +kernel
theorem dX2_costOfLacking_1 : decode cX2_costOfLacking 1 = .ok (.istore_n 1, 1) := by decide +kernel
theorem dX2_costOfLacking_2 : decode cX2_costOfLacking 2 = .ok (.iconst 0, 1) := by decide +kernel
theorem dX2_costOfLacking_3 : decode cX2_costOfLacking 3 = .ok (.istore_n 2, 1) := by decide +kernel
theorem dX2_costOfLacking_4 : decode cX2_costOfLacking 4 = .ok (.iload_n 2, 1) := by decide +kernel
theorem dX2_costOfLacking_5 : decode cX2_costOfLacking 5 = .ok (.aload_n 0, 1) := by decide +kernel
theorem dX2_costOfLacking_6 : decode cX2_costOfLacking 6 = .ok (.getfield 14, 3) := by decide +kernel
theorem dX2_costOfLacking_9 : decode cX2_costOfLacking 9 = .ok (.invokevirtual 50, 3) := by decide +kernel
theorem dX2_costOfLacking_12 : decode cX2_costOfLacking 12 = .ok (.if_icmp .ge 27, 3) := by decide +kernel
theorem dX2_costOfLacking_15 : decode cX2_costOfLacking 15 = .ok (.iload_n 1, 1) := by decide +kernel
theorem dX2_costOfLacking_16 : decode cX2_costOfLacking 16 = .ok (.aload_n 0, 1) := by decide +kernel
theorem dX2_costOfLacking_17 : decode cX2_costOfLacking 17 = .ok (.iload_n 2, 1) := by decide +kernel
theorem dX2_costOfLacking_18 : decode cX2_costOfLacking 18 = .ok (.invokevirtual 115, 3) := by decide +kernel
theorem dX2_costOfLacking_21 : decode cX2_costOfLacking 21 = .ok (.aload_n 0, 1) := by decide +kernel
theorem dX2_costOfLacking_22 : decode cX2_costOfLacking 22 = .ok (.getfield 14, 3) := by decide +kernel
theorem dX2_costOfLacking_25 : decode cX2_costOfLacking 25 = .ok (.iload_n 2, 1) := by decide +kernel
theorem dX2_costOfLacking_26 : decode cX2_costOfLacking 26 = .ok (.iconst 1, 1) := by decide +kernel
theorem dX2_costOfLacking_27 : decode cX2_costOfLacking 27 = .ok (.invokevirtual 58, 3) := by decide +kernel
theorem dX2_costOfLacking_30 : decode cX2_costOfLacking 30 = .ok (.imul, 1) := by decide +kernel
theorem dX2_costOfLacking_31 : decode cX2_costOfLacking 31 = .ok (.iadd, 1) := by decide +kernel
theorem dX2_costOfLacking_32 : decode cX2_costOfLacking 32 = .ok (.istore_n 1, 1) := by decide +kernel
theorem dX2_costOfLacking_33 : decode cX2_costOfLacking 33 = .ok (.iinc 2 1, 3) := by decide +kernel
theorem dX2_costOfLacking_36 : decode cX2_costOfLacking 36 = .ok (.goto (-32), 3) := by decide +kernel
theorem dX2_costOfLacking_39 : decode cX2_costOfLacking 39 = .ok (.iload_n 1, 1) := by decide +kernel
theorem dX2_costOfLacking_40 : decode cX2_costOfLacking 40 = .ok (.ifCond .le 16, 3) := by decide +kernel
theorem dX2_costOfLacking_43 : decode cX2_costOfLacking 43 = .ok (.aload_n 0, 1) := by decide +kernel
theorem dX2_costOfLacking_44 : decode cX2_costOfLacking 44 = .ok (.getfield 20, 3) := by decide +kernel
theorem dX2_costOfLacking_47 : decode cX2_costOfLacking 47 = .ok (.invokevirtual 50, 3) := by decide +kernel
theorem dX2_costOfLacking_50 : decode cX2_costOfLacking 50 = .ok (.ifCond .ne 6, 3) := by decide +kernel
theorem dX2_costOfLacking_53 : decode cX2_costOfLacking 53 = .ok (.bipush (-9), 2) := by decide +kernel
theorem dX2_costOfLacking_55 : decode cX2_costOfLacking 55 = .ok (.ireturn, 1) := by decide +kernel
theorem dX2_costOfLacking_56 : decode cX2_costOfLacking 56 = .ok (.iload_n 1, 1) := by decide +kernel
theorem dX2_costOfLacking_57 : decode cX2_costOfLacking 57 = .ok (.aload_n 0, 1) := by decide +kernel
theorem dX2_costOfLacking_58 : decode cX2_costOfLacking 58 = .ok (.invokevirtual 121, 3) := by decide +kernel
theorem dX2_costOfLacking_61 : decode cX2_costOfLacking 61 = .ok (.imul, 1) := by decide +kernel
theorem dX2_costOfLacking_62 : decode cX2_costOfLacking 62 = .ok (.ireturn, 1) := by decide +kernel
theorem dX2_settable_0 : decode cX2_settable 0 = .ok (.aload_n 0, 1) := by decide +kernel
theorem dX2_settable_1 : decode cX2_settable 1 = .ok (.getfield 36, 3) := by decide +kernel
theorem dX2_settable_4 : decode cX2_settable 4 = .ok (.ifCond .eq 5, 3) := by decide +kernel
theorem dX2_settable_7 : decode cX2_settable 7 = .ok (.iconst 0, 1) := by decide +kernel
theorem dX2_settable_8 : decode cX2_settable 8 = .ok (.ireturn, 1) := by decide +kernel
theorem dX2_settable_9 : decode cX2_settable 9 = .ok (.iconst 0, 1) := by decide +kernel
theorem dX2_settable_10 : decode cX2_settable 10 = .ok (.istore_n 1, 1) := by decide +kernel
theorem dX2_settable_11 : decode cX2_settable 11 = .ok (.iconst 0, 1) := by decide +kernel
theorem dX2_settable_12 : decode cX2_settable 12 = .ok (.istore_n 2, 1) := by decide +kernel
theorem dX2_settable_13 : decode cX2_settable 13 = .ok (.iload_n 2, 1) := by decide +kernel
theorem dX2_settable_14 : decode cX2_settable 14 = .ok (.aload_n 0, 1) := by decide +kernel
theorem dX2_settable_15 : decode cX2_settable 15 = .ok (.getfield 14, 3) := by decide +kernel
theorem dX2_settable_18 : decode cX2_settable 18 = .ok (.invokevirtual 50, 3) := by decide +kernel
theorem dX2_settable_21 : decode cX2_settable 21 = .ok (.if_icmp .ge 61, 3) := by decide +kernel
theorem dX2_settable_24 : decode cX2_settable 24 = .ok (.aload_n 0, 1) := by decide +kernel
theorem dX2_settable_25 : decode cX2_settable 25 = .ok (.getfield 14, 3) := by decide +kernel
theorem dX2_settable_28 : decode cX2_settable 28 = .ok (.iload_n 2, 1) := by decide +kernel
theorem dX2_settable_29 : decode cX2_settable 29 = .ok (.iconst 2, 1) := by decide +kernel
theorem dX2_settable_30 : decode cX2_settable 30 = .ok (.invokevirtual 58, 3) := by decide +kernel
theorem dX2_settable_33 : decode cX2_settable 33 = .ok (.aload_n 0, 1) := by decide +kernel
theorem dX2_settable_34 : decode cX2_settable 34 = .ok (.getfield 23, 3) := by decide +kernel
theorem dX2_settable_37 : decode cX2_settable 37 = .ok (.iconst 0, 1) := by decide +kernel
theorem dX2_settable_38 : decode cX2_settable 38 = .ok (.iload_n 2, 1) := by decide +kernel
theorem dX2_settable_39 : decode cX2_settable 39 = .ok (.iconst 3, 1) := by decide +kernel
theorem dX2_settable_40 : decode cX2_settable 40 = .ok (.iconst 3, 1) := by decide +kernel
theorem dX2_settable_41 : decode cX2_settable 41 = .ok (.invokevirtual 54, 3) := by decide +kernel
theorem dX2_settable_44 : decode cX2_settable 44 = .ok (.isub, 1) := by decide +kernel
theorem dX2_settable_45 : decode cX2_settable 45 = .ok (.istore_n 3, 1) := by decide +kernel
theorem dX2_settable_46 : decode cX2_settable 46 = .ok (.aload_n 0, 1) := by decide +kernel
theorem dX2_settable_47 : decode cX2_settable 47 = .ok (.getfield 23, 3) := by decide +kernel
theorem dX2_settable_50 : decode cX2_settable 50 = .ok (.iconst 0, 1) := by decide +kernel
theorem dX2_settable_51 : decode cX2_settable 51 = .ok (.iload_n 2, 1) := by decide +kernel
theorem dX2_settable_52 : decode cX2_settable 52 = .ok (.iconst 3, 1) := by decide +kernel
theorem dX2_settable_53 : decode cX2_settable 53 = .ok (.iconst 1, 1) := by decide +kernel
theorem dX2_settable_54 : decode cX2_settable 54 = .ok (.invokevirtual 54, 3) := by decide +kernel
theorem dX2_settable_57 : decode cX2_settable 57 = .ok (.istore 4, 2) := by decide +kernel
theorem dX2_settable_59 : decode cX2_settable 59 = .ok (.iload_n 1, 1) := by decide +kernel
theorem dX2_settable_60 : decode cX2_settable 60 = .ok (.iload_n 3, 1) := by decide +kernel
theorem dX2_settable_61 : decode cX2_settable 61 = .ok (.iload 4, 2) := by decide +kernel
theorem dX2_settable_63 : decode cX2_settable 63 = .ok (.invokestatic 118, 3) := by decide +kernel
theorem dX2_settable_66 : decode cX2_settable 66 = .ok (.iadd, 1) := by decide +kernel
theorem dX2_settable_67 : decode cX2_settable 67 = .ok (.istore_n 1, 1) := by decide +kernel
theorem dX2_settable_68 : decode cX2_settable 68 = .ok (.iload 4, 2) := by decide +kernel
theorem dX2_settable_70 : decode cX2_settable 70 = .ok (.iload_n 3, 1) := by decide +kernel
theorem dX2_settable_71 : decode cX2_settable 71 = .ok (.if_icmp .ge 5, 3) := by decide +kernel
theorem dX2_settable_74 : decode cX2_settable 74 = .ok (.iload_n 1, 1) := by decide +kernel
theorem dX2_settable_75 : decode cX2_settable 75 = .ok (.ireturn, 1) := by decide +kernel
theorem dX2_settable_76 : decode cX2_settable 76 = .ok (.iinc 2 1, 3) := by decide +kernel
theorem dX2_settable_79 : decode cX2_settable 79 = .ok (.goto (-66), 3) := by decide +kernel
theorem dX2_settable_82 : decode cX2_settable 82 = .ok (.iload_n 1, 1) := by decide +kernel
theorem dX2_settable_83 : decode cX2_settable 83 = .ok (.ireturn, 1) := by decide +kernel
theorem dX2_earnings_0 : decode cX2_earnings 0 = .ok (.iconst 0, 1) := by decide +kernel
theorem dX2_earnings_1 : decode cX2_earnings 1 = .ok (.istore_n 2, 1) := by decide +kernel
theorem dX2_earnings_2 : decode cX2_earnings 2 = .ok (.iconst 0, 1) := by decide +kernel
theorem dX2_earnings_3 : decode cX2_earnings 3 = .ok (.istore_n 3, 1) := by decide +kernel
theorem dX2_earnings_4 : decode cX2_earnings 4 = .ok (.iload_n 3, 1) := by decide +kernel
theorem dX2_earnings_5 : decode cX2_earnings 5 = .ok (.aload_n 0, 1) := by decide +kernel
theorem dX2_earnings_6 : decode cX2_earnings 6 = .ok (.getfield 23, 3) := by decide +kernel
theorem dX2_earnings_9 : decode cX2_earnings 9 = .ok (.invokevirtual 50, 3) := by decide +kernel
theorem dX2_earnings_12 : decode cX2_earnings 12 = .ok (.if_icmp .ge 42, 3) := by decide +kernel
theorem dX2_earnings_15 : decode cX2_earnings 15 = .ok (.aload_n 0, 1) := by decide +kernel
theorem dX2_earnings_16 : decode cX2_earnings 16 = .ok (.getfield 23, 3) := by decide +kernel
theorem dX2_earnings_19 : decode cX2_earnings 19 = .ok (.iload_n 3, 1) := by decide +kernel
theorem dX2_earnings_20 : decode cX2_earnings 20 = .ok (.iconst 3, 1) := by decide +kernel
theorem dX2_earnings_21 : decode cX2_earnings 21 = .ok (.invokevirtual 58, 3) := by decide +kernel
theorem dX2_earnings_24 : decode cX2_earnings 24 = .ok (.ifCond .ne 24, 3) := by decide +kernel
theorem dX2_earnings_27 : decode cX2_earnings 27 = .ok (.aload_n 0, 1) := by decide +kernel
theorem dX2_earnings_28 : decode cX2_earnings 28 = .ok (.getfield 23, 3) := by decide +kernel
theorem dX2_earnings_31 : decode cX2_earnings 31 = .ok (.iload_n 3, 1) := by decide +kernel
theorem dX2_earnings_32 : decode cX2_earnings 32 = .ok (.iconst 2, 1) := by decide +kernel
theorem dX2_earnings_33 : decode cX2_earnings 33 = .ok (.invokevirtual 58, 3) := by decide +kernel
theorem dX2_earnings_36 : decode cX2_earnings 36 = .ok (.iload_n 1, 1) := by decide +kernel
theorem dX2_earnings_37 : decode cX2_earnings 37 = .ok (.if_icmp .gt 11, 3) := by decide +kernel
theorem dX2_earnings_40 : decode cX2_earnings 40 = .ok (.iload_n 2, 1) := by decide +kernel
theorem dX2_earnings_41 : decode cX2_earnings 41 = .ok (.aload_n 0, 1) := by decide +kernel
theorem dX2_earnings_42 : decode cX2_earnings 42 = .ok (.iload_n 3, 1) := by decide +kernel
theorem dX2_earnings_43 : decode cX2_earnings 43 = .ok (.invokevirtual 96, 3) := by decide +kernel
theorem dX2_earnings_46 : decode cX2_earnings 46 = .ok (.iadd, 1) := by decide +kernel
theorem dX2_earnings_47 : decode cX2_earnings 47 = .ok (.istore_n 2, 1) := by decide +kernel
theorem dX2_earnings_48 : decode cX2_earnings 48 = .ok (.iinc 3 1, 3) := by decide +kernel
theorem dX2_earnings_51 : decode cX2_earnings 51 = .ok (.goto (-47), 3) := by decide +kernel
theorem dX2_earnings_54 : decode cX2_earnings 54 = .ok (.iload_n 2, 1) := by decide +kernel
theorem dX2_earnings_55 : decode cX2_earnings 55 = .ok (.ireturn, 1) := by decide +kernel
theorem dX2_worstMason_0 : decode cX2_worstMason 0 = .ok (.bipush (-9), 2) := by decide +kernel
theorem dX2_worstMason_2 : decode cX2_worstMason 2 = .ok (.istore_n 1, 1) := by decide +kernel
theorem dX2_worstMason_3 : decode cX2_worstMason 3 = .ok (.iconst 0, 1) := by decide +kernel
theorem dX2_worstMason_4 : decode cX2_worstMason 4 = .ok (.istore_n 2, 1) := by decide +kernel
theorem dX2_worstMason_5 : decode cX2_worstMason 5 = .ok (.iconst 0, 1) := by decide +kernel
theorem dX2_worstMason_6 : decode cX2_worstMason 6 = .ok (.istore_n 3, 1) := by decide +kernel
theorem dX2_worstMason_7 : decode cX2_worstMason 7 = .ok (.iload_n 3, 1) := by decide +kernel
theorem dX2_worstMason_8 : decode cX2_worstMason 8 = .ok (.aload_n 0, 1) := by decide +kernel
theorem dX2_worstMason_9 : decode cX2_worstMason 9 = .ok (.getfield 20, 3) := by decide +kernel
theorem dX2_worstMason_12 : decode cX2_worstMason 12 = .ok (.invokevirtual 50, 3) := by decide +kernel
theorem dX2_worstMason_15 : decode cX2_worstMason 15 = .ok (.if_icmp .ge 27, 3) := by decide +kernel
theorem dX2_worstMason_18 : decode cX2_worstMason 18 = .ok (.aload_n 0, 1) := by decide +kernel
theorem dX2_worstMason_19 : decode cX2_worstMason 19 = .ok (.iload_n 3, 1) := by decide +kernel
theorem dX2_worstMason_20 : decode cX2_worstMason 20 = .ok (.invokevirtual 124, 3) := by decide +kernel
theorem dX2_worstMason_23 : decode cX2_worstMason 23 = .ok (.istore 4, 2) := by decide +kernel
theorem dX2_worstMason_25 : decode cX2_worstMason 25 = .ok (.iload 4, 2) := by decide +kernel
theorem dX2_worstMason_27 : decode cX2_worstMason 27 = .ok (.iload_n 2, 1) := by decide +kernel
theorem dX2_worstMason_28 : decode cX2_worstMason 28 = .ok (.if_icmp .le 8, 3) := by decide +kernel
theorem dX2_worstMason_31 : decode cX2_worstMason 31 = .ok (.iload 4, 2) := by decide +kernel
theorem dX2_worstMason_33 : decode cX2_worstMason 33 = .ok (.istore_n 2, 1) := by decide +kernel
theorem dX2_worstMason_34 : decode cX2_worstMason 34 = .ok (.iload_n 3, 1) := by decide +kernel
theorem dX2_worstMason_35 : decode cX2_worstMason 35 = .ok (.istore_n 1, 1) := by decide +kernel
theorem dX2_worstMason_36 : decode cX2_worstMason 36 = .ok (.iinc 3 1, 3) := by decide +kernel
theorem dX2_worstMason_39 : decode cX2_worstMason 39 = .ok (.goto (-32), 3) := by decide +kernel
theorem dX2_worstMason_42 : decode cX2_worstMason 42 = .ok (.iload_n 1, 1) := by decide +kernel
theorem dX2_worstMason_43 : decode cX2_worstMason 43 = .ok (.ireturn, 1) := by decide +kernel
theorem dX3_init_0 : decode cX3_init 0 = .ok (.aload_n 0, 1) := by decide +kernel
theorem dX3_init_1 : decode cX3_init 1 = .ok (.invokespecial 3, 3) := by decide +kernel
theorem dX3_init_4 : decode cX3_init 4 = .ok (.aload_n 0, 1) := by decide +kernel
theorem dX3_init_5 : decode cX3_init 5 = .ok (.bipush 14, 2) := by decide +kernel
theorem dX3_init_7 : decode cX3_init 7 = .ok (.anewarray 9, 3) := by decide +kernel
theorem dX3_init_10 : decode cX3_init 10 = .ok (.putfield 11, 3) := by decide +kernel
theorem dX3_init_13 : decode cX3_init 13 = .ok (.iconst 0, 1) := by decide +kernel
theorem dX3_init_14 : decode cX3_init 14 = .ok (.istore_n 1, 1) := by decide +kernel
theorem dX3_init_15 : decode cX3_init 15 = .ok (.iload_n 1, 1) := by decide +kernel
theorem dX3_init_16 : decode cX3_init 16 = .ok (.aload_n 0, 1) := by decide +kernel
theorem dX3_init_17 : decode cX3_init 17 = .ok (.getfield 11, 3) := by decide +kernel
theorem dX3_init_20 : decode cX3_init 20 = .ok (.arraylength, 1) := by decide +kernel
theorem dX3_init_21 : decode cX3_init 21 = .ok (.if_icmp .ge 22, 3) := by decide +kernel
theorem dX3_init_24 : decode cX3_init 24 = .ok (.aload_n 0, 1) := by decide +kernel
theorem dX3_init_25 : decode cX3_init 25 = .ok (.getfield 11, 3) := by decide +kernel
theorem dX3_init_28 : decode cX3_init 28 = .ok (.iload_n 1, 1) := by decide +kernel
theorem dX3_init_29 : decode cX3_init 29 = .ok (.new 9, 3) := by decide +kernel
theorem dX3_init_32 : decode cX3_init 32 = .ok (.dup, 1) := by decide +kernel
theorem dX3_init_33 : decode cX3_init 33 = .ok (.invokespecial 17, 3) := by decide +kernel
theorem dX3_init_36 : decode cX3_init 36 = .ok (.aastore, 1) := by decide +kernel
theorem dX3_init_37 : decode cX3_init 37 = .ok (.iinc 1 1, 3) := by decide +kernel
theorem dX3_init_40 : decode cX3_init 40 = .ok (.goto (-25), 3) := by decide +kernel
theorem dX3_init_43 : decode cX3_init 43 = .ok (.return_, 1) := by decide +kernel
theorem dX3_isEmpty_0 : decode cX3_isEmpty 0 = .ok (.aload_n 0, 1) := by decide +kernel
theorem dX3_isEmpty_1 : decode cX3_isEmpty 1 = .ok (.getfield 18, 3) := by decide +kernel
theorem dX3_isEmpty_4 : decode cX3_isEmpty 4 = .ok (.ifCond .ne 7, 3) := by decide +kernel
theorem dX3_isEmpty_7 : decode cX3_isEmpty 7 = .ok (.iconst 1, 1) := by decide +kernel
theorem dX3_isEmpty_8 : decode cX3_isEmpty 8 = .ok (.goto 4, 3) := by decide +kernel
theorem dX3_isEmpty_11 : decode cX3_isEmpty 11 = .ok (.iconst 0, 1) := by decide +kernel
theorem dX3_isEmpty_12 : decode cX3_isEmpty 12 = .ok (.ireturn, 1) := by decide +kernel
theorem dX3_forgetAll_0 : decode cX3_forgetAll 0 = .ok (.aload_n 0, 1) := by decide +kernel
theorem dX3_forgetAll_1 : decode cX3_forgetAll 1 = .ok (.iconst 0, 1) := by decide +kernel
theorem dX3_forgetAll_2 : decode cX3_forgetAll 2 = .ok (.putfield 18, 3) := by decide +kernel
theorem dX3_forgetAll_5 : decode cX3_forgetAll 5 = .ok (.return_, 1) := by decide +kernel
theorem dX3_remember_0 : decode cX3_remember 0 = .ok (.aload_n 0, 1) := by decide +kernel
theorem dX3_remember_1 : decode cX3_remember 1 = .ok (.getfield 22, 3) := by decide +kernel
theorem dX3_remember_4 : decode cX3_remember 4 = .ok (.ifCond .lt 28, 3) := by decide +kernel
theorem dX3_remember_7 : decode cX3_remember 7 = .ok (.aload_n 0, 1) := by decide +kernel
theorem dX3_remember_8 : decode cX3_remember 8 = .ok (.getfield 22, 3) := by decide +kernel
theorem dX3_remember_11 : decode cX3_remember 11 = .ok (.aload_n 0, 1) := by decide +kernel
theorem dX3_remember_12 : decode cX3_remember 12 = .ok (.getfield 11, 3) := by decide +kernel
theorem dX3_remember_15 : decode cX3_remember 15 = .ok (.arraylength, 1) := by decide +kernel
theorem dX3_remember_16 : decode cX3_remember 16 = .ok (.if_icmp .ge 16, 3) := by decide +kernel
theorem dX3_remember_19 : decode cX3_remember 19 = .ok (.aload_n 1, 1) := by decide +kernel
theorem dX3_remember_20 : decode cX3_remember 20 = .ok (.aload_n 0, 1) := by decide +kernel
theorem dX3_remember_21 : decode cX3_remember 21 = .ok (.getfield 11, 3) := by decide +kernel
theorem dX3_remember_24 : decode cX3_remember 24 = .ok (.aload_n 0, 1) := by decide +kernel
theorem dX3_remember_25 : decode cX3_remember 25 = .ok (.getfield 22, 3) := by decide +kernel
theorem dX3_remember_28 : decode cX3_remember 28 = .ok (.aaload, 1) := by decide +kernel
theorem dX3_remember_29 : decode cX3_remember 29 = .ok (.invokestatic 25, 3) := by decide +kernel
theorem dX3_remember_32 : decode cX3_remember 32 = .ok (.aload_n 0, 1) := by decide +kernel
theorem dX3_remember_33 : decode cX3_remember 33 = .ok (.aload_n 0, 1) := by decide +kernel
theorem dX3_remember_34 : decode cX3_remember 34 = .ok (.getfield 22, 3) := by decide +kernel
theorem dX3_remember_37 : decode cX3_remember 37 = .ok (.iconst 1, 1) := by decide +kernel
theorem dX3_remember_38 : decode cX3_remember 38 = .ok (.iadd, 1) := by decide +kernel
theorem dX3_remember_39 : decode cX3_remember 39 = .ok (.bipush 14, 2) := by decide +kernel
theorem dX3_remember_41 : decode cX3_remember 41 = .ok (.if_icmp .ge 12, 3) := by decide +kernel
theorem dX3_remember_44 : decode cX3_remember 44 = .ok (.aload_n 0, 1) := by decide +kernel
theorem dX3_remember_45 : decode cX3_remember 45 = .ok (.getfield 22, 3) := by decide +kernel
theorem dX3_remember_48 : decode cX3_remember 48 = .ok (.iconst 1, 1) := by decide +kernel
theorem dX3_remember_49 : decode cX3_remember 49 = .ok (.iadd, 1) := by decide +kernel
theorem dX3_remember_50 : decode cX3_remember 50 = .ok (.goto 4, 3) := by decide +kernel
theorem dX3_remember_53 : decode cX3_remember 53 = .ok (.iconst 0, 1) := by decide +kernel
theorem dX3_remember_54 : decode cX3_remember 54 = .ok (.putfield 22, 3) := by decide +kernel
theorem dX3_remember_57 : decode cX3_remember 57 = .ok (.aload_n 0, 1) := by decide +kernel
theorem dX3_remember_58 : decode cX3_remember 58 = .ok (.aload_n 0, 1) := by decide +kernel
theorem dX3_remember_59 : decode cX3_remember 59 = .ok (.getfield 18, 3) := by decide +kernel
theorem dX3_remember_62 : decode cX3_remember 62 = .ok (.iconst 1, 1) := by decide +kernel
theorem dX3_remember_63 : decode cX3_remember 63 = .ok (.iadd, 1) := by decide +kernel
theorem dX3_remember_64 : decode cX3_remember 64 = .ok (.bipush 14, 2) := by decide +kernel
theorem dX3_remember_66 : decode cX3_remember 66 = .ok (.invokestatic 29, 3) := by decide +kernel
theorem dX3_remember_69 : decode cX3_remember 69 = .ok (.putfield 18, 3) := by decide +kernel
theorem dX3_remember_72 : decode cX3_remember 72 = .ok (.return_, 1) := by decide +kernel
theorem dX3_takeBack_0 : decode cX3_takeBack 0 = .ok (.aload_n 0, 1) := by decide +kernel
theorem dX3_takeBack_1 : decode cX3_takeBack 1 = .ok (.aload_n 0, 1) := by decide +kernel
theorem dX3_takeBack_2 : decode cX3_takeBack 2 = .ok (.getfield 22, 3) := by decide +kernel
theorem dX3_takeBack_5 : decode cX3_takeBack 5 = .ok (.ifCond .le 12, 3) := by decide +kernel
theorem dX3_takeBack_8 : decode cX3_takeBack 8 = .ok (.aload_n 0, 1) := by decide +kernel
theorem dX3_takeBack_9 : decode cX3_takeBack 9 = .ok (.getfield 22, 3) := by decide +kernel
theorem dX3_takeBack_12 : decode cX3_takeBack 12 = .ok (.iconst 1, 1) := by decide +kernel
theorem dX3_takeBack_13 : decode cX3_takeBack 13 = .ok (.isub, 1) := by decide +kernel
theorem dX3_takeBack_14 : decode cX3_takeBack 14 = .ok (.goto 5, 3) := by decide +kernel
theorem dX3_takeBack_17 : decode cX3_takeBack 17 = .ok (.bipush 13, 2) := by decide +kernel
theorem dX3_takeBack_19 : decode cX3_takeBack 19 = .ok (.putfield 22, 3) := by decide +kernel
theorem dX3_takeBack_22 : decode cX3_takeBack 22 = .ok (.aload_n 0, 1) := by decide +kernel
theorem dX3_takeBack_23 : decode cX3_takeBack 23 = .ok (.dup, 1) := by decide +kernel
theorem dX3_takeBack_24 : decode cX3_takeBack 24 = .ok (.getfield 18, 3) := by decide +kernel
theorem dX3_takeBack_27 : decode cX3_takeBack 27 = .ok (.iconst 1, 1) := by decide +kernel
theorem dX3_takeBack_28 : decode cX3_takeBack 28 = .ok (.isub, 1) := by decide +kernel
theorem dX3_takeBack_29 : decode cX3_takeBack 29 = .ok (.putfield 18, 3) := by decide +kernel
theorem dX3_takeBack_32 : decode cX3_takeBack 32 = .ok (.aload_n 0, 1) := by decide +kernel
theorem dX3_takeBack_33 : decode cX3_takeBack 33 = .ok (.getfield 22, 3) := by decide +kernel
theorem dX3_takeBack_36 : decode cX3_takeBack 36 = .ok (.ifCond .lt 28, 3) := by decide +kernel
theorem dX3_takeBack_39 : decode cX3_takeBack 39 = .ok (.aload_n 0, 1) := by decide +kernel
theorem dX3_takeBack_40 : decode cX3_takeBack 40 = .ok (.getfield 22, 3) := by decide +kernel
theorem dX3_takeBack_43 : decode cX3_takeBack 43 = .ok (.aload_n 0, 1) := by decide +kernel
theorem dX3_takeBack_44 : decode cX3_takeBack 44 = .ok (.getfield 11, 3) := by decide +kernel
theorem dX3_takeBack_47 : decode cX3_takeBack 47 = .ok (.arraylength, 1) := by decide +kernel
theorem dX3_takeBack_48 : decode cX3_takeBack 48 = .ok (.if_icmp .ge 16, 3) := by decide +kernel
theorem dX3_takeBack_51 : decode cX3_takeBack 51 = .ok (.aload_n 0, 1) := by decide +kernel
theorem dX3_takeBack_52 : decode cX3_takeBack 52 = .ok (.getfield 11, 3) := by decide +kernel
theorem dX3_takeBack_55 : decode cX3_takeBack 55 = .ok (.aload_n 0, 1) := by decide +kernel
theorem dX3_takeBack_56 : decode cX3_takeBack 56 = .ok (.getfield 22, 3) := by decide +kernel
theorem dX3_takeBack_59 : decode cX3_takeBack 59 = .ok (.aaload, 1) := by decide +kernel
theorem dX3_takeBack_60 : decode cX3_takeBack 60 = .ok (.aload_n 1, 1) := by decide +kernel
theorem dX3_takeBack_61 : decode cX3_takeBack 61 = .ok (.invokestatic 25, 3) := by decide +kernel
theorem dX3_takeBack_64 : decode cX3_takeBack 64 = .ok (.aload_n 0, 1) := by decide +kernel
theorem dX3_takeBack_65 : decode cX3_takeBack 65 = .ok (.getfield 18, 3) := by decide +kernel
theorem dX3_takeBack_68 : decode cX3_takeBack 68 = .ok (.ireturn, 1) := by decide +kernel
theorem dX4_init_0 : decode cX4_init 0 = .ok (.aload_n 0, 1) := by decide +kernel
theorem dX4_init_1 : decode cX4_init 1 = .ok (.invokespecial 3, 3) := by decide +kernel
theorem dX4_init_4 : decode cX4_init 4 = .ok (.aload_n 0, 1) := by decide +kernel
theorem dX4_init_5 : decode cX4_init 5 = .ok (.aload_n 1, 1) := by decide +kernel
theorem dX4_init_6 : decode cX4_init 6 = .ok (.putfield 9, 3) := by decide +kernel
theorem dX4_init_9 : decode cX4_init 9 = .ok (.aload_n 0, 1) := by decide +kernel
theorem dX4_init_10 : decode cX4_init 10 = .ok (.aload_n 2, 1) := by decide +kernel
theorem dX4_init_11 : decode cX4_init 11 = .ok (.putfield 15, 3) := by decide +kernel
theorem dX4_init_14 : decode cX4_init 14 = .ok (.return_, 1) := by decide +kernel
theorem dX4_read_0 : decode cX4_read 0 = .ok (.aload_n 0, 1) := by decide +kernel
theorem dX4_read_1 : decode cX4_read 1 = .ok (.iconst 0, 1) := by decide +kernel
theorem dX4_read_2 : decode cX4_read 2 = .ok (.putfield 19, 3) := by decide +kernel
theorem dX4_read_5 : decode cX4_read 5 = .ok (.aload_n 0, 1) := by decide +kernel
theorem dX4_read_6 : decode cX4_read 6 = .ok (.getfield 15, 3) := by decide +kernel
theorem dX4_read_9 : decode cX4_read 9 = .ok (.invokevirtual 23, 3) := by decide +kernel
theorem dX4_read_12 : decode cX4_read 12 = .ok (.aload_n 0, 1) := by decide +kernel
theorem dX4_read_13 : decode cX4_read 13 = .ok (.getfield 9, 3) := by decide +kernel
theorem dX4_read_16 : decode cX4_read 16 = .ok (.aload_n 0, 1) := by decide +kernel
theorem dX4_read_17 : decode cX4_read 17 = .ok (.getfield 19, 3) := by decide +kernel
theorem dX4_read_20 : decode cX4_read 20 = .ok (.invokevirtual 28, 3) := by decide +kernel
theorem dX4_read_23 : decode cX4_read 23 = .ok (.bipush 76, 2) := by decide +kernel
theorem dX4_read_25 : decode cX4_read 25 = .ok (.if_icmp .eq 8, 3) := by decide +kernel
theorem dX4_read_28 : decode cX4_read 28 = .ok (.aload_n 0, 1) := by decide +kernel
theorem dX4_read_29 : decode cX4_read 29 = .ok (.getfield 19, 3) := by decide +kernel
theorem dX4_read_32 : decode cX4_read 32 = .ok (.ireturn, 1) := by decide +kernel
theorem dX4_read_33 : decode cX4_read 33 = .ok (.aload_n 0, 1) := by decide +kernel
theorem dX4_read_34 : decode cX4_read 34 = .ok (.dup, 1) := by decide +kernel
theorem dX4_read_35 : decode cX4_read 35 = .ok (.getfield 19, 3) := by decide +kernel
theorem dX4_read_38 : decode cX4_read 38 = .ok (.iconst 1, 1) := by decide +kernel
theorem dX4_read_39 : decode cX4_read 39 = .ok (.iadd, 1) := by decide +kernel
theorem dX4_read_40 : decode cX4_read 40 = .ok (.putfield 19, 3) := by decide +kernel
theorem dX4_read_43 : decode cX4_read 43 = .ok (.aload_n 0, 1) := by decide +kernel
theorem dX4_read_44 : decode cX4_read 44 = .ok (.iconst 0, 1) := by decide +kernel
theorem dX4_read_45 : decode cX4_read 45 = .ok (.bipush 9, 2) := by decide +kernel
theorem dX4_read_47 : decode cX4_read 47 = .ok (.invokevirtual 34, 3) := by decide +kernel
theorem dX4_read_50 : decode cX4_read 50 = .ok (.istore_n 1, 1) := by decide +kernel
theorem dX4_read_51 : decode cX4_read 51 = .ok (.iload_n 1, 1) := by decide +kernel
theorem dX4_read_52 : decode cX4_read 52 = .ok (.bipush (-9), 2) := by decide +kernel
theorem dX4_read_54 : decode cX4_read 54 = .ok (.if_icmp .ne 8, 3) := by decide +kernel
theorem dX4_read_57 : decode cX4_read 57 = .ok (.aload_n 0, 1) := by decide +kernel
theorem dX4_read_58 : decode cX4_read 58 = .ok (.getfield 19, 3) := by decide +kernel
theorem dX4_read_61 : decode cX4_read 61 = .ok (.ireturn, 1) := by decide +kernel
theorem dX4_read_62 : decode cX4_read 62 = .ok (.aload_n 0, 1) := by decide +kernel
theorem dX4_read_63 : decode cX4_read 63 = .ok (.getfield 15, 3) := by decide +kernel
theorem dX4_read_66 : decode cX4_read 66 = .ok (.iload_n 1, 1) := by decide +kernel
theorem dX4_read_67 : decode cX4_read 67 = .ok (.putfield 38, 3) := by decide +kernel
theorem dX4_read_70 : decode cX4_read 70 = .ok (.iconst 0, 1) := by decide +kernel
theorem dX4_read_71 : decode cX4_read 71 = .ok (.istore_n 2, 1) := by decide +kernel
theorem dX4_read_72 : decode cX4_read 72 = .ok (.iload_n 2, 1) := by decide +kernel
theorem dX4_read_73 : decode cX4_read 73 = .ok (.bipush 80, 2) := by decide +kernel
theorem dX4_read_75 : decode cX4_read 75 = .ok (.if_icmp .ge 35, 3) := by decide +kernel
theorem dX4_read_78 : decode cX4_read 78 = .ok (.aload_n 0, 1) := by decide +kernel
theorem dX4_read_79 : decode cX4_read 79 = .ok (.getfield 19, 3) := by decide +kernel
theorem dX4_read_82 : decode cX4_read 82 = .ok (.aload_n 0, 1) := by decide +kernel
theorem dX4_read_83 : decode cX4_read 83 = .ok (.getfield 9, 3) := by decide +kernel
theorem dX4_read_86 : decode cX4_read 86 = .ok (.invokevirtual 41, 3) := by decide +kernel
theorem dX4_read_89 : decode cX4_read 89 = .ok (.if_icmp .ge 21, 3) := by decide +kernel
theorem dX4_read_92 : decode cX4_read 92 = .ok (.aload_n 0, 1) := by decide +kernel
theorem dX4_read_93 : decode cX4_read 93 = .ok (.invokevirtual 45, 3) := by decide +kernel
theorem dX4_read_96 : decode cX4_read 96 = .ok (.ifCond .ne 8, 3) := by decide +kernel
theorem dX4_read_99 : decode cX4_read 99 = .ok (.aload_n 0, 1) := by decide +kernel
theorem dX4_read_100 : decode cX4_read 100 = .ok (.getfield 19, 3) := by decide +kernel
theorem dX4_read_103 : decode cX4_read 103 = .ok (.ireturn, 1) := by decide +kernel
theorem dX4_read_104 : decode cX4_read 104 = .ok (.iinc 2 1, 3) := by decide +kernel
theorem dX4_read_107 : decode cX4_read 107 = .ok (.goto (-35), 3) := by decide +kernel
theorem dX4_read_110 : decode cX4_read 110 = .ok (.aload_n 0, 1) := by decide +kernel
theorem dX4_read_111 : decode cX4_read 111 = .ok (.getfield 15, 3) := by decide +kernel
theorem dX4_read_114 : decode cX4_read 114 = .ok (.invokevirtual 49, 3) := by decide +kernel
theorem dX4_read_117 : decode cX4_read 117 = .ok (.bipush (-9), 2) := by decide +kernel
theorem dX4_read_119 : decode cX4_read 119 = .ok (.ireturn, 1) := by decide +kernel
theorem dX4_takePart_0 : decode cX4_takePart 0 = .ok (.aload_n 0, 1) := by decide +kernel
theorem dX4_takePart_1 : decode cX4_takePart 1 = .ok (.getfield 9, 3) := by decide +kernel
theorem dX4_takePart_4 : decode cX4_takePart 4 = .ok (.aload_n 0, 1) := by decide +kernel
theorem dX4_takePart_5 : decode cX4_takePart 5 = .ok (.getfield 19, 3) := by decide +kernel
theorem dX4_takePart_8 : decode cX4_takePart 8 = .ok (.invokevirtual 28, 3) := by decide +kernel
theorem dX4_takePart_11 : decode cX4_takePart 11 = .ok (.lookupswitch 61 #[(99, 41), (102, 56), (109, 46), (115, 51)], 41) := by decide +kernel
theorem dX4_takePart_52 : decode cX4_takePart 52 = .ok (.aload_n 0, 1) := by decide +kernel
theorem dX4_takePart_53 : decode cX4_takePart 53 = .ok (.invokevirtual 52, 3) := by decide +kernel
theorem dX4_takePart_56 : decode cX4_takePart 56 = .ok (.ireturn, 1) := by decide +kernel
theorem dX4_takePart_57 : decode cX4_takePart 57 = .ok (.aload_n 0, 1) := by decide +kernel
theorem dX4_takePart_58 : decode cX4_takePart 58 = .ok (.invokevirtual 55, 3) := by decide +kernel
theorem dX4_takePart_61 : decode cX4_takePart 61 = .ok (.ireturn, 1) := by decide +kernel
theorem dX4_takePart_62 : decode cX4_takePart 62 = .ok (.aload_n 0, 1) := by decide +kernel
theorem dX4_takePart_63 : decode cX4_takePart 63 = .ok (.invokevirtual 58, 3) := by decide +kernel
theorem dX4_takePart_66 : decode cX4_takePart 66 = .ok (.ireturn, 1) := by decide +kernel
theorem dX4_takePart_67 : decode cX4_takePart 67 = .ok (.aload_n 0, 1) := by decide +kernel
theorem dX4_takePart_68 : decode cX4_takePart 68 = .ok (.invokevirtual 61, 3) := by decide +kernel
theorem dX4_takePart_71 : decode cX4_takePart 71 = .ok (.ireturn, 1) := by decide +kernel
theorem dX4_takePart_72 : decode cX4_takePart 72 = .ok (.iconst 0, 1) := by decide +kernel
theorem dX4_takePart_73 : decode cX4_takePart 73 = .ok (.ireturn, 1) := by decide +kernel
theorem dX4_takeDigit_0 : decode cX4_takeDigit 0 = .ok (.aload_n 0, 1) := by decide +kernel
theorem dX4_takeDigit_1 : decode cX4_takeDigit 1 = .ok (.getfield 9, 3) := by decide +kernel
theorem dX4_takeDigit_4 : decode cX4_takeDigit 4 = .ok (.aload_n 0, 1) := by decide +kernel
theorem dX4_takeDigit_5 : decode cX4_takeDigit 5 = .ok (.getfield 19, 3) := by decide +kernel
theorem dX4_takeDigit_8 : decode cX4_takeDigit 8 = .ok (.invokevirtual 28, 3) := by decide +kernel
theorem dX4_takeDigit_11 : decode cX4_takeDigit 11 = .ok (.bipush 48, 2) := by decide +kernel
theorem dX4_takeDigit_13 : decode cX4_takeDigit 13 = .ok (.isub, 1) := by decide +kernel
theorem dX4_takeDigit_14 : decode cX4_takeDigit 14 = .ok (.istore_n 3, 1) := by decide +kernel
theorem dX4_takeDigit_15 : decode cX4_takeDigit 15 = .ok (.iload_n 3, 1) := by decide +kernel
theorem dX4_takeDigit_16 : decode cX4_takeDigit 16 = .ok (.iload_n 1, 1) := by decide +kernel
theorem dX4_takeDigit_17 : decode cX4_takeDigit 17 = .ok (.iload_n 2, 1) := by decide +kernel
theorem dX4_takeDigit_18 : decode cX4_takeDigit 18 = .ok (.invokestatic 64, 3) := by decide +kernel
theorem dX4_takeDigit_21 : decode cX4_takeDigit 21 = .ok (.ifCond .ne 6, 3) := by decide +kernel
theorem dX4_takeDigit_24 : decode cX4_takeDigit 24 = .ok (.bipush (-9), 2) := by decide +kernel
theorem dX4_takeDigit_26 : decode cX4_takeDigit 26 = .ok (.ireturn, 1) := by decide +kernel
theorem dX4_takeDigit_27 : decode cX4_takeDigit 27 = .ok (.aload_n 0, 1) := by decide +kernel
theorem dX4_takeDigit_28 : decode cX4_takeDigit 28 = .ok (.dup, 1) := by decide +kernel
theorem dX4_takeDigit_29 : decode cX4_takeDigit 29 = .ok (.getfield 19, 3) := by decide +kernel
theorem dX4_takeDigit_32 : decode cX4_takeDigit 32 = .ok (.iconst 1, 1) := by decide +kernel
theorem dX4_takeDigit_33 : decode cX4_takeDigit 33 = .ok (.iadd, 1) := by decide +kernel
theorem dX4_takeDigit_34 : decode cX4_takeDigit 34 = .ok (.putfield 19, 3) := by decide +kernel
theorem dX4_takeDigit_37 : decode cX4_takeDigit 37 = .ok (.iload_n 3, 1) := by decide +kernel
theorem dX4_takeDigit_38 : decode cX4_takeDigit 38 = .ok (.ireturn, 1) := by decide +kernel
theorem dX4_takeCourse_0 : decode cX4_takeCourse 0 = .ok (.aload_n 0, 1) := by decide +kernel
theorem dX4_takeCourse_1 : decode cX4_takeCourse 1 = .ok (.getfield 15, 3) := by decide +kernel
theorem dX4_takeCourse_4 : decode cX4_takeCourse 4 = .ok (.getfield 68, 3) := by decide +kernel
theorem dX4_takeCourse_7 : decode cX4_takeCourse 7 = .ok (.invokevirtual 72, 3) := by decide +kernel
theorem dX4_takeCourse_10 : decode cX4_takeCourse 10 = .ok (.ifCond .ne 5, 3) := by decide +kernel
theorem dX4_takeCourse_13 : decode cX4_takeCourse 13 = .ok (.iconst 0, 1) := by decide +kernel
theorem dX4_takeCourse_14 : decode cX4_takeCourse 14 = .ok (.ireturn, 1) := by decide +kernel
theorem dX4_takeCourse_15 : decode cX4_takeCourse 15 = .ok (.aload_n 0, 1) := by decide +kernel
theorem dX4_takeCourse_16 : decode cX4_takeCourse 16 = .ok (.dup, 1) := by decide +kernel
theorem dX4_takeCourse_17 : decode cX4_takeCourse 17 = .ok (.getfield 19, 3) := by decide +kernel
theorem dX4_takeCourse_20 : decode cX4_takeCourse 20 = .ok (.iconst 1, 1) := by decide +kernel
theorem dX4_takeCourse_21 : decode cX4_takeCourse 21 = .ok (.iadd, 1) := by decide +kernel
theorem dX4_takeCourse_22 : decode cX4_takeCourse 22 = .ok (.putfield 19, 3) := by decide +kernel
theorem dX4_takeCourse_25 : decode cX4_takeCourse 25 = .ok (.aload_n 0, 1) := by decide +kernel
theorem dX4_takeCourse_26 : decode cX4_takeCourse 26 = .ok (.iconst 1, 1) := by decide +kernel
theorem dX4_takeCourse_27 : decode cX4_takeCourse 27 = .ok (.bipush 9, 2) := by decide +kernel
theorem dX4_takeCourse_29 : decode cX4_takeCourse 29 = .ok (.invokevirtual 34, 3) := by decide +kernel
theorem dX4_takeCourse_32 : decode cX4_takeCourse 32 = .ok (.istore_n 1, 1) := by decide +kernel
theorem dX4_takeCourse_33 : decode cX4_takeCourse 33 = .ok (.iload_n 1, 1) := by decide +kernel
theorem dX4_takeCourse_34 : decode cX4_takeCourse 34 = .ok (.bipush (-9), 2) := by decide +kernel
theorem dX4_takeCourse_36 : decode cX4_takeCourse 36 = .ok (.if_icmp .ne 8, 3) := by decide +kernel
theorem dX4_takeCourse_39 : decode cX4_takeCourse 39 = .ok (.bipush (-9), 2) := by decide +kernel
theorem dX4_takeCourse_41 : decode cX4_takeCourse 41 = .ok (.goto 10, 3) := by decide +kernel
theorem dX4_takeCourse_44 : decode cX4_takeCourse 44 = .ok (.aload_n 0, 1) := by decide +kernel
theorem dX4_takeCourse_45 : decode cX4_takeCourse 45 = .ok (.iconst 1, 1) := by decide +kernel
theorem dX4_takeCourse_46 : decode cX4_takeCourse 46 = .ok (.bipush 6, 2) := by decide +kernel
theorem dX4_takeCourse_48 : decode cX4_takeCourse 48 = .ok (.invokevirtual 34, 3) := by decide +kernel
theorem dX4_takeCourse_51 : decode cX4_takeCourse 51 = .ok (.istore_n 2, 1) := by decide +kernel
theorem dX4_takeCourse_52 : decode cX4_takeCourse 52 = .ok (.iload_n 2, 1) := by decide +kernel
theorem dX4_takeCourse_53 : decode cX4_takeCourse 53 = .ok (.bipush (-9), 2) := by decide +kernel
theorem dX4_takeCourse_55 : decode cX4_takeCourse 55 = .ok (.if_icmp .ne 8, 3) := by decide +kernel
theorem dX4_takeCourse_58 : decode cX4_takeCourse 58 = .ok (.bipush (-9), 2) := by decide +kernel
theorem dX4_takeCourse_60 : decode cX4_takeCourse 60 = .ok (.goto 10, 3) := by decide +kernel
theorem dX4_takeCourse_63 : decode cX4_takeCourse 63 = .ok (.aload_n 0, 1) := by decide +kernel
theorem dX4_takeCourse_64 : decode cX4_takeCourse 64 = .ok (.iconst 1, 1) := by decide +kernel
theorem dX4_takeCourse_65 : decode cX4_takeCourse 65 = .ok (.bipush 9, 2) := by decide +kernel
theorem dX4_takeCourse_67 : decode cX4_takeCourse 67 = .ok (.invokevirtual 34, 3) := by decide +kernel
theorem dX4_takeCourse_70 : decode cX4_takeCourse 70 = .ok (.istore_n 3, 1) := by decide +kernel
theorem dX4_takeCourse_71 : decode cX4_takeCourse 71 = .ok (.iload_n 3, 1) := by decide +kernel
theorem dX4_takeCourse_72 : decode cX4_takeCourse 72 = .ok (.bipush (-9), 2) := by decide +kernel
theorem dX4_takeCourse_74 : decode cX4_takeCourse 74 = .ok (.if_icmp .ne 5, 3) := by decide +kernel
theorem dX4_takeCourse_77 : decode cX4_takeCourse 77 = .ok (.iconst 0, 1) := by decide +kernel
theorem dX4_takeCourse_78 : decode cX4_takeCourse 78 = .ok (.ireturn, 1) := by decide +kernel
theorem dX4_takeCourse_79 : decode cX4_takeCourse 79 = .ok (.aload_n 0, 1) := by decide +kernel
theorem dX4_takeCourse_80 : decode cX4_takeCourse 80 = .ok (.getfield 15, 3) := by decide +kernel
theorem dX4_takeCourse_83 : decode cX4_takeCourse 83 = .ok (.iload_n 1, 1) := by decide +kernel
theorem dX4_takeCourse_84 : decode cX4_takeCourse 84 = .ok (.iload_n 2, 1) := by decide +kernel
theorem dX4_takeCourse_85 : decode cX4_takeCourse 85 = .ok (.iload_n 3, 1) := by decide +kernel
theorem dX4_takeCourse_86 : decode cX4_takeCourse 86 = .ok (.invokevirtual 77, 3) := by decide +kernel
theorem dX4_takeCourse_89 : decode cX4_takeCourse 89 = .ok (.pop, 1) := by decide +kernel
theorem dX4_takeCourse_90 : decode cX4_takeCourse 90 = .ok (.iconst 1, 1) := by decide +kernel
theorem dX4_takeCourse_91 : decode cX4_takeCourse 91 = .ok (.ireturn, 1) := by decide +kernel
theorem dX4_takeMason_0 : decode cX4_takeMason 0 = .ok (.aload_n 0, 1) := by decide +kernel
theorem dX4_takeMason_1 : decode cX4_takeMason 1 = .ok (.getfield 15, 3) := by decide +kernel
theorem dX4_takeMason_4 : decode cX4_takeMason 4 = .ok (.getfield 81, 3) := by decide +kernel
theorem dX4_takeMason_7 : decode cX4_takeMason 7 = .ok (.invokevirtual 72, 3) := by decide +kernel
theorem dX4_takeMason_10 : decode cX4_takeMason 10 = .ok (.ifCond .ne 5, 3) := by decide +kernel
theorem dX4_takeMason_13 : decode cX4_takeMason 13 = .ok (.iconst 0, 1) := by decide +kernel
theorem dX4_takeMason_14 : decode cX4_takeMason 14 = .ok (.ireturn, 1) := by decide +kernel
theorem dX4_takeMason_15 : decode cX4_takeMason 15 = .ok (.aload_n 0, 1) := by decide +kernel
theorem dX4_takeMason_16 : decode cX4_takeMason 16 = .ok (.dup, 1) := by decide +kernel
theorem dX4_takeMason_17 : decode cX4_takeMason 17 = .ok (.getfield 19, 3) := by decide +kernel
theorem dX4_takeMason_20 : decode cX4_takeMason 20 = .ok (.iconst 1, 1) := by decide +kernel
theorem dX4_takeMason_21 : decode cX4_takeMason 21 = .ok (.iadd, 1) := by decide +kernel
theorem dX4_takeMason_22 : decode cX4_takeMason 22 = .ok (.putfield 19, 3) := by decide +kernel
theorem dX4_takeMason_25 : decode cX4_takeMason 25 = .ok (.aload_n 0, 1) := by decide +kernel
theorem dX4_takeMason_26 : decode cX4_takeMason 26 = .ok (.iconst 1, 1) := by decide +kernel
theorem dX4_takeMason_27 : decode cX4_takeMason 27 = .ok (.bipush 9, 2) := by decide +kernel
theorem dX4_takeMason_29 : decode cX4_takeMason 29 = .ok (.invokevirtual 34, 3) := by decide +kernel
theorem dX4_takeMason_32 : decode cX4_takeMason 32 = .ok (.istore_n 1, 1) := by decide +kernel
theorem dX4_takeMason_33 : decode cX4_takeMason 33 = .ok (.iload_n 1, 1) := by decide +kernel
theorem dX4_takeMason_34 : decode cX4_takeMason 34 = .ok (.bipush (-9), 2) := by decide +kernel
theorem dX4_takeMason_36 : decode cX4_takeMason 36 = .ok (.if_icmp .ne 8, 3) := by decide +kernel
theorem dX4_takeMason_39 : decode cX4_takeMason 39 = .ok (.bipush (-9), 2) := by decide +kernel
theorem dX4_takeMason_41 : decode cX4_takeMason 41 = .ok (.goto 7, 3) := by decide +kernel
theorem dX4_takeMason_44 : decode cX4_takeMason 44 = .ok (.aload_n 0, 1) := by decide +kernel
theorem dX4_takeMason_45 : decode cX4_takeMason 45 = .ok (.invokevirtual 84, 3) := by decide +kernel
theorem dX4_takeMason_48 : decode cX4_takeMason 48 = .ok (.istore_n 2, 1) := by decide +kernel
theorem dX4_takeMason_49 : decode cX4_takeMason 49 = .ok (.iload_n 2, 1) := by decide +kernel
theorem dX4_takeMason_50 : decode cX4_takeMason 50 = .ok (.bipush (-9), 2) := by decide +kernel
theorem dX4_takeMason_52 : decode cX4_takeMason 52 = .ok (.if_icmp .ne 5, 3) := by decide +kernel
theorem dX4_takeMason_55 : decode cX4_takeMason 55 = .ok (.iconst 0, 1) := by decide +kernel
theorem dX4_takeMason_56 : decode cX4_takeMason 56 = .ok (.ireturn, 1) := by decide +kernel
theorem dX4_takeMason_57 : decode cX4_takeMason 57 = .ok (.aload_n 0, 1) := by decide +kernel
theorem dX4_takeMason_58 : decode cX4_takeMason 58 = .ok (.getfield 15, 3) := by decide +kernel
theorem dX4_takeMason_61 : decode cX4_takeMason 61 = .ok (.iload_n 1, 1) := by decide +kernel
theorem dX4_takeMason_62 : decode cX4_takeMason 62 = .ok (.iload_n 2, 1) := by decide +kernel
theorem dX4_takeMason_63 : decode cX4_takeMason 63 = .ok (.invokevirtual 87, 3) := by decide +kernel
theorem dX4_takeMason_66 : decode cX4_takeMason 66 = .ok (.pop, 1) := by decide +kernel
theorem dX4_takeMason_67 : decode cX4_takeMason 67 = .ok (.iconst 1, 1) := by decide +kernel
theorem dX4_takeMason_68 : decode cX4_takeMason 68 = .ok (.ireturn, 1) := by decide +kernel
theorem dX4_takeStrength_0 : decode cX4_takeStrength 0 = .ok (.aload_n 0, 1) := by decide +kernel
theorem dX4_takeStrength_1 : decode cX4_takeStrength 1 = .ok (.iconst 0, 1) := by decide +kernel
theorem dX4_takeStrength_2 : decode cX4_takeStrength 2 = .ok (.iconst 1, 1) := by decide +kernel
theorem dX4_takeStrength_3 : decode cX4_takeStrength 3 = .ok (.invokevirtual 34, 3) := by decide +kernel
theorem dX4_takeStrength_6 : decode cX4_takeStrength 6 = .ok (.istore_n 1, 1) := by decide +kernel
theorem dX4_takeStrength_7 : decode cX4_takeStrength 7 = .ok (.iload_n 1, 1) := by decide +kernel
theorem dX4_takeStrength_8 : decode cX4_takeStrength 8 = .ok (.bipush (-9), 2) := by decide +kernel
theorem dX4_takeStrength_10 : decode cX4_takeStrength 10 = .ok (.if_icmp .ne 6, 3) := by decide +kernel
theorem dX4_takeStrength_13 : decode cX4_takeStrength 13 = .ok (.bipush (-9), 2) := by decide +kernel
theorem dX4_takeStrength_15 : decode cX4_takeStrength 15 = .ok (.ireturn, 1) := by decide +kernel
theorem dX4_takeStrength_16 : decode cX4_takeStrength 16 = .ok (.iload_n 1, 1) := by decide +kernel
theorem dX4_takeStrength_17 : decode cX4_takeStrength 17 = .ok (.ifCond .ne 13, 3) := by decide +kernel
theorem dX4_takeStrength_20 : decode cX4_takeStrength 20 = .ok (.aload_n 0, 1) := by decide +kernel
theorem dX4_takeStrength_21 : decode cX4_takeStrength 21 = .ok (.iconst 1, 1) := by decide +kernel
theorem dX4_takeStrength_22 : decode cX4_takeStrength 22 = .ok (.bipush 9, 2) := by decide +kernel
theorem dX4_takeStrength_24 : decode cX4_takeStrength 24 = .ok (.invokevirtual 34, 3) := by decide +kernel
theorem dX4_takeStrength_27 : decode cX4_takeStrength 27 = .ok (.goto 9, 3) := by decide +kernel
theorem dX4_takeStrength_30 : decode cX4_takeStrength 30 = .ok (.aload_n 0, 1) := by decide +kernel
theorem dX4_takeStrength_31 : decode cX4_takeStrength 31 = .ok (.iconst 0, 1) := by decide +kernel
theorem dX4_takeStrength_32 : decode cX4_takeStrength 32 = .ok (.iconst 2, 1) := by decide +kernel
theorem dX4_takeStrength_33 : decode cX4_takeStrength 33 = .ok (.invokevirtual 34, 3) := by decide +kernel
theorem dX4_takeStrength_36 : decode cX4_takeStrength 36 = .ok (.istore_n 2, 1) := by decide +kernel
theorem dX4_takeStrength_37 : decode cX4_takeStrength 37 = .ok (.iload_n 2, 1) := by decide +kernel
theorem dX4_takeStrength_38 : decode cX4_takeStrength 38 = .ok (.bipush (-9), 2) := by decide +kernel
theorem dX4_takeStrength_40 : decode cX4_takeStrength 40 = .ok (.if_icmp .ne 8, 3) := by decide +kernel
theorem dX4_takeStrength_43 : decode cX4_takeStrength 43 = .ok (.bipush (-9), 2) := by decide +kernel
theorem dX4_takeStrength_45 : decode cX4_takeStrength 45 = .ok (.goto 9, 3) := by decide +kernel
theorem dX4_takeStrength_48 : decode cX4_takeStrength 48 = .ok (.bipush 10, 2) := by decide +kernel
theorem dX4_takeStrength_50 : decode cX4_takeStrength 50 = .ok (.iload_n 1, 1) := by decide +kernel
theorem dX4_takeStrength_51 : decode cX4_takeStrength 51 = .ok (.imul, 1) := by decide +kernel
theorem dX4_takeStrength_52 : decode cX4_takeStrength 52 = .ok (.iload_n 2, 1) := by decide +kernel
theorem dX4_takeStrength_53 : decode cX4_takeStrength 53 = .ok (.iadd, 1) := by decide +kernel
theorem dX4_takeStrength_54 : decode cX4_takeStrength 54 = .ok (.ireturn, 1) := by decide +kernel
theorem dX4_takeStone_0 : decode cX4_takeStone 0 = .ok (.aload_n 0, 1) := by decide +kernel
theorem dX4_takeStone_1 : decode cX4_takeStone 1 = .ok (.getfield 15, 3) := by decide +kernel
theorem dX4_takeStone_4 : decode cX4_takeStone 4 = .ok (.getfield 81, 3) := by decide +kernel
theorem dX4_takeStone_7 : decode cX4_takeStone 7 = .ok (.invokevirtual 90, 3) := by decide +kernel
theorem dX4_takeStone_10 : decode cX4_takeStone 10 = .ok (.ifCond .eq 29, 3) := by decide +kernel
theorem dX4_takeStone_13 : decode cX4_takeStone 13 = .ok (.aload_n 0, 1) := by decide +kernel
theorem dX4_takeStone_14 : decode cX4_takeStone 14 = .ok (.getfield 15, 3) := by decide +kernel
theorem dX4_takeStone_17 : decode cX4_takeStone 17 = .ok (.getfield 68, 3) := by decide +kernel
theorem dX4_takeStone_20 : decode cX4_takeStone 20 = .ok (.invokevirtual 90, 3) := by decide +kernel
theorem dX4_takeStone_23 : decode cX4_takeStone 23 = .ok (.ifCond .eq 16, 3) := by decide +kernel
theorem dX4_takeStone_26 : decode cX4_takeStone 26 = .ok (.aload_n 0, 1) := by decide +kernel
theorem dX4_takeStone_27 : decode cX4_takeStone 27 = .ok (.getfield 15, 3) := by decide +kernel
theorem dX4_takeStone_30 : decode cX4_takeStone 30 = .ok (.getfield 91, 3) := by decide +kernel
theorem dX4_takeStone_33 : decode cX4_takeStone 33 = .ok (.invokevirtual 72, 3) := by decide +kernel
theorem dX4_takeStone_36 : decode cX4_takeStone 36 = .ok (.ifCond .ne 5, 3) := by decide +kernel
theorem dX4_takeStone_39 : decode cX4_takeStone 39 = .ok (.iconst 0, 1) := by decide +kernel
theorem dX4_takeStone_40 : decode cX4_takeStone 40 = .ok (.ireturn, 1) := by decide +kernel
theorem dX4_takeStone_41 : decode cX4_takeStone 41 = .ok (.aload_n 0, 1) := by decide +kernel
theorem dX4_takeStone_42 : decode cX4_takeStone 42 = .ok (.dup, 1) := by decide +kernel
theorem dX4_takeStone_43 : decode cX4_takeStone 43 = .ok (.getfield 19, 3) := by decide +kernel
theorem dX4_takeStone_46 : decode cX4_takeStone 46 = .ok (.iconst 1, 1) := by decide +kernel
theorem dX4_takeStone_47 : decode cX4_takeStone 47 = .ok (.iadd, 1) := by decide +kernel
theorem dX4_takeStone_48 : decode cX4_takeStone 48 = .ok (.putfield 19, 3) := by decide +kernel
theorem dX4_takeStone_51 : decode cX4_takeStone 51 = .ok (.aload_n 0, 1) := by decide +kernel
theorem dX4_takeStone_52 : decode cX4_takeStone 52 = .ok (.iconst 0, 1) := by decide +kernel
theorem dX4_takeStone_53 : decode cX4_takeStone 53 = .ok (.aload_n 0, 1) := by decide +kernel
theorem dX4_takeStone_54 : decode cX4_takeStone 54 = .ok (.getfield 15, 3) := by decide +kernel
theorem dX4_takeStone_57 : decode cX4_takeStone 57 = .ok (.getfield 81, 3) := by decide +kernel
theorem dX4_takeStone_60 : decode cX4_takeStone 60 = .ok (.invokevirtual 90, 3) := by decide +kernel
theorem dX4_takeStone_63 : decode cX4_takeStone 63 = .ok (.iconst 1, 1) := by decide +kernel
theorem dX4_takeStone_64 : decode cX4_takeStone 64 = .ok (.isub, 1) := by decide +kernel
theorem dX4_takeStone_65 : decode cX4_takeStone 65 = .ok (.invokevirtual 34, 3) := by decide +kernel
theorem dX4_takeStone_68 : decode cX4_takeStone 68 = .ok (.istore_n 1, 1) := by decide +kernel
theorem dX4_takeStone_69 : decode cX4_takeStone 69 = .ok (.iload_n 1, 1) := by decide +kernel
theorem dX4_takeStone_70 : decode cX4_takeStone 70 = .ok (.bipush (-9), 2) := by decide +kernel
theorem dX4_takeStone_72 : decode cX4_takeStone 72 = .ok (.if_icmp .ne 8, 3) := by decide +kernel
theorem dX4_takeStone_75 : decode cX4_takeStone 75 = .ok (.bipush (-9), 2) := by decide +kernel
theorem dX4_takeStone_77 : decode cX4_takeStone 77 = .ok (.goto 20, 3) := by decide +kernel
theorem dX4_takeStone_80 : decode cX4_takeStone 80 = .ok (.aload_n 0, 1) := by decide +kernel
theorem dX4_takeStone_81 : decode cX4_takeStone 81 = .ok (.iconst 0, 1) := by decide +kernel
theorem dX4_takeStone_82 : decode cX4_takeStone 82 = .ok (.aload_n 0, 1) := by decide +kernel
theorem dX4_takeStone_83 : decode cX4_takeStone 83 = .ok (.getfield 15, 3) := by decide +kernel
theorem dX4_takeStone_86 : decode cX4_takeStone 86 = .ok (.getfield 68, 3) := by decide +kernel
theorem dX4_takeStone_89 : decode cX4_takeStone 89 = .ok (.invokevirtual 90, 3) := by decide +kernel
theorem dX4_takeStone_92 : decode cX4_takeStone 92 = .ok (.iconst 1, 1) := by decide +kernel
theorem dX4_takeStone_93 : decode cX4_takeStone 93 = .ok (.isub, 1) := by decide +kernel
theorem dX4_takeStone_94 : decode cX4_takeStone 94 = .ok (.invokevirtual 34, 3) := by decide +kernel
theorem dX4_takeStone_97 : decode cX4_takeStone 97 = .ok (.istore_n 2, 1) := by decide +kernel
theorem dX4_takeStone_98 : decode cX4_takeStone 98 = .ok (.iload_n 2, 1) := by decide +kernel
theorem dX4_takeStone_99 : decode cX4_takeStone 99 = .ok (.bipush (-9), 2) := by decide +kernel
theorem dX4_takeStone_101 : decode cX4_takeStone 101 = .ok (.if_icmp .ne 8, 3) := by decide +kernel
theorem dX4_takeStone_104 : decode cX4_takeStone 104 = .ok (.bipush (-9), 2) := by decide +kernel
theorem dX4_takeStone_106 : decode cX4_takeStone 106 = .ok (.goto 10, 3) := by decide +kernel
theorem dX4_takeStone_109 : decode cX4_takeStone 109 = .ok (.aload_n 0, 1) := by decide +kernel
theorem dX4_takeStone_110 : decode cX4_takeStone 110 = .ok (.iconst 0, 1) := by decide +kernel
theorem dX4_takeStone_111 : decode cX4_takeStone 111 = .ok (.bipush 9, 2) := by decide +kernel
theorem dX4_takeStone_113 : decode cX4_takeStone 113 = .ok (.invokevirtual 34, 3) := by decide +kernel
theorem dX4_takeStone_116 : decode cX4_takeStone 116 = .ok (.istore_n 3, 1) := by decide +kernel
theorem dX4_takeStone_117 : decode cX4_takeStone 117 = .ok (.iload_n 3, 1) := by decide +kernel
theorem dX4_takeStone_118 : decode cX4_takeStone 118 = .ok (.bipush (-9), 2) := by decide +kernel
theorem dX4_takeStone_120 : decode cX4_takeStone 120 = .ok (.if_icmp .ne 5, 3) := by decide +kernel
theorem dX4_takeStone_123 : decode cX4_takeStone 123 = .ok (.iconst 0, 1) := by decide +kernel
theorem dX4_takeStone_124 : decode cX4_takeStone 124 = .ok (.ireturn, 1) := by decide +kernel
theorem dX4_takeStone_125 : decode cX4_takeStone 125 = .ok (.aload_n 0, 1) := by decide +kernel
theorem dX4_takeStone_126 : decode cX4_takeStone 126 = .ok (.getfield 15, 3) := by decide +kernel
theorem dX4_takeStone_129 : decode cX4_takeStone 129 = .ok (.iload_n 1, 1) := by decide +kernel
theorem dX4_takeStone_130 : decode cX4_takeStone 130 = .ok (.iload_n 2, 1) := by decide +kernel
theorem dX4_takeStone_131 : decode cX4_takeStone 131 = .ok (.iload_n 3, 1) := by decide +kernel
theorem dX4_takeStone_132 : decode cX4_takeStone 132 = .ok (.invokevirtual 94, 3) := by decide +kernel
theorem dX4_takeStone_135 : decode cX4_takeStone 135 = .ok (.pop, 1) := by decide +kernel
theorem dX4_takeStone_136 : decode cX4_takeStone 136 = .ok (.iconst 1, 1) := by decide +kernel
theorem dX4_takeStone_137 : decode cX4_takeStone 137 = .ok (.ireturn, 1) := by decide +kernel
theorem dX4_takeFrost_0 : decode cX4_takeFrost 0 = .ok (.aload_n 0, 1) := by decide +kernel
theorem dX4_takeFrost_1 : decode cX4_takeFrost 1 = .ok (.getfield 15, 3) := by decide +kernel
theorem dX4_takeFrost_4 : decode cX4_takeFrost 4 = .ok (.getfield 97, 3) := by decide +kernel
theorem dX4_takeFrost_7 : decode cX4_takeFrost 7 = .ok (.ifCond .eq 5, 3) := by decide +kernel
theorem dX4_takeFrost_10 : decode cX4_takeFrost 10 = .ok (.iconst 0, 1) := by decide +kernel
theorem dX4_takeFrost_11 : decode cX4_takeFrost 11 = .ok (.ireturn, 1) := by decide +kernel
theorem dX4_takeFrost_12 : decode cX4_takeFrost 12 = .ok (.aload_n 0, 1) := by decide +kernel
theorem dX4_takeFrost_13 : decode cX4_takeFrost 13 = .ok (.dup, 1) := by decide +kernel
theorem dX4_takeFrost_14 : decode cX4_takeFrost 14 = .ok (.getfield 19, 3) := by decide +kernel
theorem dX4_takeFrost_17 : decode cX4_takeFrost 17 = .ok (.iconst 1, 1) := by decide +kernel
theorem dX4_takeFrost_18 : decode cX4_takeFrost 18 = .ok (.iadd, 1) := by decide +kernel
theorem dX4_takeFrost_19 : decode cX4_takeFrost 19 = .ok (.putfield 19, 3) := by decide +kernel
theorem dX4_takeFrost_22 : decode cX4_takeFrost 22 = .ok (.aload_n 0, 1) := by decide +kernel
theorem dX4_takeFrost_23 : decode cX4_takeFrost 23 = .ok (.getfield 15, 3) := by decide +kernel
theorem dX4_takeFrost_26 : decode cX4_takeFrost 26 = .ok (.iconst 1, 1) := by decide +kernel
theorem dX4_takeFrost_27 : decode cX4_takeFrost 27 = .ok (.putfield 97, 3) := by decide +kernel
theorem dX4_takeFrost_30 : decode cX4_takeFrost 30 = .ok (.iconst 1, 1) := by decide +kernel
theorem dX4_takeFrost_31 : decode cX4_takeFrost 31 = .ok (.ireturn, 1) := by decide +kernel
theorem dX5_withoutLastGroups_0 : decode cX5_withoutLastGroups 0 = .ok (.lload_n 0, 1) := by decide +kernel
theorem dX5_withoutLastGroups_1 : decode cX5_withoutLastGroups 1 = .ok (.lstore_n 3, 1) := by decide +kernel
theorem dX5_withoutLastGroups_2 : decode cX5_withoutLastGroups 2 = .ok (.iconst 0, 1) := by decide +kernel
theorem dX5_withoutLastGroups_3 : decode cX5_withoutLastGroups 3 = .ok (.istore 5, 2) := by decide +kernel
theorem dX5_withoutLastGroups_5 : decode cX5_withoutLastGroups 5 = .ok (.iload 5, 2) := by decide +kernel
theorem dX5_withoutLastGroups_7 : decode cX5_withoutLastGroups 7 = .ok (.iload_n 2, 1) := by decide +kernel
theorem dX5_withoutLastGroups_8 : decode cX5_withoutLastGroups 8 = .ok (.if_icmp .ge 15, 3) := by decide +kernel
theorem dX5_withoutLastGroups_11 : decode cX5_withoutLastGroups 11 = .ok (.lload_n 3, 1) := by decide +kernel
theorem dX5_withoutLastGroups_12 : decode cX5_withoutLastGroups 12 = .ok (.ldc2_w 9, 3) := by decide +kernel
theorem dX5_withoutLastGroups_15 : decode cX5_withoutLastGroups 15 = .ok (.ldiv, 1) := by decide +kernel
theorem dX5_withoutLastGroups_16 : decode cX5_withoutLastGroups 16 = .ok (.lstore_n 3, 1) := by decide +kernel
theorem dX5_withoutLastGroups_17 : decode cX5_withoutLastGroups 17 = .ok (.iinc 5 1, 3) := by decide +kernel
theorem dX5_withoutLastGroups_20 : decode cX5_withoutLastGroups 20 = .ok (.goto (-15), 3) := by decide +kernel
theorem dX5_withoutLastGroups_23 : decode cX5_withoutLastGroups 23 = .ok (.lload_n 3, 1) := by decide +kernel
theorem dX5_withoutLastGroups_24 : decode cX5_withoutLastGroups 24 = .ok (.lreturn, 1) := by decide +kernel
theorem dX5_lastGroup_0 : decode cX5_lastGroup 0 = .ok (.lload_n 0, 1) := by decide +kernel
theorem dX5_lastGroup_1 : decode cX5_lastGroup 1 = .ok (.ldc2_w 9, 3) := by decide +kernel
theorem dX5_lastGroup_4 : decode cX5_lastGroup 4 = .ok (.lrem, 1) := by decide +kernel
theorem dX5_lastGroup_5 : decode cX5_lastGroup 5 = .ok (.l2i, 1) := by decide +kernel
theorem dX5_lastGroup_6 : decode cX5_lastGroup 6 = .ok (.ireturn, 1) := by decide +kernel
theorem dX5_succeeds_0 : decode cX5_succeeds 0 = .ok (.iload_n 1, 1) := by decide +kernel
theorem dX5_succeeds_1 : decode cX5_succeeds 1 = .ok (.sipush 1000, 3) := by decide +kernel
theorem dX5_succeeds_4 : decode cX5_succeeds 4 = .ok (.idiv, 1) := by decide +kernel
theorem dX5_succeeds_5 : decode cX5_succeeds 5 = .ok (.bipush 10, 2) := by decide +kernel
theorem dX5_succeeds_7 : decode cX5_succeeds 7 = .ok (.irem, 1) := by decide +kernel
theorem dX5_succeeds_8 : decode cX5_succeeds 8 = .ok (.istore_n 2, 1) := by decide +kernel
theorem dX5_succeeds_9 : decode cX5_succeeds 9 = .ok (.iload_n 1, 1) := by decide +kernel
theorem dX5_succeeds_10 : decode cX5_succeeds 10 = .ok (.bipush 100, 2) := by decide +kernel
theorem dX5_succeeds_12 : decode cX5_succeeds 12 = .ok (.idiv, 1) := by decide +kernel
theorem dX5_succeeds_13 : decode cX5_succeeds 13 = .ok (.bipush 10, 2) := by decide +kernel
theorem dX5_succeeds_15 : decode cX5_succeeds 15 = .ok (.irem, 1) := by decide +kernel
theorem dX5_succeeds_16 : decode cX5_succeeds 16 = .ok (.istore_n 3, 1) := by decide +kernel
theorem dX5_succeeds_17 : decode cX5_succeeds 17 = .ok (.iload_n 1, 1) := by decide +kernel
theorem dX5_succeeds_18 : decode cX5_succeeds 18 = .ok (.bipush 10, 2) := by decide +kernel
theorem dX5_succeeds_20 : decode cX5_succeeds 20 = .ok (.idiv, 1) := by decide +kernel
theorem dX5_succeeds_21 : decode cX5_succeeds 21 = .ok (.bipush 10, 2) := by decide +kernel
theorem dX5_succeeds_23 : decode cX5_succeeds 23 = .ok (.irem, 1) := by decide +kernel
theorem dX5_succeeds_24 : decode cX5_succeeds 24 = .ok (.istore 4, 2) := by decide +kernel
theorem dX5_succeeds_26 : decode cX5_succeeds 26 = .ok (.iload_n 1, 1) := by decide +kernel
theorem dX5_succeeds_27 : decode cX5_succeeds 27 = .ok (.bipush 10, 2) := by decide +kernel
theorem dX5_succeeds_29 : decode cX5_succeeds 29 = .ok (.irem, 1) := by decide +kernel
theorem dX5_succeeds_30 : decode cX5_succeeds 30 = .ok (.istore 5, 2) := by decide +kernel
theorem dX5_succeeds_32 : decode cX5_succeeds 32 = .ok (.iload_n 1, 1) := by decide +kernel
theorem dX5_succeeds_33 : decode cX5_succeeds 33 = .ok (.bipush 100, 2) := by decide +kernel
theorem dX5_succeeds_35 : decode cX5_succeeds 35 = .ok (.irem, 1) := by decide +kernel
theorem dX5_succeeds_36 : decode cX5_succeeds 36 = .ok (.istore 6, 2) := by decide +kernel
theorem dX5_succeeds_38 : decode cX5_succeeds 38 = .ok (.iload_n 1, 1) := by decide +kernel
theorem dX5_succeeds_39 : decode cX5_succeeds 39 = .ok (.sipush 10000, 3) := by decide +kernel
theorem dX5_succeeds_42 : decode cX5_succeeds 42 = .ok (.idiv, 1) := by decide +kernel
theorem dX5_succeeds_43 : decode cX5_succeeds 43 = .ok (.tableswitch 269 1 9 #[49, 71, 94, 103, 126, 154, 182, 205, 227], 49) := by decide +kernel
theorem dX5_succeeds_92 : decode cX5_succeeds 92 = .ok (.iload 5, 2) := by decide +kernel
theorem dX5_succeeds_94 : decode cX5_succeeds 94 = .ok (.ifCond .ne 18, 3) := by decide +kernel
theorem dX5_succeeds_97 : decode cX5_succeeds 97 = .ok (.aload_n 0, 1) := by decide +kernel
theorem dX5_succeeds_98 : decode cX5_succeeds 98 = .ok (.iload_n 2, 1) := by decide +kernel
theorem dX5_succeeds_99 : decode cX5_succeeds 99 = .ok (.iload_n 3, 1) := by decide +kernel
theorem dX5_succeeds_100 : decode cX5_succeeds 100 = .ok (.iload 4, 2) := by decide +kernel
theorem dX5_succeeds_102 : decode cX5_succeeds 102 = .ok (.invokestatic 11, 3) := by decide +kernel
theorem dX5_succeeds_105 : decode cX5_succeeds 105 = .ok (.ifCond .eq 7, 3) := by decide +kernel
theorem dX5_succeeds_108 : decode cX5_succeeds 108 = .ok (.iconst 1, 1) := by decide +kernel
theorem dX5_succeeds_109 : decode cX5_succeeds 109 = .ok (.goto 4, 3) := by decide +kernel
theorem dX5_succeeds_112 : decode cX5_succeeds 112 = .ok (.iconst 0, 1) := by decide +kernel
theorem dX5_succeeds_113 : decode cX5_succeeds 113 = .ok (.ireturn, 1) := by decide +kernel
theorem dX5_succeeds_114 : decode cX5_succeeds 114 = .ok (.iload_n 2, 1) := by decide +kernel
theorem dX5_succeeds_115 : decode cX5_succeeds 115 = .ok (.ifCond .ne 20, 3) := by decide +kernel
theorem dX5_succeeds_118 : decode cX5_succeeds 118 = .ok (.iload_n 3, 1) := by decide +kernel
theorem dX5_succeeds_119 : decode cX5_succeeds 119 = .ok (.ifCond .ne 16, 3) := by decide +kernel
theorem dX5_succeeds_122 : decode cX5_succeeds 122 = .ok (.aload_n 0, 1) := by decide +kernel
theorem dX5_succeeds_123 : decode cX5_succeeds 123 = .ok (.iload 6, 2) := by decide +kernel
theorem dX5_succeeds_125 : decode cX5_succeeds 125 = .ok (.invokestatic 17, 3) := by decide +kernel
theorem dX5_succeeds_128 : decode cX5_succeeds 128 = .ok (.ifCond .eq 7, 3) := by decide +kernel
theorem dX5_succeeds_131 : decode cX5_succeeds 131 = .ok (.iconst 1, 1) := by decide +kernel
theorem dX5_succeeds_132 : decode cX5_succeeds 132 = .ok (.goto 4, 3) := by decide +kernel
theorem dX5_succeeds_135 : decode cX5_succeeds 135 = .ok (.iconst 0, 1) := by decide +kernel
theorem dX5_succeeds_136 : decode cX5_succeeds 136 = .ok (.ireturn, 1) := by decide +kernel
theorem dX5_succeeds_137 : decode cX5_succeeds 137 = .ok (.aload_n 0, 1) := by decide +kernel
theorem dX5_succeeds_138 : decode cX5_succeeds 138 = .ok (.iload_n 2, 1) := by decide +kernel
theorem dX5_succeeds_139 : decode cX5_succeeds 139 = .ok (.iload 6, 2) := by decide +kernel
theorem dX5_succeeds_141 : decode cX5_succeeds 141 = .ok (.iload_n 3, 1) := by decide +kernel
theorem dX5_succeeds_142 : decode cX5_succeeds 142 = .ok (.invokestatic 21, 3) := by decide +kernel
theorem dX5_succeeds_145 : decode cX5_succeeds 145 = .ok (.ireturn, 1) := by decide +kernel
theorem dX5_succeeds_146 : decode cX5_succeeds 146 = .ok (.iload_n 2, 1) := by decide +kernel
theorem dX5_succeeds_147 : decode cX5_succeeds 147 = .ok (.ifCond .ne 20, 3) := by decide +kernel
theorem dX5_succeeds_150 : decode cX5_succeeds 150 = .ok (.iload_n 3, 1) := by decide +kernel
theorem dX5_succeeds_151 : decode cX5_succeeds 151 = .ok (.ifCond .ne 16, 3) := by decide +kernel
theorem dX5_succeeds_154 : decode cX5_succeeds 154 = .ok (.aload_n 0, 1) := by decide +kernel
theorem dX5_succeeds_155 : decode cX5_succeeds 155 = .ok (.iload 6, 2) := by decide +kernel
theorem dX5_succeeds_157 : decode cX5_succeeds 157 = .ok (.invokestatic 24, 3) := by decide +kernel
theorem dX5_succeeds_160 : decode cX5_succeeds 160 = .ok (.ifCond .eq 7, 3) := by decide +kernel
theorem dX5_succeeds_163 : decode cX5_succeeds 163 = .ok (.iconst 1, 1) := by decide +kernel
theorem dX5_succeeds_164 : decode cX5_succeeds 164 = .ok (.goto 4, 3) := by decide +kernel
theorem dX5_succeeds_167 : decode cX5_succeeds 167 = .ok (.iconst 0, 1) := by decide +kernel
theorem dX5_succeeds_168 : decode cX5_succeeds 168 = .ok (.ireturn, 1) := by decide +kernel
theorem dX5_succeeds_169 : decode cX5_succeeds 169 = .ok (.iload_n 2, 1) := by decide +kernel
theorem dX5_succeeds_170 : decode cX5_succeeds 170 = .ok (.ifCond .ne 25, 3) := by decide +kernel
theorem dX5_succeeds_173 : decode cX5_succeeds 173 = .ok (.iload_n 3, 1) := by decide +kernel
theorem dX5_succeeds_174 : decode cX5_succeeds 174 = .ok (.ifCond .ne 21, 3) := by decide +kernel
theorem dX5_succeeds_177 : decode cX5_succeeds 177 = .ok (.iload 4, 2) := by decide +kernel
theorem dX5_succeeds_179 : decode cX5_succeeds 179 = .ok (.ifCond .ne 16, 3) := by decide +kernel
theorem dX5_succeeds_182 : decode cX5_succeeds 182 = .ok (.aload_n 0, 1) := by decide +kernel
theorem dX5_succeeds_183 : decode cX5_succeeds 183 = .ok (.iload 5, 2) := by decide +kernel
theorem dX5_succeeds_185 : decode cX5_succeeds 185 = .ok (.invokestatic 27, 3) := by decide +kernel
theorem dX5_succeeds_188 : decode cX5_succeeds 188 = .ok (.ifCond .eq 7, 3) := by decide +kernel
theorem dX5_succeeds_191 : decode cX5_succeeds 191 = .ok (.iconst 1, 1) := by decide +kernel
theorem dX5_succeeds_192 : decode cX5_succeeds 192 = .ok (.goto 4, 3) := by decide +kernel
theorem dX5_succeeds_195 : decode cX5_succeeds 195 = .ok (.iconst 0, 1) := by decide +kernel
theorem dX5_succeeds_196 : decode cX5_succeeds 196 = .ok (.ireturn, 1) := by decide +kernel
theorem dX5_succeeds_197 : decode cX5_succeeds 197 = .ok (.iload_n 2, 1) := by decide +kernel
theorem dX5_succeeds_198 : decode cX5_succeeds 198 = .ok (.ifCond .ne 25, 3) := by decide +kernel
theorem dX5_succeeds_201 : decode cX5_succeeds 201 = .ok (.iload_n 3, 1) := by decide +kernel
theorem dX5_succeeds_202 : decode cX5_succeeds 202 = .ok (.ifCond .ne 21, 3) := by decide +kernel
theorem dX5_succeeds_205 : decode cX5_succeeds 205 = .ok (.iload 4, 2) := by decide +kernel
theorem dX5_succeeds_207 : decode cX5_succeeds 207 = .ok (.ifCond .ne 16, 3) := by decide +kernel
theorem dX5_succeeds_210 : decode cX5_succeeds 210 = .ok (.aload_n 0, 1) := by decide +kernel
theorem dX5_succeeds_211 : decode cX5_succeeds 211 = .ok (.iload 5, 2) := by decide +kernel
theorem dX5_succeeds_213 : decode cX5_succeeds 213 = .ok (.invokestatic 32, 3) := by decide +kernel
theorem dX5_succeeds_216 : decode cX5_succeeds 216 = .ok (.ifCond .eq 7, 3) := by decide +kernel
theorem dX5_succeeds_219 : decode cX5_succeeds 219 = .ok (.iconst 1, 1) := by decide +kernel
theorem dX5_succeeds_220 : decode cX5_succeeds 220 = .ok (.goto 4, 3) := by decide +kernel
theorem dX5_succeeds_223 : decode cX5_succeeds 223 = .ok (.iconst 0, 1) := by decide +kernel
theorem dX5_succeeds_224 : decode cX5_succeeds 224 = .ok (.ireturn, 1) := by decide +kernel
theorem dX5_succeeds_225 : decode cX5_succeeds 225 = .ok (.iload_n 2, 1) := by decide +kernel
theorem dX5_succeeds_226 : decode cX5_succeeds 226 = .ok (.ifCond .ne 20, 3) := by decide +kernel
theorem dX5_succeeds_229 : decode cX5_succeeds 229 = .ok (.iload_n 3, 1) := by decide +kernel
theorem dX5_succeeds_230 : decode cX5_succeeds 230 = .ok (.ifCond .ne 16, 3) := by decide +kernel
theorem dX5_succeeds_233 : decode cX5_succeeds 233 = .ok (.aload_n 0, 1) := by decide +kernel
theorem dX5_succeeds_234 : decode cX5_succeeds 234 = .ok (.iload 6, 2) := by decide +kernel
theorem dX5_succeeds_236 : decode cX5_succeeds 236 = .ok (.invokestatic 35, 3) := by decide +kernel
theorem dX5_succeeds_239 : decode cX5_succeeds 239 = .ok (.ifCond .eq 7, 3) := by decide +kernel
theorem dX5_succeeds_242 : decode cX5_succeeds 242 = .ok (.iconst 1, 1) := by decide +kernel
theorem dX5_succeeds_243 : decode cX5_succeeds 243 = .ok (.goto 4, 3) := by decide +kernel
theorem dX5_succeeds_246 : decode cX5_succeeds 246 = .ok (.iconst 0, 1) := by decide +kernel
theorem dX5_succeeds_247 : decode cX5_succeeds 247 = .ok (.ireturn, 1) := by decide +kernel
theorem dX5_succeeds_248 : decode cX5_succeeds 248 = .ok (.aload_n 0, 1) := by decide +kernel
theorem dX5_succeeds_249 : decode cX5_succeeds 249 = .ok (.getfield 38, 3) := by decide +kernel
theorem dX5_succeeds_252 : decode cX5_succeeds 252 = .ok (.iconst 3, 1) := by decide +kernel
theorem dX5_succeeds_253 : decode cX5_succeeds 253 = .ok (.invokevirtual 44, 3) := by decide +kernel
theorem dX5_succeeds_256 : decode cX5_succeeds 256 = .ok (.iload_n 1, 1) := by decide +kernel
theorem dX5_succeeds_257 : decode cX5_succeeds 257 = .ok (.sipush 10000, 3) := by decide +kernel
theorem dX5_succeeds_260 : decode cX5_succeeds 260 = .ok (.irem, 1) := by decide +kernel
theorem dX5_succeeds_261 : decode cX5_succeeds 261 = .ok (.if_icmp .lt 7, 3) := by decide +kernel
theorem dX5_succeeds_264 : decode cX5_succeeds 264 = .ok (.iconst 1, 1) := by decide +kernel
theorem dX5_succeeds_265 : decode cX5_succeeds 265 = .ok (.goto 4, 3) := by decide +kernel
theorem dX5_succeeds_268 : decode cX5_succeeds 268 = .ok (.iconst 0, 1) := by decide +kernel
theorem dX5_succeeds_269 : decode cX5_succeeds 269 = .ok (.ireturn, 1) := by decide +kernel
theorem dX5_succeeds_270 : decode cX5_succeeds 270 = .ok (.iload_n 3, 1) := by decide +kernel
theorem dX5_succeeds_271 : decode cX5_succeeds 271 = .ok (.ifCond .ne 39, 3) := by decide +kernel
theorem dX5_succeeds_274 : decode cX5_succeeds 274 = .ok (.iload 4, 2) := by decide +kernel
theorem dX5_succeeds_276 : decode cX5_succeeds 276 = .ok (.ifCond .ne 34, 3) := by decide +kernel
theorem dX5_succeeds_279 : decode cX5_succeeds 279 = .ok (.aload_n 0, 1) := by decide +kernel
theorem dX5_succeeds_280 : decode cX5_succeeds 280 = .ok (.getfield 50, 3) := by decide +kernel
theorem dX5_succeeds_283 : decode cX5_succeeds 283 = .ok (.iload_n 2, 1) := by decide +kernel
theorem dX5_succeeds_284 : decode cX5_succeeds 284 = .ok (.invokevirtual 53, 3) := by decide +kernel
theorem dX5_succeeds_287 : decode cX5_succeeds 287 = .ok (.ifCond .eq 23, 3) := by decide +kernel
theorem dX5_succeeds_290 : decode cX5_succeeds 290 = .ok (.aload_n 0, 1) := by decide +kernel
theorem dX5_succeeds_291 : decode cX5_succeeds 291 = .ok (.getfield 57, 3) := by decide +kernel
theorem dX5_succeeds_294 : decode cX5_succeeds 294 = .ok (.iconst 0, 1) := by decide +kernel
theorem dX5_succeeds_295 : decode cX5_succeeds 295 = .ok (.iload_n 2, 1) := by decide +kernel
theorem dX5_succeeds_296 : decode cX5_succeeds 296 = .ok (.iconst 3, 1) := by decide +kernel
theorem dX5_succeeds_297 : decode cX5_succeeds 297 = .ok (.iconst 3, 1) := by decide +kernel
theorem dX5_succeeds_298 : decode cX5_succeeds 298 = .ok (.invokevirtual 60, 3) := by decide +kernel
theorem dX5_succeeds_301 : decode cX5_succeeds 301 = .ok (.iload 5, 2) := by decide +kernel
theorem dX5_succeeds_303 : decode cX5_succeeds 303 = .ok (.if_icmp .ne 7, 3) := by decide +kernel
theorem dX5_succeeds_306 : decode cX5_succeeds 306 = .ok (.iconst 1, 1) := by decide +kernel
theorem dX5_succeeds_307 : decode cX5_succeeds 307 = .ok (.goto 4, 3) := by decide +kernel
theorem dX5_succeeds_310 : decode cX5_succeeds 310 = .ok (.iconst 0, 1) := by decide +kernel
theorem dX5_succeeds_311 : decode cX5_succeeds 311 = .ok (.ireturn, 1) := by decide +kernel
theorem dX5_succeeds_312 : decode cX5_succeeds 312 = .ok (.iconst 0, 1) := by decide +kernel
theorem dX5_succeeds_313 : decode cX5_succeeds 313 = .ok (.ireturn, 1) := by decide +kernel
theorem dX5_begins_0 : decode cX5_begins 0 = .ok (.iload_n 1, 1) := by decide +kernel
theorem dX5_begins_1 : decode cX5_begins 1 = .ok (.iconst 1, 1) := by decide +kernel
theorem dX5_begins_2 : decode cX5_begins 2 = .ok (.if_icmp .le 5, 3) := by decide +kernel
theorem dX5_begins_5 : decode cX5_begins 5 = .ok (.iconst 0, 1) := by decide +kernel
theorem dX5_begins_6 : decode cX5_begins 6 = .ok (.ireturn, 1) := by decide +kernel
theorem dX5_begins_7 : decode cX5_begins 7 = .ok (.aload_n 0, 1) := by decide +kernel
theorem dX5_begins_8 : decode cX5_begins 8 = .ok (.iload_n 1, 1) := by decide +kernel
theorem dX5_begins_9 : decode cX5_begins 9 = .ok (.iconst 1, 1) := by decide +kernel
theorem dX5_begins_10 : decode cX5_begins 10 = .ok (.if_icmp .ne 7, 3) := by decide +kernel
theorem dX5_begins_13 : decode cX5_begins 13 = .ok (.iconst 1, 1) := by decide +kernel
theorem dX5_begins_14 : decode cX5_begins 14 = .ok (.goto 4, 3) := by decide +kernel
theorem dX5_begins_17 : decode cX5_begins 17 = .ok (.iconst 0, 1) := by decide +kernel
theorem dX5_begins_18 : decode cX5_begins 18 = .ok (.invokevirtual 64, 3) := by decide +kernel
theorem dX5_begins_21 : decode cX5_begins 21 = .ok (.pop, 1) := by decide +kernel
theorem dX5_begins_22 : decode cX5_begins 22 = .ok (.iconst 1, 1) := by decide +kernel
theorem dX5_begins_23 : decode cX5_begins 23 = .ok (.ireturn, 1) := by decide +kernel
theorem dX5_bounds_0 : decode cX5_bounds 0 = .ok (.aload_n 0, 1) := by decide +kernel
theorem dX5_bounds_1 : decode cX5_bounds 1 = .ok (.iload_n 1, 1) := by decide +kernel
theorem dX5_bounds_2 : decode cX5_bounds 2 = .ok (.putfield 68, 3) := by decide +kernel
theorem dX5_bounds_5 : decode cX5_bounds 5 = .ok (.iconst 1, 1) := by decide +kernel
theorem dX5_bounds_6 : decode cX5_bounds 6 = .ok (.ireturn, 1) := by decide +kernel
theorem dX6_init_0 : decode cX6_init 0 = .ok (.aload_n 0, 1) := by decide +kernel
theorem dX6_init_1 : decode cX6_init 1 = .ok (.invokespecial 3, 3) := by decide +kernel
theorem dX6_init_4 : decode cX6_init 4 = .ok (.aload_n 0, 1) := by decide +kernel
theorem dX6_init_5 : decode cX6_init 5 = .ok (.iconst 2, 1) := by decide +kernel
theorem dX6_init_6 : decode cX6_init 6 = .ok (.anewarray 9, 3) := by decide +kernel
theorem dX6_init_9 : decode cX6_init 9 = .ok (.putfield 11, 3) := by decide +kernel
theorem dX6_init_12 : decode cX6_init 12 = .ok (.aload_n 0, 1) := by decide +kernel
theorem dX6_init_13 : decode cX6_init 13 = .ok (.iconst 2, 1) := by decide +kernel
theorem dX6_init_14 : decode cX6_init 14 = .ok (.newarray .boolean, 2) := by decide +kernel
theorem dX6_init_16 : decode cX6_init 16 = .ok (.putfield 17, 3) := by decide +kernel
theorem dX6_init_19 : decode cX6_init 19 = .ok (.iconst 0, 1) := by decide +kernel
theorem dX6_init_20 : decode cX6_init 20 = .ok (.istore_n 1, 1) := by decide +kernel
theorem dX6_init_21 : decode cX6_init 21 = .ok (.iload_n 1, 1) := by decide +kernel
theorem dX6_init_22 : decode cX6_init 22 = .ok (.aload_n 0, 1) := by decide +kernel
theorem dX6_init_23 : decode cX6_init 23 = .ok (.getfield 11, 3) := by decide +kernel
theorem dX6_init_26 : decode cX6_init 26 = .ok (.arraylength, 1) := by decide +kernel
theorem dX6_init_27 : decode cX6_init 27 = .ok (.if_icmp .ge 22, 3) := by decide +kernel
theorem dX6_init_30 : decode cX6_init 30 = .ok (.aload_n 0, 1) := by decide +kernel
theorem dX6_init_31 : decode cX6_init 31 = .ok (.getfield 11, 3) := by decide +kernel
theorem dX6_init_34 : decode cX6_init 34 = .ok (.iload_n 1, 1) := by decide +kernel
theorem dX6_init_35 : decode cX6_init 35 = .ok (.new 9, 3) := by decide +kernel
theorem dX6_init_38 : decode cX6_init 38 = .ok (.dup, 1) := by decide +kernel
theorem dX6_init_39 : decode cX6_init 39 = .ok (.invokespecial 21, 3) := by decide +kernel
theorem dX6_init_42 : decode cX6_init 42 = .ok (.aastore, 1) := by decide +kernel
theorem dX6_init_43 : decode cX6_init 43 = .ok (.iinc 1 1, 3) := by decide +kernel
theorem dX6_init_46 : decode cX6_init 46 = .ok (.goto (-25), 3) := by decide +kernel
theorem dX6_init_49 : decode cX6_init 49 = .ok (.return_, 1) := by decide +kernel
theorem dX6_emptyAll_0 : decode cX6_emptyAll 0 = .ok (.iconst 0, 1) := by decide +kernel
theorem dX6_emptyAll_1 : decode cX6_emptyAll 1 = .ok (.istore_n 1, 1) := by decide +kernel
theorem dX6_emptyAll_2 : decode cX6_emptyAll 2 = .ok (.iload_n 1, 1) := by decide +kernel
theorem dX6_emptyAll_3 : decode cX6_emptyAll 3 = .ok (.aload_n 0, 1) := by decide +kernel
theorem dX6_emptyAll_4 : decode cX6_emptyAll 4 = .ok (.getfield 17, 3) := by decide +kernel
theorem dX6_emptyAll_7 : decode cX6_emptyAll 7 = .ok (.arraylength, 1) := by decide +kernel
theorem dX6_emptyAll_8 : decode cX6_emptyAll 8 = .ok (.if_icmp .ge 16, 3) := by decide +kernel
theorem dX6_emptyAll_11 : decode cX6_emptyAll 11 = .ok (.aload_n 0, 1) := by decide +kernel
theorem dX6_emptyAll_12 : decode cX6_emptyAll 12 = .ok (.getfield 17, 3) := by decide +kernel
theorem dX6_emptyAll_15 : decode cX6_emptyAll 15 = .ok (.iload_n 1, 1) := by decide +kernel
theorem dX6_emptyAll_16 : decode cX6_emptyAll 16 = .ok (.iconst 0, 1) := by decide +kernel
theorem dX6_emptyAll_17 : decode cX6_emptyAll 17 = .ok (.bastore, 1) := by decide +kernel
theorem dX6_emptyAll_18 : decode cX6_emptyAll 18 = .ok (.iinc 1 1, 3) := by decide +kernel
theorem dX6_emptyAll_21 : decode cX6_emptyAll 21 = .ok (.goto (-19), 3) := by decide +kernel
theorem dX6_emptyAll_24 : decode cX6_emptyAll 24 = .ok (.return_, 1) := by decide +kernel
theorem dX6_isFilled_0 : decode cX6_isFilled 0 = .ok (.iload_n 1, 1) := by decide +kernel
theorem dX6_isFilled_1 : decode cX6_isFilled 1 = .ok (.ifCond .lt 25, 3) := by decide +kernel
theorem dX6_isFilled_4 : decode cX6_isFilled 4 = .ok (.iload_n 1, 1) := by decide +kernel
theorem dX6_isFilled_5 : decode cX6_isFilled 5 = .ok (.aload_n 0, 1) := by decide +kernel
theorem dX6_isFilled_6 : decode cX6_isFilled 6 = .ok (.getfield 17, 3) := by decide +kernel
theorem dX6_isFilled_9 : decode cX6_isFilled 9 = .ok (.arraylength, 1) := by decide +kernel
theorem dX6_isFilled_10 : decode cX6_isFilled 10 = .ok (.if_icmp .ge 16, 3) := by decide +kernel
theorem dX6_isFilled_13 : decode cX6_isFilled 13 = .ok (.aload_n 0, 1) := by decide +kernel
theorem dX6_isFilled_14 : decode cX6_isFilled 14 = .ok (.getfield 17, 3) := by decide +kernel
theorem dX6_isFilled_17 : decode cX6_isFilled 17 = .ok (.iload_n 1, 1) := by decide +kernel
theorem dX6_isFilled_18 : decode cX6_isFilled 18 = .ok (.baload, 1) := by decide +kernel
theorem dX6_isFilled_19 : decode cX6_isFilled 19 = .ok (.ifCond .eq 7, 3) := by decide +kernel
theorem dX6_isFilled_22 : decode cX6_isFilled 22 = .ok (.iconst 1, 1) := by decide +kernel
theorem dX6_isFilled_23 : decode cX6_isFilled 23 = .ok (.goto 4, 3) := by decide +kernel
theorem dX6_isFilled_26 : decode cX6_isFilled 26 = .ok (.iconst 0, 1) := by decide +kernel
theorem dX6_isFilled_27 : decode cX6_isFilled 27 = .ok (.ireturn, 1) := by decide +kernel
theorem dX6_store_0 : decode cX6_store 0 = .ok (.iload_n 1, 1) := by decide +kernel
theorem dX6_store_1 : decode cX6_store 1 = .ok (.ifCond .lt 38, 3) := by decide +kernel
theorem dX6_store_4 : decode cX6_store 4 = .ok (.iload_n 1, 1) := by decide +kernel
theorem dX6_store_5 : decode cX6_store 5 = .ok (.aload_n 0, 1) := by decide +kernel
theorem dX6_store_6 : decode cX6_store 6 = .ok (.getfield 11, 3) := by decide +kernel
theorem dX6_store_9 : decode cX6_store 9 = .ok (.arraylength, 1) := by decide +kernel
theorem dX6_store_10 : decode cX6_store 10 = .ok (.if_icmp .ge 29, 3) := by decide +kernel
theorem dX6_store_13 : decode cX6_store 13 = .ok (.iload_n 1, 1) := by decide +kernel
theorem dX6_store_14 : decode cX6_store 14 = .ok (.aload_n 0, 1) := by decide +kernel
theorem dX6_store_15 : decode cX6_store 15 = .ok (.getfield 17, 3) := by decide +kernel
theorem dX6_store_18 : decode cX6_store 18 = .ok (.arraylength, 1) := by decide +kernel
theorem dX6_store_19 : decode cX6_store 19 = .ok (.if_icmp .ge 20, 3) := by decide +kernel
theorem dX6_store_22 : decode cX6_store 22 = .ok (.aload_n 2, 1) := by decide +kernel
theorem dX6_store_23 : decode cX6_store 23 = .ok (.aload_n 0, 1) := by decide +kernel
theorem dX6_store_24 : decode cX6_store 24 = .ok (.getfield 11, 3) := by decide +kernel
theorem dX6_store_27 : decode cX6_store 27 = .ok (.iload_n 1, 1) := by decide +kernel
theorem dX6_store_28 : decode cX6_store 28 = .ok (.aaload, 1) := by decide +kernel
theorem dX6_store_29 : decode cX6_store 29 = .ok (.invokestatic 22, 3) := by decide +kernel
theorem dX6_store_32 : decode cX6_store 32 = .ok (.aload_n 0, 1) := by decide +kernel
theorem dX6_store_33 : decode cX6_store 33 = .ok (.getfield 17, 3) := by decide +kernel
theorem dX6_store_36 : decode cX6_store 36 = .ok (.iload_n 1, 1) := by decide +kernel
theorem dX6_store_37 : decode cX6_store 37 = .ok (.iconst 1, 1) := by decide +kernel
theorem dX6_store_38 : decode cX6_store 38 = .ok (.bastore, 1) := by decide +kernel
theorem dX6_store_39 : decode cX6_store 39 = .ok (.return_, 1) := by decide +kernel
theorem dX6_fetch_0 : decode cX6_fetch 0 = .ok (.iload_n 1, 1) := by decide +kernel
theorem dX6_fetch_1 : decode cX6_fetch 1 = .ok (.ifCond .lt 22, 3) := by decide +kernel
theorem dX6_fetch_4 : decode cX6_fetch 4 = .ok (.iload_n 1, 1) := by decide +kernel
theorem dX6_fetch_5 : decode cX6_fetch 5 = .ok (.aload_n 0, 1) := by decide +kernel
theorem dX6_fetch_6 : decode cX6_fetch 6 = .ok (.getfield 11, 3) := by decide +kernel
theorem dX6_fetch_9 : decode cX6_fetch 9 = .ok (.arraylength, 1) := by decide +kernel
theorem dX6_fetch_10 : decode cX6_fetch 10 = .ok (.if_icmp .ge 13, 3) := by decide +kernel
theorem dX6_fetch_13 : decode cX6_fetch 13 = .ok (.aload_n 0, 1) := by decide +kernel
theorem dX6_fetch_14 : decode cX6_fetch 14 = .ok (.getfield 11, 3) := by decide +kernel
theorem dX6_fetch_17 : decode cX6_fetch 17 = .ok (.iload_n 1, 1) := by decide +kernel
theorem dX6_fetch_18 : decode cX6_fetch 18 = .ok (.aaload, 1) := by decide +kernel
theorem dX6_fetch_19 : decode cX6_fetch 19 = .ok (.aload_n 2, 1) := by decide +kernel
theorem dX6_fetch_20 : decode cX6_fetch 20 = .ok (.invokestatic 22, 3) := by decide +kernel
theorem dX6_fetch_23 : decode cX6_fetch 23 = .ok (.return_, 1) := by decide +kernel
theorem dX7_playRound_0 : decode cX7_playRound 0 = .ok (.iload_n 1, 1) := by decide +kernel
theorem dX7_playRound_1 : decode cX7_playRound 1 = .ok (.bipush 8, 2) := by decide +kernel
theorem dX7_playRound_3 : decode cX7_playRound 3 = .ok (.idiv, 1) := by decide +kernel
theorem dX7_playRound_4 : decode cX7_playRound 4 = .ok (.aload_n 0, 1) := by decide +kernel
theorem dX7_playRound_5 : decode cX7_playRound 5 = .ok (.getfield 9, 3) := by decide +kernel
theorem dX7_playRound_8 : decode cX7_playRound 8 = .ok (.invokevirtual 15, 3) := by decide +kernel
theorem dX7_playRound_11 : decode cX7_playRound 11 = .ok (.invokestatic 21, 3) := by decide +kernel
theorem dX7_playRound_14 : decode cX7_playRound 14 = .ok (.istore_n 2, 1) := by decide +kernel
theorem dX7_playRound_15 : decode cX7_playRound 15 = .ok (.iload_n 1, 1) := by decide +kernel
theorem dX7_playRound_16 : decode cX7_playRound 16 = .ok (.bipush 8, 2) := by decide +kernel
theorem dX7_playRound_18 : decode cX7_playRound 18 = .ok (.irem, 1) := by decide +kernel
theorem dX7_playRound_19 : decode cX7_playRound 19 = .ok (.tableswitch 104 0 6 #[41, 41, 41, 72, 72, 89, 96], 41) := by decide +kernel
theorem dX7_playRound_60 : decode cX7_playRound 60 = .ok (.aload_n 0, 1) := by decide +kernel
theorem dX7_playRound_61 : decode cX7_playRound 61 = .ok (.iload_n 2, 1) := by decide +kernel
theorem dX7_playRound_62 : decode cX7_playRound 62 = .ok (.iload_n 1, 1) := by decide +kernel
theorem dX7_playRound_63 : decode cX7_playRound 63 = .ok (.bipush 64, 2) := by decide +kernel
theorem dX7_playRound_65 : decode cX7_playRound 65 = .ok (.idiv, 1) := by decide +kernel
theorem dX7_playRound_66 : decode cX7_playRound 66 = .ok (.aload_n 0, 1) := by decide +kernel
theorem dX7_playRound_67 : decode cX7_playRound 67 = .ok (.getfield 27, 3) := by decide +kernel
theorem dX7_playRound_70 : decode cX7_playRound 70 = .ok (.invokevirtual 15, 3) := by decide +kernel
theorem dX7_playRound_73 : decode cX7_playRound 73 = .ok (.invokestatic 21, 3) := by decide +kernel
theorem dX7_playRound_76 : decode cX7_playRound 76 = .ok (.iload_n 1, 1) := by decide +kernel
theorem dX7_playRound_77 : decode cX7_playRound 77 = .ok (.sipush 1024, 3) := by decide +kernel
theorem dX7_playRound_80 : decode cX7_playRound 80 = .ok (.idiv, 1) := by decide +kernel
theorem dX7_playRound_81 : decode cX7_playRound 81 = .ok (.bipush 10, 2) := by decide +kernel
theorem dX7_playRound_83 : decode cX7_playRound 83 = .ok (.irem, 1) := by decide +kernel
theorem dX7_playRound_84 : decode cX7_playRound 84 = .ok (.invokestatic 30, 3) := by decide +kernel
theorem dX7_playRound_87 : decode cX7_playRound 87 = .ok (.pop, 1) := by decide +kernel
theorem dX7_playRound_88 : decode cX7_playRound 88 = .ok (.goto 54, 3) := by decide +kernel
theorem dX7_playRound_91 : decode cX7_playRound 91 = .ok (.aload_n 0, 1) := by decide +kernel
theorem dX7_playRound_92 : decode cX7_playRound 92 = .ok (.aload_n 0, 1) := by decide +kernel
theorem dX7_playRound_93 : decode cX7_playRound 93 = .ok (.getfield 36, 3) := by decide +kernel
theorem dX7_playRound_96 : decode cX7_playRound 96 = .ok (.iconst 3, 1) := by decide +kernel
theorem dX7_playRound_97 : decode cX7_playRound 97 = .ok (.iconst 0, 1) := by decide +kernel
theorem dX7_playRound_98 : decode cX7_playRound 98 = .ok (.invokevirtual 39, 3) := by decide +kernel
theorem dX7_playRound_101 : decode cX7_playRound 101 = .ok (.invokestatic 42, 3) := by decide +kernel
theorem dX7_playRound_104 : decode cX7_playRound 104 = .ok (.pop, 1) := by decide +kernel
theorem dX7_playRound_105 : decode cX7_playRound 105 = .ok (.goto 37, 3) := by decide +kernel
theorem dX7_playRound_108 : decode cX7_playRound 108 = .ok (.aload_n 0, 1) := by decide +kernel
theorem dX7_playRound_109 : decode cX7_playRound 109 = .ok (.invokestatic 46, 3) := by decide +kernel
theorem dX7_playRound_112 : decode cX7_playRound 112 = .ok (.goto 30, 3) := by decide +kernel
theorem dX7_playRound_115 : decode cX7_playRound 115 = .ok (.aload_n 0, 1) := by decide +kernel
theorem dX7_playRound_116 : decode cX7_playRound 116 = .ok (.iload_n 2, 1) := by decide +kernel
theorem dX7_playRound_117 : decode cX7_playRound 117 = .ok (.invokestatic 50, 3) := by decide +kernel
theorem dX7_playRound_120 : decode cX7_playRound 120 = .ok (.goto 22, 3) := by decide +kernel
theorem dX7_playRound_123 : decode cX7_playRound 123 = .ok (.aload_n 0, 1) := by decide +kernel
theorem dX7_playRound_124 : decode cX7_playRound 124 = .ok (.iload_n 1, 1) := by decide +kernel
theorem dX7_playRound_125 : decode cX7_playRound 125 = .ok (.bipush 8, 2) := by decide +kernel
theorem dX7_playRound_127 : decode cX7_playRound 127 = .ok (.idiv, 1) := by decide +kernel
theorem dX7_playRound_128 : decode cX7_playRound 128 = .ok (.iconst 4, 1) := by decide +kernel
theorem dX7_playRound_129 : decode cX7_playRound 129 = .ok (.irem, 1) := by decide +kernel
theorem dX7_playRound_130 : decode cX7_playRound 130 = .ok (.ifCond .ne 7, 3) := by decide +kernel
theorem dX7_playRound_133 : decode cX7_playRound 133 = .ok (.iconst 1, 1) := by decide +kernel
theorem dX7_playRound_134 : decode cX7_playRound 134 = .ok (.goto 4, 3) := by decide +kernel
theorem dX7_playRound_137 : decode cX7_playRound 137 = .ok (.iconst 0, 1) := by decide +kernel
theorem dX7_playRound_138 : decode cX7_playRound 138 = .ok (.invokevirtual 54, 3) := by decide +kernel
theorem dX7_playRound_141 : decode cX7_playRound 141 = .ok (.pop, 1) := by decide +kernel
theorem dX7_playRound_142 : decode cX7_playRound 142 = .ok (.return_, 1) := by decide +kernel
theorem dX7_remainder_0 : decode cX7_remainder 0 = .ok (.iload_n 1, 1) := by decide +kernel
theorem dX7_remainder_1 : decode cX7_remainder 1 = .ok (.ifCond .le 9, 3) := by decide +kernel
theorem dX7_remainder_4 : decode cX7_remainder 4 = .ok (.iload_n 0, 1) := by decide +kernel
theorem dX7_remainder_5 : decode cX7_remainder 5 = .ok (.iload_n 1, 1) := by decide +kernel
theorem dX7_remainder_6 : decode cX7_remainder 6 = .ok (.irem, 1) := by decide +kernel
theorem dX7_remainder_7 : decode cX7_remainder 7 = .ok (.goto 5, 3) := by decide +kernel
theorem dX7_remainder_10 : decode cX7_remainder 10 = .ok (.bipush (-9), 2) := by decide +kernel
theorem dX7_remainder_12 : decode cX7_remainder 12 = .ok (.ireturn, 1) := by decide +kernel
theorem dX7_setLowest_0 : decode cX7_setLowest 0 = .ok (.iconst 0, 1) := by decide +kernel
theorem dX7_setLowest_1 : decode cX7_setLowest 1 = .ok (.istore_n 1, 1) := by decide +kernel
theorem dX7_setLowest_2 : decode cX7_setLowest 2 = .ok (.iload_n 1, 1) := by decide +kernel
theorem dX7_setLowest_3 : decode cX7_setLowest 3 = .ok (.aload_n 0, 1) := by decide +kernel
theorem dX7_setLowest_4 : decode cX7_setLowest 4 = .ok (.getfield 36, 3) := by decide +kernel
theorem dX7_setLowest_7 : decode cX7_setLowest 7 = .ok (.invokevirtual 15, 3) := by decide +kernel
theorem dX7_setLowest_10 : decode cX7_setLowest 10 = .ok (.if_icmp .ge 24, 3) := by decide +kernel
theorem dX7_setLowest_13 : decode cX7_setLowest 13 = .ok (.aload_n 0, 1) := by decide +kernel
theorem dX7_setLowest_14 : decode cX7_setLowest 14 = .ok (.iload_n 1, 1) := by decide +kernel
theorem dX7_setLowest_15 : decode cX7_setLowest 15 = .ok (.invokevirtual 58, 3) := by decide +kernel
theorem dX7_setLowest_18 : decode cX7_setLowest 18 = .ok (.ifCond .ne 10, 3) := by decide +kernel
theorem dX7_setLowest_21 : decode cX7_setLowest 21 = .ok (.aload_n 0, 1) := by decide +kernel
theorem dX7_setLowest_22 : decode cX7_setLowest 22 = .ok (.iload_n 1, 1) := by decide +kernel
theorem dX7_setLowest_23 : decode cX7_setLowest 23 = .ok (.invokevirtual 62, 3) := by decide +kernel
theorem dX7_setLowest_26 : decode cX7_setLowest 26 = .ok (.pop, 1) := by decide +kernel
theorem dX7_setLowest_27 : decode cX7_setLowest 27 = .ok (.return_, 1) := by decide +kernel
theorem dX7_setLowest_28 : decode cX7_setLowest 28 = .ok (.iinc 1 1, 3) := by decide +kernel
theorem dX7_setLowest_31 : decode cX7_setLowest 31 = .ok (.goto (-29), 3) := by decide +kernel
theorem dX7_setLowest_34 : decode cX7_setLowest 34 = .ok (.return_, 1) := by decide +kernel
theorem dX7_recutLowest_0 : decode cX7_recutLowest 0 = .ok (.aload_n 0, 1) := by decide +kernel
theorem dX7_recutLowest_1 : decode cX7_recutLowest 1 = .ok (.getfield 36, 3) := by decide +kernel
theorem dX7_recutLowest_4 : decode cX7_recutLowest 4 = .ok (.iconst 3, 1) := by decide +kernel
theorem dX7_recutLowest_5 : decode cX7_recutLowest 5 = .ok (.iconst 2, 1) := by decide +kernel
theorem dX7_recutLowest_6 : decode cX7_recutLowest 6 = .ok (.invokevirtual 39, 3) := by decide +kernel
theorem dX7_recutLowest_9 : decode cX7_recutLowest 9 = .ok (.istore_n 2, 1) := by decide +kernel
theorem dX7_recutLowest_10 : decode cX7_recutLowest 10 = .ok (.aload_n 0, 1) := by decide +kernel
theorem dX7_recutLowest_11 : decode cX7_recutLowest 11 = .ok (.iload_n 1, 1) := by decide +kernel
theorem dX7_recutLowest_12 : decode cX7_recutLowest 12 = .ok (.iload_n 2, 1) := by decide +kernel
theorem dX7_recutLowest_13 : decode cX7_recutLowest 13 = .ok (.aload_n 0, 1) := by decide +kernel
theorem dX7_recutLowest_14 : decode cX7_recutLowest 14 = .ok (.iload_n 2, 1) := by decide +kernel
theorem dX7_recutLowest_15 : decode cX7_recutLowest 15 = .ok (.invokevirtual 65, 3) := by decide +kernel
theorem dX7_recutLowest_18 : decode cX7_recutLowest 18 = .ok (.invokestatic 68, 3) := by decide +kernel
theorem dX7_recutLowest_21 : decode cX7_recutLowest 21 = .ok (.ifCond .ne 9, 3) := by decide +kernel
theorem dX7_recutLowest_24 : decode cX7_recutLowest 24 = .ok (.aload_n 0, 1) := by decide +kernel
theorem dX7_recutLowest_25 : decode cX7_recutLowest 25 = .ok (.iload_n 2, 1) := by decide +kernel
theorem dX7_recutLowest_26 : decode cX7_recutLowest 26 = .ok (.invokestatic 71, 3) := by decide +kernel
theorem dX7_recutLowest_29 : decode cX7_recutLowest 29 = .ok (.pop, 1) := by decide +kernel
theorem dX7_recutLowest_30 : decode cX7_recutLowest 30 = .ok (.return_, 1) := by decide +kernel
theorem dX8_init_0 : decode cX8_init 0 = .ok (.aload_n 0, 1) := by decide +kernel
theorem dX8_init_1 : decode cX8_init 1 = .ok (.invokespecial 3, 3) := by decide +kernel
theorem dX8_init_4 : decode cX8_init 4 = .ok (.aload_n 0, 1) := by decide +kernel
theorem dX8_init_5 : decode cX8_init 5 = .ok (.aload_n 1, 1) := by decide +kernel
theorem dX8_init_6 : decode cX8_init 6 = .ok (.putfield 9, 3) := by decide +kernel
theorem dX8_init_9 : decode cX8_init 9 = .ok (.aload_n 0, 1) := by decide +kernel
theorem dX8_init_10 : decode cX8_init 10 = .ok (.iload_n 2, 1) := by decide +kernel
theorem dX8_init_11 : decode cX8_init 11 = .ok (.putfield 15, 3) := by decide +kernel
theorem dX8_init_14 : decode cX8_init 14 = .ok (.aload_n 0, 1) := by decide +kernel
theorem dX8_init_15 : decode cX8_init 15 = .ok (.iload_n 3, 1) := by decide +kernel
theorem dX8_init_16 : decode cX8_init 16 = .ok (.putfield 19, 3) := by decide +kernel
theorem dX8_init_19 : decode cX8_init 19 = .ok (.return_, 1) := by decide +kernel
theorem dX8_size_0 : decode cX8_size 0 = .ok (.aload_n 0, 1) := by decide +kernel
theorem dX8_size_1 : decode cX8_size 1 = .ok (.getfield 22, 3) := by decide +kernel
theorem dX8_size_4 : decode cX8_size 4 = .ok (.ireturn, 1) := by decide +kernel
theorem dX8_has_0 : decode cX8_has 0 = .ok (.iload_n 1, 1) := by decide +kernel
theorem dX8_has_1 : decode cX8_has 1 = .ok (.ifCond .lt 15, 3) := by decide +kernel
theorem dX8_has_4 : decode cX8_has 4 = .ok (.iload_n 1, 1) := by decide +kernel
theorem dX8_has_5 : decode cX8_has 5 = .ok (.aload_n 0, 1) := by decide +kernel
theorem dX8_has_6 : decode cX8_has 6 = .ok (.getfield 22, 3) := by decide +kernel
theorem dX8_has_9 : decode cX8_has 9 = .ok (.if_icmp .ge 7, 3) := by decide +kernel
theorem dX8_has_12 : decode cX8_has 12 = .ok (.iconst 1, 1) := by decide +kernel
theorem dX8_has_13 : decode cX8_has 13 = .ok (.goto 4, 3) := by decide +kernel
theorem dX8_has_16 : decode cX8_has 16 = .ok (.iconst 0, 1) := by decide +kernel
theorem dX8_has_17 : decode cX8_has 17 = .ok (.ireturn, 1) := by decide +kernel
theorem dX8_hasRoom_0 : decode cX8_hasRoom 0 = .ok (.aload_n 0, 1) := by decide +kernel
theorem dX8_hasRoom_1 : decode cX8_hasRoom 1 = .ok (.getfield 22, 3) := by decide +kernel
theorem dX8_hasRoom_4 : decode cX8_hasRoom 4 = .ok (.aload_n 0, 1) := by decide +kernel
theorem dX8_hasRoom_5 : decode cX8_hasRoom 5 = .ok (.getfield 19, 3) := by decide +kernel
theorem dX8_hasRoom_8 : decode cX8_hasRoom 8 = .ok (.if_icmp .ge 7, 3) := by decide +kernel
theorem dX8_hasRoom_11 : decode cX8_hasRoom 11 = .ok (.iconst 1, 1) := by decide +kernel
theorem dX8_hasRoom_12 : decode cX8_hasRoom 12 = .ok (.goto 4, 3) := by decide +kernel
theorem dX8_hasRoom_15 : decode cX8_hasRoom 15 = .ok (.iconst 0, 1) := by decide +kernel
theorem dX8_hasRoom_16 : decode cX8_hasRoom 16 = .ok (.ireturn, 1) := by decide +kernel
theorem dX8_removeAll_0 : decode cX8_removeAll 0 = .ok (.aload_n 0, 1) := by decide +kernel
theorem dX8_removeAll_1 : decode cX8_removeAll 1 = .ok (.iconst 0, 1) := by decide +kernel
theorem dX8_removeAll_2 : decode cX8_removeAll 2 = .ok (.putfield 22, 3) := by decide +kernel
theorem dX8_removeAll_5 : decode cX8_removeAll 5 = .ok (.return_, 1) := by decide +kernel
theorem dX8_addRow_0 : decode cX8_addRow 0 = .ok (.aload_n 0, 1) := by decide +kernel
theorem dX8_addRow_1 : decode cX8_addRow 1 = .ok (.invokevirtual 25, 3) := by decide +kernel
theorem dX8_addRow_4 : decode cX8_addRow 4 = .ok (.ifCond .ne 6, 3) := by decide +kernel
theorem dX8_addRow_7 : decode cX8_addRow 7 = .ok (.bipush (-9), 2) := by decide +kernel
theorem dX8_addRow_9 : decode cX8_addRow 9 = .ok (.ireturn, 1) := by decide +kernel
theorem dX8_addRow_10 : decode cX8_addRow 10 = .ok (.aload_n 0, 1) := by decide +kernel
theorem dX8_addRow_11 : decode cX8_addRow 11 = .ok (.dup, 1) := by decide +kernel
theorem dX8_addRow_12 : decode cX8_addRow 12 = .ok (.getfield 22, 3) := by decide +kernel
theorem dX8_addRow_15 : decode cX8_addRow 15 = .ok (.iconst 1, 1) := by decide +kernel
theorem dX8_addRow_16 : decode cX8_addRow 16 = .ok (.iadd, 1) := by decide +kernel
theorem dX8_addRow_17 : decode cX8_addRow 17 = .ok (.putfield 22, 3) := by decide +kernel
theorem dX8_addRow_20 : decode cX8_addRow 20 = .ok (.aload_n 0, 1) := by decide +kernel
theorem dX8_addRow_21 : decode cX8_addRow 21 = .ok (.getfield 22, 3) := by decide +kernel
theorem dX8_addRow_24 : decode cX8_addRow 24 = .ok (.iconst 1, 1) := by decide +kernel
theorem dX8_addRow_25 : decode cX8_addRow 25 = .ok (.isub, 1) := by decide +kernel
theorem dX8_addRow_26 : decode cX8_addRow 26 = .ok (.ireturn, 1) := by decide +kernel
theorem dX8_get_0 : decode cX8_get 0 = .ok (.iload_n 1, 1) := by decide +kernel
theorem dX8_get_1 : decode cX8_get 1 = .ok (.ifCond .lt 23, 3) := by decide +kernel
theorem dX8_get_4 : decode cX8_get 4 = .ok (.iload_n 1, 1) := by decide +kernel
theorem dX8_get_5 : decode cX8_get 5 = .ok (.aload_n 0, 1) := by decide +kernel
theorem dX8_get_6 : decode cX8_get 6 = .ok (.getfield 22, 3) := by decide +kernel
theorem dX8_get_9 : decode cX8_get 9 = .ok (.if_icmp .ge 15, 3) := by decide +kernel
theorem dX8_get_12 : decode cX8_get 12 = .ok (.iload_n 2, 1) := by decide +kernel
theorem dX8_get_13 : decode cX8_get 13 = .ok (.ifCond .lt 11, 3) := by decide +kernel
theorem dX8_get_16 : decode cX8_get 16 = .ok (.iload_n 2, 1) := by decide +kernel
theorem dX8_get_17 : decode cX8_get 17 = .ok (.aload_n 0, 1) := by decide +kernel
theorem dX8_get_18 : decode cX8_get 18 = .ok (.getfield 15, 3) := by decide +kernel
theorem dX8_get_21 : decode cX8_get 21 = .ok (.if_icmp .lt 5, 3) := by decide +kernel
theorem dX8_get_24 : decode cX8_get 24 = .ok (.iconst 0, 1) := by decide +kernel
theorem dX8_get_25 : decode cX8_get 25 = .ok (.ireturn, 1) := by decide +kernel
theorem dX8_get_26 : decode cX8_get 26 = .ok (.iload_n 1, 1) := by decide +kernel
theorem dX8_get_27 : decode cX8_get 27 = .ok (.aload_n 0, 1) := by decide +kernel
theorem dX8_get_28 : decode cX8_get 28 = .ok (.getfield 15, 3) := by decide +kernel
theorem dX8_get_31 : decode cX8_get 31 = .ok (.imul, 1) := by decide +kernel
theorem dX8_get_32 : decode cX8_get 32 = .ok (.iload_n 2, 1) := by decide +kernel
theorem dX8_get_33 : decode cX8_get 33 = .ok (.iadd, 1) := by decide +kernel
theorem dX8_get_34 : decode cX8_get 34 = .ok (.istore_n 3, 1) := by decide +kernel
theorem dX8_get_35 : decode cX8_get 35 = .ok (.iload_n 3, 1) := by decide +kernel
theorem dX8_get_36 : decode cX8_get 36 = .ok (.ifCond .lt 21, 3) := by decide +kernel
theorem dX8_get_39 : decode cX8_get 39 = .ok (.iload_n 3, 1) := by decide +kernel
theorem dX8_get_40 : decode cX8_get 40 = .ok (.aload_n 0, 1) := by decide +kernel
theorem dX8_get_41 : decode cX8_get 41 = .ok (.getfield 9, 3) := by decide +kernel
theorem dX8_get_44 : decode cX8_get 44 = .ok (.arraylength, 1) := by decide +kernel
theorem dX8_get_45 : decode cX8_get 45 = .ok (.if_icmp .ge 12, 3) := by decide +kernel
theorem dX8_get_48 : decode cX8_get 48 = .ok (.aload_n 0, 1) := by decide +kernel
theorem dX8_get_49 : decode cX8_get 49 = .ok (.getfield 9, 3) := by decide +kernel
theorem dX8_get_52 : decode cX8_get 52 = .ok (.iload_n 3, 1) := by decide +kernel
theorem dX8_get_53 : decode cX8_get 53 = .ok (.iaload, 1) := by decide +kernel
theorem dX8_get_54 : decode cX8_get 54 = .ok (.goto 4, 3) := by decide +kernel
theorem dX8_get_57 : decode cX8_get 57 = .ok (.iconst 0, 1) := by decide +kernel
theorem dX8_get_58 : decode cX8_get 58 = .ok (.ireturn, 1) := by decide +kernel
theorem dX8_put_0 : decode cX8_put 0 = .ok (.iload_n 1, 1) := by decide +kernel
theorem dX8_put_1 : decode cX8_put 1 = .ok (.ifCond .lt 23, 3) := by decide +kernel
theorem dX8_put_4 : decode cX8_put 4 = .ok (.iload_n 1, 1) := by decide +kernel
theorem dX8_put_5 : decode cX8_put 5 = .ok (.aload_n 0, 1) := by decide +kernel
theorem dX8_put_6 : decode cX8_put 6 = .ok (.getfield 22, 3) := by decide +kernel
theorem dX8_put_9 : decode cX8_put 9 = .ok (.if_icmp .ge 15, 3) := by decide +kernel
theorem dX8_put_12 : decode cX8_put 12 = .ok (.iload_n 2, 1) := by decide +kernel
theorem dX8_put_13 : decode cX8_put 13 = .ok (.ifCond .lt 11, 3) := by decide +kernel
theorem dX8_put_16 : decode cX8_put 16 = .ok (.iload_n 2, 1) := by decide +kernel
theorem dX8_put_17 : decode cX8_put 17 = .ok (.aload_n 0, 1) := by decide +kernel
theorem dX8_put_18 : decode cX8_put 18 = .ok (.getfield 15, 3) := by decide +kernel
theorem dX8_put_21 : decode cX8_put 21 = .ok (.if_icmp .lt 4, 3) := by decide +kernel
theorem dX8_put_24 : decode cX8_put 24 = .ok (.return_, 1) := by decide +kernel
theorem dX8_put_25 : decode cX8_put 25 = .ok (.iload_n 1, 1) := by decide +kernel
theorem dX8_put_26 : decode cX8_put 26 = .ok (.aload_n 0, 1) := by decide +kernel
theorem dX8_put_27 : decode cX8_put 27 = .ok (.getfield 15, 3) := by decide +kernel
theorem dX8_put_30 : decode cX8_put 30 = .ok (.imul, 1) := by decide +kernel
theorem dX8_put_31 : decode cX8_put 31 = .ok (.iload_n 2, 1) := by decide +kernel
theorem dX8_put_32 : decode cX8_put 32 = .ok (.iadd, 1) := by decide +kernel
theorem dX8_put_33 : decode cX8_put 33 = .ok (.istore 4, 2) := by decide +kernel
theorem dX8_put_35 : decode cX8_put 35 = .ok (.iload 4, 2) := by decide +kernel
theorem dX8_put_37 : decode cX8_put 37 = .ok (.ifCond .lt 21, 3) := by decide +kernel
theorem dX8_put_40 : decode cX8_put 40 = .ok (.iload 4, 2) := by decide +kernel
theorem dX8_put_42 : decode cX8_put 42 = .ok (.aload_n 0, 1) := by decide +kernel
theorem dX8_put_43 : decode cX8_put 43 = .ok (.getfield 9, 3) := by decide +kernel
theorem dX8_put_46 : decode cX8_put 46 = .ok (.arraylength, 1) := by decide +kernel
theorem dX8_put_47 : decode cX8_put 47 = .ok (.if_icmp .ge 11, 3) := by decide +kernel
theorem dX8_put_50 : decode cX8_put 50 = .ok (.aload_n 0, 1) := by decide +kernel
theorem dX8_put_51 : decode cX8_put 51 = .ok (.getfield 9, 3) := by decide +kernel
theorem dX8_put_54 : decode cX8_put 54 = .ok (.iload 4, 2) := by decide +kernel
theorem dX8_put_56 : decode cX8_put 56 = .ok (.iload_n 3, 1) := by decide +kernel
theorem dX8_put_57 : decode cX8_put 57 = .ok (.iastore, 1) := by decide +kernel
theorem dX8_put_58 : decode cX8_put 58 = .ok (.return_, 1) := by decide +kernel
theorem dX8_increase_0 : decode cX8_increase 0 = .ok (.aload_n 0, 1) := by decide +kernel
theorem dX8_increase_1 : decode cX8_increase 1 = .ok (.iload_n 1, 1) := by decide +kernel
theorem dX8_increase_2 : decode cX8_increase 2 = .ok (.iload_n 2, 1) := by decide +kernel
theorem dX8_increase_3 : decode cX8_increase 3 = .ok (.aload_n 0, 1) := by decide +kernel
theorem dX8_increase_4 : decode cX8_increase 4 = .ok (.iload_n 1, 1) := by decide +kernel
theorem dX8_increase_5 : decode cX8_increase 5 = .ok (.iload_n 2, 1) := by decide +kernel
theorem dX8_increase_6 : decode cX8_increase 6 = .ok (.invokevirtual 29, 3) := by decide +kernel
theorem dX8_increase_9 : decode cX8_increase 9 = .ok (.iload_n 3, 1) := by decide +kernel
theorem dX8_increase_10 : decode cX8_increase 10 = .ok (.iadd, 1) := by decide +kernel
theorem dX8_increase_11 : decode cX8_increase 11 = .ok (.invokevirtual 33, 3) := by decide +kernel
theorem dX8_increase_14 : decode cX8_increase 14 = .ok (.return_, 1) := by decide +kernel
theorem dX8_sum_0 : decode cX8_sum 0 = .ok (.iconst 0, 1) := by decide +kernel
theorem dX8_sum_1 : decode cX8_sum 1 = .ok (.istore_n 2, 1) := by decide +kernel
theorem dX8_sum_2 : decode cX8_sum 2 = .ok (.iconst 0, 1) := by decide +kernel
theorem dX8_sum_3 : decode cX8_sum 3 = .ok (.istore_n 3, 1) := by decide +kernel
theorem dX8_sum_4 : decode cX8_sum 4 = .ok (.iload_n 3, 1) := by decide +kernel
theorem dX8_sum_5 : decode cX8_sum 5 = .ok (.aload_n 0, 1) := by decide +kernel
theorem dX8_sum_6 : decode cX8_sum 6 = .ok (.getfield 22, 3) := by decide +kernel
theorem dX8_sum_9 : decode cX8_sum 9 = .ok (.if_icmp .ge 18, 3) := by decide +kernel
theorem dX8_sum_12 : decode cX8_sum 12 = .ok (.iload_n 2, 1) := by decide +kernel
theorem dX8_sum_13 : decode cX8_sum 13 = .ok (.aload_n 0, 1) := by decide +kernel
theorem dX8_sum_14 : decode cX8_sum 14 = .ok (.iload_n 3, 1) := by decide +kernel
theorem dX8_sum_15 : decode cX8_sum 15 = .ok (.iload_n 1, 1) := by decide +kernel
theorem dX8_sum_16 : decode cX8_sum 16 = .ok (.invokevirtual 29, 3) := by decide +kernel
theorem dX8_sum_19 : decode cX8_sum 19 = .ok (.iadd, 1) := by decide +kernel
theorem dX8_sum_20 : decode cX8_sum 20 = .ok (.istore_n 2, 1) := by decide +kernel
theorem dX8_sum_21 : decode cX8_sum 21 = .ok (.iinc 3 1, 3) := by decide +kernel
theorem dX8_sum_24 : decode cX8_sum 24 = .ok (.goto (-20), 3) := by decide +kernel
theorem dX8_sum_27 : decode cX8_sum 27 = .ok (.iload_n 2, 1) := by decide +kernel
theorem dX8_sum_28 : decode cX8_sum 28 = .ok (.ireturn, 1) := by decide +kernel
theorem dX8_count_0 : decode cX8_count 0 = .ok (.iconst 0, 1) := by decide +kernel
theorem dX8_count_1 : decode cX8_count 1 = .ok (.istore_n 3, 1) := by decide +kernel
theorem dX8_count_2 : decode cX8_count 2 = .ok (.iconst 0, 1) := by decide +kernel
theorem dX8_count_3 : decode cX8_count 3 = .ok (.istore 4, 2) := by decide +kernel
theorem dX8_count_5 : decode cX8_count 5 = .ok (.iload 4, 2) := by decide +kernel
theorem dX8_count_7 : decode cX8_count 7 = .ok (.aload_n 0, 1) := by decide +kernel
theorem dX8_count_8 : decode cX8_count 8 = .ok (.getfield 22, 3) := by decide +kernel
theorem dX8_count_11 : decode cX8_count 11 = .ok (.if_icmp .ge 23, 3) := by decide +kernel
theorem dX8_count_14 : decode cX8_count 14 = .ok (.aload_n 0, 1) := by decide +kernel
theorem dX8_count_15 : decode cX8_count 15 = .ok (.iload 4, 2) := by decide +kernel
theorem dX8_count_17 : decode cX8_count 17 = .ok (.iload_n 1, 1) := by decide +kernel
theorem dX8_count_18 : decode cX8_count 18 = .ok (.invokevirtual 29, 3) := by decide +kernel
theorem dX8_count_21 : decode cX8_count 21 = .ok (.iload_n 2, 1) := by decide +kernel
theorem dX8_count_22 : decode cX8_count 22 = .ok (.if_icmp .ne 6, 3) := by decide +kernel
theorem dX8_count_25 : decode cX8_count 25 = .ok (.iinc 3 1, 3) := by decide +kernel
theorem dX8_count_28 : decode cX8_count 28 = .ok (.iinc 4 1, 3) := by decide +kernel
theorem dX8_count_31 : decode cX8_count 31 = .ok (.goto (-26), 3) := by decide +kernel
theorem dX8_count_34 : decode cX8_count 34 = .ok (.iload_n 3, 1) := by decide +kernel
theorem dX8_count_35 : decode cX8_count 35 = .ok (.ireturn, 1) := by decide +kernel
theorem dX8_countBoth_0 : decode cX8_countBoth 0 = .ok (.iconst 0, 1) := by decide +kernel
theorem dX8_countBoth_1 : decode cX8_countBoth 1 = .ok (.istore 5, 2) := by decide +kernel
theorem dX8_countBoth_3 : decode cX8_countBoth 3 = .ok (.iconst 0, 1) := by decide +kernel
theorem dX8_countBoth_4 : decode cX8_countBoth 4 = .ok (.istore 6, 2) := by decide +kernel
theorem dX8_countBoth_6 : decode cX8_countBoth 6 = .ok (.iload 6, 2) := by decide +kernel
theorem dX8_countBoth_8 : decode cX8_countBoth 8 = .ok (.aload_n 0, 1) := by decide +kernel
theorem dX8_countBoth_9 : decode cX8_countBoth 9 = .ok (.getfield 22, 3) := by decide +kernel
theorem dX8_countBoth_12 : decode cX8_countBoth 12 = .ok (.if_icmp .ge 35, 3) := by decide +kernel
theorem dX8_countBoth_15 : decode cX8_countBoth 15 = .ok (.aload_n 0, 1) := by decide +kernel
theorem dX8_countBoth_16 : decode cX8_countBoth 16 = .ok (.iload 6, 2) := by decide +kernel
theorem dX8_countBoth_18 : decode cX8_countBoth 18 = .ok (.iload_n 1, 1) := by decide +kernel
theorem dX8_countBoth_19 : decode cX8_countBoth 19 = .ok (.invokevirtual 29, 3) := by decide +kernel
theorem dX8_countBoth_22 : decode cX8_countBoth 22 = .ok (.iload_n 2, 1) := by decide +kernel
theorem dX8_countBoth_23 : decode cX8_countBoth 23 = .ok (.if_icmp .ne 18, 3) := by decide +kernel
theorem dX8_countBoth_26 : decode cX8_countBoth 26 = .ok (.aload_n 0, 1) := by decide +kernel
theorem dX8_countBoth_27 : decode cX8_countBoth 27 = .ok (.iload 6, 2) := by decide +kernel
theorem dX8_countBoth_29 : decode cX8_countBoth 29 = .ok (.iload_n 3, 1) := by decide +kernel
theorem dX8_countBoth_30 : decode cX8_countBoth 30 = .ok (.invokevirtual 29, 3) := by decide +kernel
theorem dX8_countBoth_33 : decode cX8_countBoth 33 = .ok (.iload 4, 2) := by decide +kernel
theorem dX8_countBoth_35 : decode cX8_countBoth 35 = .ok (.if_icmp .ne 6, 3) := by decide +kernel
theorem dX8_countBoth_38 : decode cX8_countBoth 38 = .ok (.iinc 5 1, 3) := by decide +kernel
theorem dX8_countBoth_41 : decode cX8_countBoth 41 = .ok (.iinc 6 1, 3) := by decide +kernel
theorem dX8_countBoth_44 : decode cX8_countBoth 44 = .ok (.goto (-38), 3) := by decide +kernel
theorem dX8_countBoth_47 : decode cX8_countBoth 47 = .ok (.iload 5, 2) := by decide +kernel
theorem dX8_countBoth_49 : decode cX8_countBoth 49 = .ok (.ireturn, 1) := by decide +kernel
theorem dX8_firstWith_0 : decode cX8_firstWith 0 = .ok (.iconst 0, 1) := by decide +kernel
theorem dX8_firstWith_1 : decode cX8_firstWith 1 = .ok (.istore_n 3, 1) := by decide +kernel
theorem dX8_firstWith_2 : decode cX8_firstWith 2 = .ok (.iload_n 3, 1) := by decide +kernel
theorem dX8_firstWith_3 : decode cX8_firstWith 3 = .ok (.aload_n 0, 1) := by decide +kernel
theorem dX8_firstWith_4 : decode cX8_firstWith 4 = .ok (.getfield 22, 3) := by decide +kernel
theorem dX8_firstWith_7 : decode cX8_firstWith 7 = .ok (.if_icmp .ge 21, 3) := by decide +kernel
theorem dX8_firstWith_10 : decode cX8_firstWith 10 = .ok (.aload_n 0, 1) := by decide +kernel
theorem dX8_firstWith_11 : decode cX8_firstWith 11 = .ok (.iload_n 3, 1) := by decide +kernel
theorem dX8_firstWith_12 : decode cX8_firstWith 12 = .ok (.iload_n 1, 1) := by decide +kernel
theorem dX8_firstWith_13 : decode cX8_firstWith 13 = .ok (.invokevirtual 29, 3) := by decide +kernel
theorem dX8_firstWith_16 : decode cX8_firstWith 16 = .ok (.iload_n 2, 1) := by decide +kernel
theorem dX8_firstWith_17 : decode cX8_firstWith 17 = .ok (.if_icmp .ne 5, 3) := by decide +kernel
theorem dX8_firstWith_20 : decode cX8_firstWith 20 = .ok (.iload_n 3, 1) := by decide +kernel
theorem dX8_firstWith_21 : decode cX8_firstWith 21 = .ok (.ireturn, 1) := by decide +kernel
theorem dX8_firstWith_22 : decode cX8_firstWith 22 = .ok (.iinc 3 1, 3) := by decide +kernel
theorem dX8_firstWith_25 : decode cX8_firstWith 25 = .ok (.goto (-23), 3) := by decide +kernel
theorem dX8_firstWith_28 : decode cX8_firstWith 28 = .ok (.bipush (-9), 2) := by decide +kernel
theorem dX8_firstWith_30 : decode cX8_firstWith 30 = .ok (.ireturn, 1) := by decide +kernel
theorem dX8_copyFrom_0 : decode cX8_copyFrom 0 = .ok (.iconst 0, 1) := by decide +kernel
theorem dX8_copyFrom_1 : decode cX8_copyFrom 1 = .ok (.istore_n 2, 1) := by decide +kernel
theorem dX8_copyFrom_2 : decode cX8_copyFrom 2 = .ok (.iload_n 2, 1) := by decide +kernel
theorem dX8_copyFrom_3 : decode cX8_copyFrom 3 = .ok (.aload_n 0, 1) := by decide +kernel
theorem dX8_copyFrom_4 : decode cX8_copyFrom 4 = .ok (.getfield 9, 3) := by decide +kernel
theorem dX8_copyFrom_7 : decode cX8_copyFrom 7 = .ok (.arraylength, 1) := by decide +kernel
theorem dX8_copyFrom_8 : decode cX8_copyFrom 8 = .ok (.if_icmp .ge 30, 3) := by decide +kernel
theorem dX8_copyFrom_11 : decode cX8_copyFrom 11 = .ok (.iload_n 2, 1) := by decide +kernel
theorem dX8_copyFrom_12 : decode cX8_copyFrom 12 = .ok (.aload_n 1, 1) := by decide +kernel
theorem dX8_copyFrom_13 : decode cX8_copyFrom 13 = .ok (.getfield 9, 3) := by decide +kernel
theorem dX8_copyFrom_16 : decode cX8_copyFrom 16 = .ok (.arraylength, 1) := by decide +kernel
theorem dX8_copyFrom_17 : decode cX8_copyFrom 17 = .ok (.if_icmp .ge 21, 3) := by decide +kernel
theorem dX8_copyFrom_20 : decode cX8_copyFrom 20 = .ok (.aload_n 0, 1) := by decide +kernel
theorem dX8_copyFrom_21 : decode cX8_copyFrom 21 = .ok (.getfield 9, 3) := by decide +kernel
theorem dX8_copyFrom_24 : decode cX8_copyFrom 24 = .ok (.iload_n 2, 1) := by decide +kernel
theorem dX8_copyFrom_25 : decode cX8_copyFrom 25 = .ok (.aload_n 1, 1) := by decide +kernel
theorem dX8_copyFrom_26 : decode cX8_copyFrom 26 = .ok (.getfield 9, 3) := by decide +kernel
theorem dX8_copyFrom_29 : decode cX8_copyFrom 29 = .ok (.iload_n 2, 1) := by decide +kernel
theorem dX8_copyFrom_30 : decode cX8_copyFrom 30 = .ok (.iaload, 1) := by decide +kernel
theorem dX8_copyFrom_31 : decode cX8_copyFrom 31 = .ok (.iastore, 1) := by decide +kernel
theorem dX8_copyFrom_32 : decode cX8_copyFrom 32 = .ok (.iinc 2 1, 3) := by decide +kernel
theorem dX8_copyFrom_35 : decode cX8_copyFrom 35 = .ok (.goto (-33), 3) := by decide +kernel
theorem dX8_copyFrom_38 : decode cX8_copyFrom 38 = .ok (.aload_n 0, 1) := by decide +kernel
theorem dX8_copyFrom_39 : decode cX8_copyFrom 39 = .ok (.aload_n 1, 1) := by decide +kernel
theorem dX8_copyFrom_40 : decode cX8_copyFrom 40 = .ok (.getfield 22, 3) := by decide +kernel
theorem dX8_copyFrom_43 : decode cX8_copyFrom 43 = .ok (.putfield 22, 3) := by decide +kernel
theorem dX8_copyFrom_46 : decode cX8_copyFrom 46 = .ok (.return_, 1) := by decide +kernel
theorem dX9_init_0 : decode cX9_init 0 = .ok (.aload_n 0, 1) := by decide +kernel
theorem dX9_init_1 : decode cX9_init 1 = .ok (.invokespecial 3, 3) := by decide +kernel
theorem dX9_init_4 : decode cX9_init 4 = .ok (.aload_n 0, 1) := by decide +kernel
theorem dX9_init_5 : decode cX9_init 5 = .ok (.bipush 80, 2) := by decide +kernel
theorem dX9_init_7 : decode cX9_init 7 = .ok (.newarray .char, 2) := by decide +kernel
theorem dX9_init_9 : decode cX9_init 9 = .ok (.putfield 9, 3) := by decide +kernel
theorem dX9_init_12 : decode cX9_init 12 = .ok (.return_, 1) := by decide +kernel
theorem dX9_size_0 : decode cX9_size 0 = .ok (.aload_n 0, 1) := by decide +kernel
theorem dX9_size_1 : decode cX9_size 1 = .ok (.getfield 15, 3) := by decide +kernel
theorem dX9_size_4 : decode cX9_size 4 = .ok (.ireturn, 1) := by decide +kernel
theorem dX9_isFull_0 : decode cX9_isFull 0 = .ok (.aload_n 0, 1) := by decide +kernel
theorem dX9_isFull_1 : decode cX9_isFull 1 = .ok (.getfield 15, 3) := by decide +kernel
theorem dX9_isFull_4 : decode cX9_isFull 4 = .ok (.bipush 80, 2) := by decide +kernel
theorem dX9_isFull_6 : decode cX9_isFull 6 = .ok (.if_icmp .lt 7, 3) := by decide +kernel
theorem dX9_isFull_9 : decode cX9_isFull 9 = .ok (.iconst 1, 1) := by decide +kernel
theorem dX9_isFull_10 : decode cX9_isFull 10 = .ok (.goto 4, 3) := by decide +kernel
theorem dX9_isFull_13 : decode cX9_isFull 13 = .ok (.iconst 0, 1) := by decide +kernel
theorem dX9_isFull_14 : decode cX9_isFull 14 = .ok (.ireturn, 1) := by decide +kernel
theorem dX9_addCharacter_0 : decode cX9_addCharacter 0 = .ok (.aload_n 0, 1) := by decide +kernel
theorem dX9_addCharacter_1 : decode cX9_addCharacter 1 = .ok (.getfield 15, 3) := by decide +kernel
theorem dX9_addCharacter_4 : decode cX9_addCharacter 4 = .ok (.ifCond .lt 35, 3) := by decide +kernel
theorem dX9_addCharacter_7 : decode cX9_addCharacter 7 = .ok (.aload_n 0, 1) := by decide +kernel
theorem dX9_addCharacter_8 : decode cX9_addCharacter 8 = .ok (.getfield 15, 3) := by decide +kernel
theorem dX9_addCharacter_11 : decode cX9_addCharacter 11 = .ok (.aload_n 0, 1) := by decide +kernel
theorem dX9_addCharacter_12 : decode cX9_addCharacter 12 = .ok (.getfield 9, 3) := by decide +kernel
theorem dX9_addCharacter_15 : decode cX9_addCharacter 15 = .ok (.arraylength, 1) := by decide +kernel
theorem dX9_addCharacter_16 : decode cX9_addCharacter 16 = .ok (.if_icmp .ge 23, 3) := by decide +kernel
theorem dX9_addCharacter_19 : decode cX9_addCharacter 19 = .ok (.aload_n 0, 1) := by decide +kernel
theorem dX9_addCharacter_20 : decode cX9_addCharacter 20 = .ok (.getfield 9, 3) := by decide +kernel
theorem dX9_addCharacter_23 : decode cX9_addCharacter 23 = .ok (.aload_n 0, 1) := by decide +kernel
theorem dX9_addCharacter_24 : decode cX9_addCharacter 24 = .ok (.getfield 15, 3) := by decide +kernel
theorem dX9_addCharacter_27 : decode cX9_addCharacter 27 = .ok (.iload_n 1, 1) := by decide +kernel
theorem dX9_addCharacter_28 : decode cX9_addCharacter 28 = .ok (.castore, 1) := by decide +kernel
theorem dX9_addCharacter_29 : decode cX9_addCharacter 29 = .ok (.aload_n 0, 1) := by decide +kernel
theorem dX9_addCharacter_30 : decode cX9_addCharacter 30 = .ok (.dup, 1) := by decide +kernel
theorem dX9_addCharacter_31 : decode cX9_addCharacter 31 = .ok (.getfield 15, 3) := by decide +kernel
theorem dX9_addCharacter_34 : decode cX9_addCharacter 34 = .ok (.iconst 1, 1) := by decide +kernel
theorem dX9_addCharacter_35 : decode cX9_addCharacter 35 = .ok (.iadd, 1) := by decide +kernel
theorem dX9_addCharacter_36 : decode cX9_addCharacter 36 = .ok (.putfield 15, 3) := by decide +kernel
theorem dX9_addCharacter_39 : decode cX9_addCharacter 39 = .ok (.aload_n 0, 1) := by decide +kernel
theorem dX9_addCharacter_40 : decode cX9_addCharacter 40 = .ok (.getfield 15, 3) := by decide +kernel
theorem dX9_addCharacter_43 : decode cX9_addCharacter 43 = .ok (.ireturn, 1) := by decide +kernel
theorem dX9_empty_0 : decode cX9_empty 0 = .ok (.aload_n 0, 1) := by decide +kernel
theorem dX9_empty_1 : decode cX9_empty 1 = .ok (.getfield 15, 3) := by decide +kernel
theorem dX9_empty_4 : decode cX9_empty 4 = .ok (.istore_n 1, 1) := by decide +kernel
theorem dX9_empty_5 : decode cX9_empty 5 = .ok (.aload_n 0, 1) := by decide +kernel
theorem dX9_empty_6 : decode cX9_empty 6 = .ok (.iconst 0, 1) := by decide +kernel
theorem dX9_empty_7 : decode cX9_empty 7 = .ok (.putfield 15, 3) := by decide +kernel
theorem dX9_empty_10 : decode cX9_empty 10 = .ok (.iload_n 1, 1) := by decide +kernel
theorem dX9_empty_11 : decode cX9_empty 11 = .ok (.ireturn, 1) := by decide +kernel
theorem dX9_at_0 : decode cX9_at 0 = .ok (.iload_n 1, 1) := by decide +kernel
theorem dX9_at_1 : decode cX9_at 1 = .ok (.ifCond .lt 29, 3) := by decide +kernel
theorem dX9_at_4 : decode cX9_at 4 = .ok (.iload_n 1, 1) := by decide +kernel
theorem dX9_at_5 : decode cX9_at 5 = .ok (.aload_n 0, 1) := by decide +kernel
theorem dX9_at_6 : decode cX9_at 6 = .ok (.getfield 15, 3) := by decide +kernel
theorem dX9_at_9 : decode cX9_at 9 = .ok (.if_icmp .ge 21, 3) := by decide +kernel
theorem dX9_at_12 : decode cX9_at 12 = .ok (.iload_n 1, 1) := by decide +kernel
theorem dX9_at_13 : decode cX9_at 13 = .ok (.aload_n 0, 1) := by decide +kernel
theorem dX9_at_14 : decode cX9_at 14 = .ok (.getfield 9, 3) := by decide +kernel
theorem dX9_at_17 : decode cX9_at 17 = .ok (.arraylength, 1) := by decide +kernel
theorem dX9_at_18 : decode cX9_at 18 = .ok (.if_icmp .ge 12, 3) := by decide +kernel
theorem dX9_at_21 : decode cX9_at 21 = .ok (.aload_n 0, 1) := by decide +kernel
theorem dX9_at_22 : decode cX9_at 22 = .ok (.getfield 9, 3) := by decide +kernel
theorem dX9_at_25 : decode cX9_at 25 = .ok (.iload_n 1, 1) := by decide +kernel
theorem dX9_at_26 : decode cX9_at 26 = .ok (.caload, 1) := by decide +kernel
theorem dX9_at_27 : decode cX9_at 27 = .ok (.goto 4, 3) := by decide +kernel
theorem dX9_at_30 : decode cX9_at 30 = .ok (.iconst 0, 1) := by decide +kernel
theorem dX9_at_31 : decode cX9_at 31 = .ok (.ireturn, 1) := by decide +kernel
theorem dX10_init_0 : decode cX10_init 0 = .ok (.aload_n 0, 1) := by decide +kernel
theorem dX10_init_1 : decode cX10_init 1 = .ok (.invokespecial 1, 3) := by decide +kernel
theorem dX10_init_4 : decode cX10_init 4 = .ok (.aload_n 0, 1) := by decide +kernel
theorem dX10_init_5 : decode cX10_init 5 = .ok (.new 7, 3) := by decide +kernel
theorem dX10_init_8 : decode cX10_init 8 = .ok (.dup, 1) := by decide +kernel
theorem dX10_init_9 : decode cX10_init 9 = .ok (.invokespecial 9, 3) := by decide +kernel
theorem dX10_init_12 : decode cX10_init 12 = .ok (.putfield 10, 3) := by decide +kernel
theorem dX10_init_15 : decode cX10_init 15 = .ok (.aload_n 0, 1) := by decide +kernel
theorem dX10_init_16 : decode cX10_init 16 = .ok (.new 16, 3) := by decide +kernel
theorem dX10_init_19 : decode cX10_init 19 = .ok (.dup, 1) := by decide +kernel
theorem dX10_init_20 : decode cX10_init 20 = .ok (.invokespecial 18, 3) := by decide +kernel
theorem dX10_init_23 : decode cX10_init 23 = .ok (.putfield 19, 3) := by decide +kernel
theorem dX10_init_26 : decode cX10_init 26 = .ok (.aload_n 0, 1) := by decide +kernel
theorem dX10_init_27 : decode cX10_init 27 = .ok (.new 16, 3) := by decide +kernel
theorem dX10_init_30 : decode cX10_init 30 = .ok (.dup, 1) := by decide +kernel
theorem dX10_init_31 : decode cX10_init 31 = .ok (.invokespecial 18, 3) := by decide +kernel
theorem dX10_init_34 : decode cX10_init 34 = .ok (.putfield 23, 3) := by decide +kernel
theorem dX10_init_37 : decode cX10_init 37 = .ok (.aload_n 0, 1) := by decide +kernel
theorem dX10_init_38 : decode cX10_init 38 = .ok (.new 26, 3) := by decide +kernel
theorem dX10_init_41 : decode cX10_init 41 = .ok (.dup, 1) := by decide +kernel
theorem dX10_init_42 : decode cX10_init 42 = .ok (.invokespecial 28, 3) := by decide +kernel
theorem dX10_init_45 : decode cX10_init 45 = .ok (.putfield 29, 3) := by decide +kernel
theorem dX10_init_48 : decode cX10_init 48 = .ok (.aload_n 0, 1) := by decide +kernel
theorem dX10_init_49 : decode cX10_init 49 = .ok (.new 33, 3) := by decide +kernel
theorem dX10_init_52 : decode cX10_init 52 = .ok (.dup, 1) := by decide +kernel
theorem dX10_init_53 : decode cX10_init 53 = .ok (.invokespecial 35, 3) := by decide +kernel
theorem dX10_init_56 : decode cX10_init 56 = .ok (.putfield 36, 3) := by decide +kernel
theorem dX10_init_59 : decode cX10_init 59 = .ok (.aload_n 0, 1) := by decide +kernel
theorem dX10_init_60 : decode cX10_init 60 = .ok (.new 40, 3) := by decide +kernel
theorem dX10_init_63 : decode cX10_init 63 = .ok (.dup, 1) := by decide +kernel
theorem dX10_init_64 : decode cX10_init 64 = .ok (.invokespecial 42, 3) := by decide +kernel
theorem dX10_init_67 : decode cX10_init 67 = .ok (.putfield 43, 3) := by decide +kernel
theorem dX10_init_70 : decode cX10_init 70 = .ok (.return_, 1) := by decide +kernel
theorem dX10_append_0 : decode cX10_append 0 = .ok (.iload_n 1, 1) := by decide +kernel
theorem dX10_append_1 : decode cX10_append 1 = .ok (.iconst 0, 1) := by decide +kernel
theorem dX10_append_2 : decode cX10_append 2 = .ok (.sipush 255, 3) := by decide +kernel
theorem dX10_append_5 : decode cX10_append 5 = .ok (.invokestatic 47, 3) := by decide +kernel
theorem dX10_append_8 : decode cX10_append 8 = .ok (.ifCond .ne 13, 3) := by decide +kernel
theorem dX10_append_11 : decode cX10_append 11 = .ok (.new 51, 3) := by decide +kernel
theorem dX10_append_14 : decode cX10_append 14 = .ok (.dup, 1) := by decide +kernel
theorem dX10_append_15 : decode cX10_append 15 = .ok (.ldc 53, 2) := by decide +kernel
theorem dX10_append_17 : decode cX10_append 17 = .ok (.invokespecial 55, 3) := by decide +kernel
theorem dX10_append_20 : decode cX10_append 20 = .ok (.athrow, 1) := by decide +kernel
theorem dX10_append_21 : decode cX10_append 21 = .ok (.aload_n 0, 1) := by decide +kernel
theorem dX10_append_22 : decode cX10_append 22 = .ok (.getfield 10, 3) := by decide +kernel
theorem dX10_append_25 : decode cX10_append 25 = .ok (.invokevirtual 58, 3) := by decide +kernel
theorem dX10_append_28 : decode cX10_append 28 = .ok (.ifCond .eq 13, 3) := by decide +kernel
theorem dX10_append_31 : decode cX10_append 31 = .ok (.new 62, 3) := by decide +kernel
theorem dX10_append_34 : decode cX10_append 34 = .ok (.dup, 1) := by decide +kernel
theorem dX10_append_35 : decode cX10_append 35 = .ok (.ldc 64, 2) := by decide +kernel
theorem dX10_append_37 : decode cX10_append 37 = .ok (.invokespecial 66, 3) := by decide +kernel
theorem dX10_append_40 : decode cX10_append 40 = .ok (.athrow, 1) := by decide +kernel
theorem dX10_append_41 : decode cX10_append 41 = .ok (.aload_n 0, 1) := by decide +kernel
theorem dX10_append_42 : decode cX10_append 42 = .ok (.getfield 10, 3) := by decide +kernel
theorem dX10_append_45 : decode cX10_append 45 = .ok (.iload_n 1, 1) := by decide +kernel
theorem dX10_append_46 : decode cX10_append 46 = .ok (.i2c, 1) := by decide +kernel
theorem dX10_append_47 : decode cX10_append 47 = .ok (.invokevirtual 67, 3) := by decide +kernel
theorem dX10_append_50 : decode cX10_append 50 = .ok (.ireturn, 1) := by decide +kernel
theorem dX10_clearText_0 : decode cX10_clearText 0 = .ok (.aload_n 0, 1) := by decide +kernel
theorem dX10_clearText_1 : decode cX10_clearText 1 = .ok (.getfield 10, 3) := by decide +kernel
theorem dX10_clearText_4 : decode cX10_clearText 4 = .ok (.invokevirtual 71, 3) := by decide +kernel
theorem dX10_clearText_7 : decode cX10_clearText 7 = .ok (.ireturn, 1) := by decide +kernel
theorem dX10_errorPosition_0 : decode cX10_errorPosition 0 = .ok (.new 75, 3) := by decide +kernel
theorem dX10_errorPosition_3 : decode cX10_errorPosition 3 = .ok (.dup, 1) := by decide +kernel
theorem dX10_errorPosition_4 : decode cX10_errorPosition 4 = .ok (.aload_n 0, 1) := by decide +kernel
theorem dX10_errorPosition_5 : decode cX10_errorPosition 5 = .ok (.getfield 10, 3) := by decide +kernel
theorem dX10_errorPosition_8 : decode cX10_errorPosition 8 = .ok (.aload_n 0, 1) := by decide +kernel
theorem dX10_errorPosition_9 : decode cX10_errorPosition 9 = .ok (.getfield 23, 3) := by decide +kernel
theorem dX10_errorPosition_12 : decode cX10_errorPosition 12 = .ok (.invokespecial 77, 3) := by decide +kernel
theorem dX10_errorPosition_15 : decode cX10_errorPosition 15 = .ok (.invokevirtual 80, 3) := by decide +kernel
theorem dX10_errorPosition_18 : decode cX10_errorPosition 18 = .ok (.ireturn, 1) := by decide +kernel
theorem dX10_load_0 : decode cX10_load 0 = .ok (.new 75, 3) := by decide +kernel
theorem dX10_load_3 : decode cX10_load 3 = .ok (.dup, 1) := by decide +kernel
theorem dX10_load_4 : decode cX10_load 4 = .ok (.aload_n 0, 1) := by decide +kernel
theorem dX10_load_5 : decode cX10_load 5 = .ok (.getfield 10, 3) := by decide +kernel
theorem dX10_load_8 : decode cX10_load 8 = .ok (.aload_n 0, 1) := by decide +kernel
theorem dX10_load_9 : decode cX10_load 9 = .ok (.getfield 23, 3) := by decide +kernel
theorem dX10_load_12 : decode cX10_load 12 = .ok (.invokespecial 77, 3) := by decide +kernel
theorem dX10_load_15 : decode cX10_load 15 = .ok (.invokevirtual 80, 3) := by decide +kernel
theorem dX10_load_18 : decode cX10_load 18 = .ok (.bipush (-9), 2) := by decide +kernel
theorem dX10_load_20 : decode cX10_load 20 = .ok (.if_icmp .eq 13, 3) := by decide +kernel
theorem dX10_load_23 : decode cX10_load 23 = .ok (.new 62, 3) := by decide +kernel
theorem dX10_load_26 : decode cX10_load 26 = .ok (.dup, 1) := by decide +kernel
theorem dX10_load_27 : decode cX10_load 27 = .ok (.ldc 83, 2) := by decide +kernel
theorem dX10_load_29 : decode cX10_load 29 = .ok (.invokespecial 66, 3) := by decide +kernel
theorem dX10_load_32 : decode cX10_load 32 = .ok (.athrow, 1) := by decide +kernel
theorem dX10_load_33 : decode cX10_load 33 = .ok (.aload_n 0, 1) := by decide +kernel
theorem dX10_load_34 : decode cX10_load 34 = .ok (.getfield 23, 3) := by decide +kernel
theorem dX10_load_37 : decode cX10_load 37 = .ok (.aload_n 0, 1) := by decide +kernel
theorem dX10_load_38 : decode cX10_load 38 = .ok (.getfield 19, 3) := by decide +kernel
theorem dX10_load_41 : decode cX10_load 41 = .ok (.invokestatic 85, 3) := by decide +kernel
theorem dX10_load_44 : decode cX10_load 44 = .ok (.aload_n 0, 1) := by decide +kernel
theorem dX10_load_45 : decode cX10_load 45 = .ok (.getfield 29, 3) := by decide +kernel
theorem dX10_load_48 : decode cX10_load 48 = .ok (.invokevirtual 89, 3) := by decide +kernel
theorem dX10_load_51 : decode cX10_load 51 = .ok (.aload_n 0, 1) := by decide +kernel
theorem dX10_load_52 : decode cX10_load 52 = .ok (.getfield 36, 3) := by decide +kernel
theorem dX10_load_55 : decode cX10_load 55 = .ok (.invokevirtual 92, 3) := by decide +kernel
theorem dX10_load_58 : decode cX10_load 58 = .ok (.aload_n 0, 1) := by decide +kernel
theorem dX10_load_59 : decode cX10_load 59 = .ok (.getfield 19, 3) := by decide +kernel
theorem dX10_load_62 : decode cX10_load 62 = .ok (.getfield 95, 3) := by decide +kernel
theorem dX10_load_65 : decode cX10_load 65 = .ok (.invokevirtual 99, 3) := by decide +kernel
theorem dX10_load_68 : decode cX10_load 68 = .ok (.ireturn, 1) := by decide +kernel
theorem dX10_about_0 : decode cX10_about 0 = .ok (.iload_n 1, 1) := by decide +kernel
theorem dX10_about_1 : decode cX10_about 1 = .ok (.tableswitch 190 0 11 #[63, 74, 85, 96, 104, 120, 128, 136, 149, 162, 174, 182], 63) := by decide +kernel
theorem dX10_about_64 : decode cX10_about 64 = .ok (.aload_n 0, 1) := by decide +kernel
theorem dX10_about_65 : decode cX10_about 65 = .ok (.getfield 19, 3) := by decide +kernel
theorem dX10_about_68 : decode cX10_about 68 = .ok (.getfield 104, 3) := by decide +kernel
theorem dX10_about_71 : decode cX10_about 71 = .ok (.invokevirtual 99, 3) := by decide +kernel
theorem dX10_about_74 : decode cX10_about 74 = .ok (.ireturn, 1) := by decide +kernel
theorem dX10_about_75 : decode cX10_about 75 = .ok (.aload_n 0, 1) := by decide +kernel
theorem dX10_about_76 : decode cX10_about 76 = .ok (.getfield 19, 3) := by decide +kernel
theorem dX10_about_79 : decode cX10_about 79 = .ok (.getfield 107, 3) := by decide +kernel
theorem dX10_about_82 : decode cX10_about 82 = .ok (.invokevirtual 99, 3) := by decide +kernel
theorem dX10_about_85 : decode cX10_about 85 = .ok (.ireturn, 1) := by decide +kernel
theorem dX10_about_86 : decode cX10_about 86 = .ok (.aload_n 0, 1) := by decide +kernel
theorem dX10_about_87 : decode cX10_about 87 = .ok (.getfield 19, 3) := by decide +kernel
theorem dX10_about_90 : decode cX10_about 90 = .ok (.getfield 95, 3) := by decide +kernel
theorem dX10_about_93 : decode cX10_about 93 = .ok (.invokevirtual 99, 3) := by decide +kernel
theorem dX10_about_96 : decode cX10_about 96 = .ok (.ireturn, 1) := by decide +kernel
theorem dX10_about_97 : decode cX10_about 97 = .ok (.aload_n 0, 1) := by decide +kernel
theorem dX10_about_98 : decode cX10_about 98 = .ok (.getfield 19, 3) := by decide +kernel
theorem dX10_about_101 : decode cX10_about 101 = .ok (.getfield 110, 3) := by decide +kernel
theorem dX10_about_104 : decode cX10_about 104 = .ok (.ireturn, 1) := by decide +kernel
theorem dX10_about_105 : decode cX10_about 105 = .ok (.aload_n 0, 1) := by decide +kernel
theorem dX10_about_106 : decode cX10_about 106 = .ok (.getfield 19, 3) := by decide +kernel
theorem dX10_about_109 : decode cX10_about 109 = .ok (.getfield 114, 3) := by decide +kernel
theorem dX10_about_112 : decode cX10_about 112 = .ok (.ifCond .eq 7, 3) := by decide +kernel
theorem dX10_about_115 : decode cX10_about 115 = .ok (.iconst 1, 1) := by decide +kernel
theorem dX10_about_116 : decode cX10_about 116 = .ok (.goto 4, 3) := by decide +kernel
theorem dX10_about_119 : decode cX10_about 119 = .ok (.iconst 0, 1) := by decide +kernel
theorem dX10_about_120 : decode cX10_about 120 = .ok (.ireturn, 1) := by decide +kernel
theorem dX10_about_121 : decode cX10_about 121 = .ok (.aload_n 0, 1) := by decide +kernel
theorem dX10_about_122 : decode cX10_about 122 = .ok (.getfield 19, 3) := by decide +kernel
theorem dX10_about_125 : decode cX10_about 125 = .ok (.getfield 118, 3) := by decide +kernel
theorem dX10_about_128 : decode cX10_about 128 = .ok (.ireturn, 1) := by decide +kernel
theorem dX10_about_129 : decode cX10_about 129 = .ok (.aload_n 0, 1) := by decide +kernel
theorem dX10_about_130 : decode cX10_about 130 = .ok (.getfield 19, 3) := by decide +kernel
theorem dX10_about_133 : decode cX10_about 133 = .ok (.invokevirtual 121, 3) := by decide +kernel
theorem dX10_about_136 : decode cX10_about 136 = .ok (.ireturn, 1) := by decide +kernel
theorem dX10_about_137 : decode cX10_about 137 = .ok (.aload_n 0, 1) := by decide +kernel
theorem dX10_about_138 : decode cX10_about 138 = .ok (.getfield 19, 3) := by decide +kernel
theorem dX10_about_141 : decode cX10_about 141 = .ok (.getfield 95, 3) := by decide +kernel
theorem dX10_about_144 : decode cX10_about 144 = .ok (.iconst 3, 1) := by decide +kernel
theorem dX10_about_145 : decode cX10_about 145 = .ok (.iconst 3, 1) := by decide +kernel
theorem dX10_about_146 : decode cX10_about 146 = .ok (.invokevirtual 124, 3) := by decide +kernel
theorem dX10_about_149 : decode cX10_about 149 = .ok (.ireturn, 1) := by decide +kernel
theorem dX10_about_150 : decode cX10_about 150 = .ok (.aload_n 0, 1) := by decide +kernel
theorem dX10_about_151 : decode cX10_about 151 = .ok (.getfield 19, 3) := by decide +kernel
theorem dX10_about_154 : decode cX10_about 154 = .ok (.getfield 95, 3) := by decide +kernel
theorem dX10_about_157 : decode cX10_about 157 = .ok (.iconst 3, 1) := by decide +kernel
theorem dX10_about_158 : decode cX10_about 158 = .ok (.iconst 4, 1) := by decide +kernel
theorem dX10_about_159 : decode cX10_about 159 = .ok (.invokevirtual 124, 3) := by decide +kernel
theorem dX10_about_162 : decode cX10_about 162 = .ok (.ireturn, 1) := by decide +kernel
theorem dX10_about_163 : decode cX10_about 163 = .ok (.aload_n 0, 1) := by decide +kernel
theorem dX10_about_164 : decode cX10_about 164 = .ok (.getfield 19, 3) := by decide +kernel
theorem dX10_about_167 : decode cX10_about 167 = .ok (.getfield 107, 3) := by decide +kernel
theorem dX10_about_170 : decode cX10_about 170 = .ok (.iconst 3, 1) := by decide +kernel
theorem dX10_about_171 : decode cX10_about 171 = .ok (.invokevirtual 128, 3) := by decide +kernel
theorem dX10_about_174 : decode cX10_about 174 = .ok (.ireturn, 1) := by decide +kernel
theorem dX10_about_175 : decode cX10_about 175 = .ok (.aload_n 0, 1) := by decide +kernel
theorem dX10_about_176 : decode cX10_about 176 = .ok (.getfield 19, 3) := by decide +kernel
theorem dX10_about_179 : decode cX10_about 179 = .ok (.getfield 132, 3) := by decide +kernel
theorem dX10_about_182 : decode cX10_about 182 = .ok (.ireturn, 1) := by decide +kernel
theorem dX10_about_183 : decode cX10_about 183 = .ok (.aload_n 0, 1) := by decide +kernel
theorem dX10_about_184 : decode cX10_about 184 = .ok (.getfield 19, 3) := by decide +kernel
theorem dX10_about_187 : decode cX10_about 187 = .ok (.getfield 135, 3) := by decide +kernel
theorem dX10_about_190 : decode cX10_about 190 = .ok (.ireturn, 1) := by decide +kernel
theorem dX10_about_191 : decode cX10_about 191 = .ok (.new 51, 3) := by decide +kernel
theorem dX10_about_194 : decode cX10_about 194 = .ok (.dup, 1) := by decide +kernel
theorem dX10_about_195 : decode cX10_about 195 = .ok (.ldc 138, 2) := by decide +kernel
theorem dX10_about_197 : decode cX10_about 197 = .ok (.invokespecial 55, 3) := by decide +kernel
theorem dX10_about_200 : decode cX10_about 200 = .ok (.athrow, 1) := by decide +kernel
theorem dX10_course_0 : decode cX10_course 0 = .ok (.aload_n 0, 1) := by decide +kernel
theorem dX10_course_1 : decode cX10_course 1 = .ok (.iload_n 1, 1) := by decide +kernel
theorem dX10_course_2 : decode cX10_course 2 = .ok (.invokevirtual 140, 3) := by decide +kernel
theorem dX10_course_5 : decode cX10_course 5 = .ok (.iload_n 2, 1) := by decide +kernel
theorem dX10_course_6 : decode cX10_course 6 = .ok (.tableswitch 109 0 6 #[42, 42, 42, 55, 70, 79, 94], 42) := by decide +kernel
theorem dX10_course_48 : decode cX10_course 48 = .ok (.aload_n 0, 1) := by decide +kernel
theorem dX10_course_49 : decode cX10_course 49 = .ok (.getfield 19, 3) := by decide +kernel
theorem dX10_course_52 : decode cX10_course 52 = .ok (.getfield 104, 3) := by decide +kernel
theorem dX10_course_55 : decode cX10_course 55 = .ok (.iload_n 1, 1) := by decide +kernel
theorem dX10_course_56 : decode cX10_course 56 = .ok (.iload_n 2, 1) := by decide +kernel
theorem dX10_course_57 : decode cX10_course 57 = .ok (.invokevirtual 144, 3) := by decide +kernel
theorem dX10_course_60 : decode cX10_course 60 = .ok (.ireturn, 1) := by decide +kernel
theorem dX10_course_61 : decode cX10_course 61 = .ok (.aload_n 0, 1) := by decide +kernel
theorem dX10_course_62 : decode cX10_course 62 = .ok (.getfield 19, 3) := by decide +kernel
theorem dX10_course_65 : decode cX10_course 65 = .ok (.getfield 95, 3) := by decide +kernel
theorem dX10_course_68 : decode cX10_course 68 = .ok (.iconst 0, 1) := by decide +kernel
theorem dX10_course_69 : decode cX10_course 69 = .ok (.iload_n 1, 1) := by decide +kernel
theorem dX10_course_70 : decode cX10_course 70 = .ok (.iconst 3, 1) := by decide +kernel
theorem dX10_course_71 : decode cX10_course 71 = .ok (.iconst 3, 1) := by decide +kernel
theorem dX10_course_72 : decode cX10_course 72 = .ok (.invokevirtual 147, 3) := by decide +kernel
theorem dX10_course_75 : decode cX10_course 75 = .ok (.ireturn, 1) := by decide +kernel
theorem dX10_course_76 : decode cX10_course 76 = .ok (.aload_n 0, 1) := by decide +kernel
theorem dX10_course_77 : decode cX10_course 77 = .ok (.getfield 19, 3) := by decide +kernel
theorem dX10_course_80 : decode cX10_course 80 = .ok (.iload_n 1, 1) := by decide +kernel
theorem dX10_course_81 : decode cX10_course 81 = .ok (.invokevirtual 151, 3) := by decide +kernel
theorem dX10_course_84 : decode cX10_course 84 = .ok (.ireturn, 1) := by decide +kernel
theorem dX10_course_85 : decode cX10_course 85 = .ok (.aload_n 0, 1) := by decide +kernel
theorem dX10_course_86 : decode cX10_course 86 = .ok (.getfield 19, 3) := by decide +kernel
theorem dX10_course_89 : decode cX10_course 89 = .ok (.getfield 95, 3) := by decide +kernel
theorem dX10_course_92 : decode cX10_course 92 = .ok (.iconst 0, 1) := by decide +kernel
theorem dX10_course_93 : decode cX10_course 93 = .ok (.iload_n 1, 1) := by decide +kernel
theorem dX10_course_94 : decode cX10_course 94 = .ok (.iconst 3, 1) := by decide +kernel
theorem dX10_course_95 : decode cX10_course 95 = .ok (.iconst 0, 1) := by decide +kernel
theorem dX10_course_96 : decode cX10_course 96 = .ok (.invokevirtual 147, 3) := by decide +kernel
theorem dX10_course_99 : decode cX10_course 99 = .ok (.ireturn, 1) := by decide +kernel
theorem dX10_course_100 : decode cX10_course 100 = .ok (.aload_n 0, 1) := by decide +kernel
theorem dX10_course_101 : decode cX10_course 101 = .ok (.getfield 19, 3) := by decide +kernel
theorem dX10_course_104 : decode cX10_course 104 = .ok (.getfield 95, 3) := by decide +kernel
theorem dX10_course_107 : decode cX10_course 107 = .ok (.iconst 0, 1) := by decide +kernel
theorem dX10_course_108 : decode cX10_course 108 = .ok (.iload_n 1, 1) := by decide +kernel
theorem dX10_course_109 : decode cX10_course 109 = .ok (.iconst 3, 1) := by decide +kernel
theorem dX10_course_110 : decode cX10_course 110 = .ok (.iconst 2, 1) := by decide +kernel
theorem dX10_course_111 : decode cX10_course 111 = .ok (.invokevirtual 147, 3) := by decide +kernel
theorem dX10_course_114 : decode cX10_course 114 = .ok (.ireturn, 1) := by decide +kernel
theorem dX10_course_115 : decode cX10_course 115 = .ok (.new 51, 3) := by decide +kernel
theorem dX10_course_118 : decode cX10_course 118 = .ok (.dup, 1) := by decide +kernel
theorem dX10_course_119 : decode cX10_course 119 = .ok (.ldc 154, 2) := by decide +kernel
theorem dX10_course_121 : decode cX10_course 121 = .ok (.invokespecial 55, 3) := by decide +kernel
theorem dX10_course_124 : decode cX10_course 124 = .ok (.athrow, 1) := by decide +kernel
theorem dX10_mason_0 : decode cX10_mason 0 = .ok (.aload_n 0, 1) := by decide +kernel
theorem dX10_mason_1 : decode cX10_mason 1 = .ok (.iload_n 1, 1) := by decide +kernel
theorem dX10_mason_2 : decode cX10_mason 2 = .ok (.invokevirtual 156, 3) := by decide +kernel
theorem dX10_mason_5 : decode cX10_mason 5 = .ok (.iload_n 2, 1) := by decide +kernel
theorem dX10_mason_6 : decode cX10_mason 6 = .ok (.tableswitch 75 0 5 #[38, 38, 38, 38, 51, 66], 38) := by decide +kernel
theorem dX10_mason_44 : decode cX10_mason 44 = .ok (.aload_n 0, 1) := by decide +kernel
theorem dX10_mason_45 : decode cX10_mason 45 = .ok (.getfield 19, 3) := by decide +kernel
theorem dX10_mason_48 : decode cX10_mason 48 = .ok (.getfield 107, 3) := by decide +kernel
theorem dX10_mason_51 : decode cX10_mason 51 = .ok (.iload_n 1, 1) := by decide +kernel
theorem dX10_mason_52 : decode cX10_mason 52 = .ok (.iload_n 2, 1) := by decide +kernel
theorem dX10_mason_53 : decode cX10_mason 53 = .ok (.invokevirtual 144, 3) := by decide +kernel
theorem dX10_mason_56 : decode cX10_mason 56 = .ok (.ireturn, 1) := by decide +kernel
theorem dX10_mason_57 : decode cX10_mason 57 = .ok (.aload_n 0, 1) := by decide +kernel
theorem dX10_mason_58 : decode cX10_mason 58 = .ok (.getfield 19, 3) := by decide +kernel
theorem dX10_mason_61 : decode cX10_mason 61 = .ok (.getfield 95, 3) := by decide +kernel
theorem dX10_mason_64 : decode cX10_mason 64 = .ok (.iconst 1, 1) := by decide +kernel
theorem dX10_mason_65 : decode cX10_mason 65 = .ok (.iload_n 1, 1) := by decide +kernel
theorem dX10_mason_66 : decode cX10_mason 66 = .ok (.iconst 3, 1) := by decide +kernel
theorem dX10_mason_67 : decode cX10_mason 67 = .ok (.iconst 3, 1) := by decide +kernel
theorem dX10_mason_68 : decode cX10_mason 68 = .ok (.invokevirtual 147, 3) := by decide +kernel
theorem dX10_mason_71 : decode cX10_mason 71 = .ok (.ireturn, 1) := by decide +kernel
theorem dX10_mason_72 : decode cX10_mason 72 = .ok (.aload_n 0, 1) := by decide +kernel
theorem dX10_mason_73 : decode cX10_mason 73 = .ok (.getfield 19, 3) := by decide +kernel
theorem dX10_mason_76 : decode cX10_mason 76 = .ok (.iload_n 1, 1) := by decide +kernel
theorem dX10_mason_77 : decode cX10_mason 77 = .ok (.invokevirtual 159, 3) := by decide +kernel
theorem dX10_mason_80 : decode cX10_mason 80 = .ok (.ireturn, 1) := by decide +kernel
theorem dX10_mason_81 : decode cX10_mason 81 = .ok (.new 51, 3) := by decide +kernel
theorem dX10_mason_84 : decode cX10_mason 84 = .ok (.dup, 1) := by decide +kernel
theorem dX10_mason_85 : decode cX10_mason 85 = .ok (.ldc 162, 2) := by decide +kernel
theorem dX10_mason_87 : decode cX10_mason 87 = .ok (.invokespecial 55, 3) := by decide +kernel
theorem dX10_mason_90 : decode cX10_mason 90 = .ok (.athrow, 1) := by decide +kernel
theorem dX10_stone_0 : decode cX10_stone 0 = .ok (.aload_n 0, 1) := by decide +kernel
theorem dX10_stone_1 : decode cX10_stone 1 = .ok (.iload_n 1, 1) := by decide +kernel
theorem dX10_stone_2 : decode cX10_stone 2 = .ok (.invokevirtual 164, 3) := by decide +kernel
theorem dX10_stone_5 : decode cX10_stone 5 = .ok (.iload_n 2, 1) := by decide +kernel
theorem dX10_stone_6 : decode cX10_stone 6 = .ok (.iconst 0, 1) := by decide +kernel
theorem dX10_stone_7 : decode cX10_stone 7 = .ok (.iconst 5, 1) := by decide +kernel
theorem dX10_stone_8 : decode cX10_stone 8 = .ok (.invokestatic 47, 3) := by decide +kernel
theorem dX10_stone_11 : decode cX10_stone 11 = .ok (.ifCond .ne 13, 3) := by decide +kernel
theorem dX10_stone_14 : decode cX10_stone 14 = .ok (.new 51, 3) := by decide +kernel
theorem dX10_stone_17 : decode cX10_stone 17 = .ok (.dup, 1) := by decide +kernel
theorem dX10_stone_18 : decode cX10_stone 18 = .ok (.ldc 162, 2) := by decide +kernel
theorem dX10_stone_20 : decode cX10_stone 20 = .ok (.invokespecial 55, 3) := by decide +kernel
theorem dX10_stone_23 : decode cX10_stone 23 = .ok (.athrow, 1) := by decide +kernel
theorem dX10_stone_24 : decode cX10_stone 24 = .ok (.aload_n 0, 1) := by decide +kernel
theorem dX10_stone_25 : decode cX10_stone 25 = .ok (.getfield 19, 3) := by decide +kernel
theorem dX10_stone_28 : decode cX10_stone 28 = .ok (.getfield 95, 3) := by decide +kernel
theorem dX10_stone_31 : decode cX10_stone 31 = .ok (.iload_n 1, 1) := by decide +kernel
theorem dX10_stone_32 : decode cX10_stone 32 = .ok (.iload_n 2, 1) := by decide +kernel
theorem dX10_stone_33 : decode cX10_stone 33 = .ok (.invokevirtual 144, 3) := by decide +kernel
theorem dX10_stone_36 : decode cX10_stone 36 = .ok (.ireturn, 1) := by decide +kernel
theorem dX10_whyNotSet_0 : decode cX10_whyNotSet 0 = .ok (.aload_n 0, 1) := by decide +kernel
theorem dX10_whyNotSet_1 : decode cX10_whyNotSet 1 = .ok (.iload_n 1, 1) := by decide +kernel
theorem dX10_whyNotSet_2 : decode cX10_whyNotSet 2 = .ok (.invokevirtual 164, 3) := by decide +kernel
theorem dX10_whyNotSet_5 : decode cX10_whyNotSet 5 = .ok (.aload_n 0, 1) := by decide +kernel
theorem dX10_whyNotSet_6 : decode cX10_whyNotSet 6 = .ok (.getfield 19, 3) := by decide +kernel
theorem dX10_whyNotSet_9 : decode cX10_whyNotSet 9 = .ok (.iload_n 1, 1) := by decide +kernel
theorem dX10_whyNotSet_10 : decode cX10_whyNotSet 10 = .ok (.invokevirtual 167, 3) := by decide +kernel
theorem dX10_whyNotSet_13 : decode cX10_whyNotSet 13 = .ok (.ireturn, 1) := by decide +kernel
theorem dX10_addCourse_0 : decode cX10_addCourse 0 = .ok (.iload_n 1, 1) := by decide +kernel
theorem dX10_addCourse_1 : decode cX10_addCourse 1 = .ok (.iconst 1, 1) := by decide +kernel
theorem dX10_addCourse_2 : decode cX10_addCourse 2 = .ok (.bipush 9, 2) := by decide +kernel
theorem dX10_addCourse_4 : decode cX10_addCourse 4 = .ok (.invokestatic 47, 3) := by decide +kernel
theorem dX10_addCourse_7 : decode cX10_addCourse 7 = .ok (.ifCond .eq 23, 3) := by decide +kernel
theorem dX10_addCourse_10 : decode cX10_addCourse 10 = .ok (.iload_n 2, 1) := by decide +kernel
theorem dX10_addCourse_11 : decode cX10_addCourse 11 = .ok (.iconst 1, 1) := by decide +kernel
theorem dX10_addCourse_12 : decode cX10_addCourse 12 = .ok (.bipush 6, 2) := by decide +kernel
theorem dX10_addCourse_14 : decode cX10_addCourse 14 = .ok (.invokestatic 47, 3) := by decide +kernel
theorem dX10_addCourse_17 : decode cX10_addCourse 17 = .ok (.ifCond .eq 13, 3) := by decide +kernel
theorem dX10_addCourse_20 : decode cX10_addCourse 20 = .ok (.iload_n 3, 1) := by decide +kernel
theorem dX10_addCourse_21 : decode cX10_addCourse 21 = .ok (.iconst 1, 1) := by decide +kernel
theorem dX10_addCourse_22 : decode cX10_addCourse 22 = .ok (.bipush 9, 2) := by decide +kernel
theorem dX10_addCourse_24 : decode cX10_addCourse 24 = .ok (.invokestatic 47, 3) := by decide +kernel
theorem dX10_addCourse_27 : decode cX10_addCourse 27 = .ok (.ifCond .ne 13, 3) := by decide +kernel
theorem dX10_addCourse_30 : decode cX10_addCourse 30 = .ok (.new 51, 3) := by decide +kernel
theorem dX10_addCourse_33 : decode cX10_addCourse 33 = .ok (.dup, 1) := by decide +kernel
theorem dX10_addCourse_34 : decode cX10_addCourse 34 = .ok (.ldc 170, 2) := by decide +kernel
theorem dX10_addCourse_36 : decode cX10_addCourse 36 = .ok (.invokespecial 55, 3) := by decide +kernel
theorem dX10_addCourse_39 : decode cX10_addCourse 39 = .ok (.athrow, 1) := by decide +kernel
theorem dX10_addCourse_40 : decode cX10_addCourse 40 = .ok (.aload_n 0, 1) := by decide +kernel
theorem dX10_addCourse_41 : decode cX10_addCourse 41 = .ok (.getfield 19, 3) := by decide +kernel
theorem dX10_addCourse_44 : decode cX10_addCourse 44 = .ok (.getfield 104, 3) := by decide +kernel
theorem dX10_addCourse_47 : decode cX10_addCourse 47 = .ok (.invokevirtual 172, 3) := by decide +kernel
theorem dX10_addCourse_50 : decode cX10_addCourse 50 = .ok (.ifCond .ne 13, 3) := by decide +kernel
theorem dX10_addCourse_53 : decode cX10_addCourse 53 = .ok (.new 62, 3) := by decide +kernel
theorem dX10_addCourse_56 : decode cX10_addCourse 56 = .ok (.dup, 1) := by decide +kernel
theorem dX10_addCourse_57 : decode cX10_addCourse 57 = .ok (.ldc 175, 2) := by decide +kernel
theorem dX10_addCourse_59 : decode cX10_addCourse 59 = .ok (.invokespecial 66, 3) := by decide +kernel
theorem dX10_addCourse_62 : decode cX10_addCourse 62 = .ok (.athrow, 1) := by decide +kernel
theorem dX10_addCourse_63 : decode cX10_addCourse 63 = .ok (.aload_n 0, 1) := by decide +kernel
theorem dX10_addCourse_64 : decode cX10_addCourse 64 = .ok (.getfield 29, 3) := by decide +kernel
theorem dX10_addCourse_67 : decode cX10_addCourse 67 = .ok (.aload_n 0, 1) := by decide +kernel
theorem dX10_addCourse_68 : decode cX10_addCourse 68 = .ok (.getfield 19, 3) := by decide +kernel
theorem dX10_addCourse_71 : decode cX10_addCourse 71 = .ok (.invokevirtual 177, 3) := by decide +kernel
theorem dX10_addCourse_74 : decode cX10_addCourse 74 = .ok (.aload_n 0, 1) := by decide +kernel
theorem dX10_addCourse_75 : decode cX10_addCourse 75 = .ok (.getfield 19, 3) := by decide +kernel
theorem dX10_addCourse_78 : decode cX10_addCourse 78 = .ok (.iload_n 1, 1) := by decide +kernel
theorem dX10_addCourse_79 : decode cX10_addCourse 79 = .ok (.iload_n 2, 1) := by decide +kernel
theorem dX10_addCourse_80 : decode cX10_addCourse 80 = .ok (.iload_n 3, 1) := by decide +kernel
theorem dX10_addCourse_81 : decode cX10_addCourse 81 = .ok (.invokevirtual 181, 3) := by decide +kernel
theorem dX10_addCourse_84 : decode cX10_addCourse 84 = .ok (.ireturn, 1) := by decide +kernel
theorem dX10_addMason_0 : decode cX10_addMason 0 = .ok (.iload_n 1, 1) := by decide +kernel
theorem dX10_addMason_1 : decode cX10_addMason 1 = .ok (.iconst 1, 1) := by decide +kernel
theorem dX10_addMason_2 : decode cX10_addMason 2 = .ok (.bipush 9, 2) := by decide +kernel
theorem dX10_addMason_4 : decode cX10_addMason 4 = .ok (.invokestatic 47, 3) := by decide +kernel
theorem dX10_addMason_7 : decode cX10_addMason 7 = .ok (.ifCond .eq 13, 3) := by decide +kernel
theorem dX10_addMason_10 : decode cX10_addMason 10 = .ok (.iload_n 2, 1) := by decide +kernel
theorem dX10_addMason_11 : decode cX10_addMason 11 = .ok (.iconst 1, 1) := by decide +kernel
theorem dX10_addMason_12 : decode cX10_addMason 12 = .ok (.bipush 12, 2) := by decide +kernel
theorem dX10_addMason_14 : decode cX10_addMason 14 = .ok (.invokestatic 47, 3) := by decide +kernel
theorem dX10_addMason_17 : decode cX10_addMason 17 = .ok (.ifCond .ne 13, 3) := by decide +kernel
theorem dX10_addMason_20 : decode cX10_addMason 20 = .ok (.new 51, 3) := by decide +kernel
theorem dX10_addMason_23 : decode cX10_addMason 23 = .ok (.dup, 1) := by decide +kernel
theorem dX10_addMason_24 : decode cX10_addMason 24 = .ok (.ldc 185, 2) := by decide +kernel
theorem dX10_addMason_26 : decode cX10_addMason 26 = .ok (.invokespecial 55, 3) := by decide +kernel
theorem dX10_addMason_29 : decode cX10_addMason 29 = .ok (.athrow, 1) := by decide +kernel
theorem dX10_addMason_30 : decode cX10_addMason 30 = .ok (.aload_n 0, 1) := by decide +kernel
theorem dX10_addMason_31 : decode cX10_addMason 31 = .ok (.getfield 19, 3) := by decide +kernel
theorem dX10_addMason_34 : decode cX10_addMason 34 = .ok (.getfield 107, 3) := by decide +kernel
theorem dX10_addMason_37 : decode cX10_addMason 37 = .ok (.invokevirtual 172, 3) := by decide +kernel
theorem dX10_addMason_40 : decode cX10_addMason 40 = .ok (.ifCond .ne 13, 3) := by decide +kernel
theorem dX10_addMason_43 : decode cX10_addMason 43 = .ok (.new 62, 3) := by decide +kernel
theorem dX10_addMason_46 : decode cX10_addMason 46 = .ok (.dup, 1) := by decide +kernel
theorem dX10_addMason_47 : decode cX10_addMason 47 = .ok (.ldc 187, 2) := by decide +kernel
theorem dX10_addMason_49 : decode cX10_addMason 49 = .ok (.invokespecial 66, 3) := by decide +kernel
theorem dX10_addMason_52 : decode cX10_addMason 52 = .ok (.athrow, 1) := by decide +kernel
theorem dX10_addMason_53 : decode cX10_addMason 53 = .ok (.aload_n 0, 1) := by decide +kernel
theorem dX10_addMason_54 : decode cX10_addMason 54 = .ok (.getfield 29, 3) := by decide +kernel
theorem dX10_addMason_57 : decode cX10_addMason 57 = .ok (.aload_n 0, 1) := by decide +kernel
theorem dX10_addMason_58 : decode cX10_addMason 58 = .ok (.getfield 19, 3) := by decide +kernel
theorem dX10_addMason_61 : decode cX10_addMason 61 = .ok (.invokevirtual 177, 3) := by decide +kernel
theorem dX10_addMason_64 : decode cX10_addMason 64 = .ok (.aload_n 0, 1) := by decide +kernel
theorem dX10_addMason_65 : decode cX10_addMason 65 = .ok (.getfield 19, 3) := by decide +kernel
theorem dX10_addMason_68 : decode cX10_addMason 68 = .ok (.iload_n 1, 1) := by decide +kernel
theorem dX10_addMason_69 : decode cX10_addMason 69 = .ok (.iload_n 2, 1) := by decide +kernel
theorem dX10_addMason_70 : decode cX10_addMason 70 = .ok (.invokevirtual 189, 3) := by decide +kernel
theorem dX10_addMason_73 : decode cX10_addMason 73 = .ok (.ireturn, 1) := by decide +kernel
theorem dX10_setRate_0 : decode cX10_setRate 0 = .ok (.aload_n 0, 1) := by decide +kernel
theorem dX10_setRate_1 : decode cX10_setRate 1 = .ok (.iload_n 1, 1) := by decide +kernel
theorem dX10_setRate_2 : decode cX10_setRate 2 = .ok (.invokevirtual 156, 3) := by decide +kernel
theorem dX10_setRate_5 : decode cX10_setRate 5 = .ok (.iload_n 2, 1) := by decide +kernel
theorem dX10_setRate_6 : decode cX10_setRate 6 = .ok (.iconst 1, 1) := by decide +kernel
theorem dX10_setRate_7 : decode cX10_setRate 7 = .ok (.bipush 9, 2) := by decide +kernel
theorem dX10_setRate_9 : decode cX10_setRate 9 = .ok (.invokestatic 47, 3) := by decide +kernel
theorem dX10_setRate_12 : decode cX10_setRate 12 = .ok (.ifCond .ne 13, 3) := by decide +kernel
theorem dX10_setRate_15 : decode cX10_setRate 15 = .ok (.new 51, 3) := by decide +kernel
theorem dX10_setRate_18 : decode cX10_setRate 18 = .ok (.dup, 1) := by decide +kernel
theorem dX10_setRate_19 : decode cX10_setRate 19 = .ok (.ldc 192, 2) := by decide +kernel
theorem dX10_setRate_21 : decode cX10_setRate 21 = .ok (.invokespecial 55, 3) := by decide +kernel
theorem dX10_setRate_24 : decode cX10_setRate 24 = .ok (.athrow, 1) := by decide +kernel
theorem dX10_setRate_25 : decode cX10_setRate 25 = .ok (.aload_n 0, 1) := by decide +kernel
theorem dX10_setRate_26 : decode cX10_setRate 26 = .ok (.getfield 29, 3) := by decide +kernel
theorem dX10_setRate_29 : decode cX10_setRate 29 = .ok (.aload_n 0, 1) := by decide +kernel
theorem dX10_setRate_30 : decode cX10_setRate 30 = .ok (.getfield 19, 3) := by decide +kernel
theorem dX10_setRate_33 : decode cX10_setRate 33 = .ok (.invokevirtual 177, 3) := by decide +kernel
theorem dX10_setRate_36 : decode cX10_setRate 36 = .ok (.aload_n 0, 1) := by decide +kernel
theorem dX10_setRate_37 : decode cX10_setRate 37 = .ok (.getfield 19, 3) := by decide +kernel
theorem dX10_setRate_40 : decode cX10_setRate 40 = .ok (.getfield 107, 3) := by decide +kernel
theorem dX10_setRate_43 : decode cX10_setRate 43 = .ok (.iload_n 1, 1) := by decide +kernel
theorem dX10_setRate_44 : decode cX10_setRate 44 = .ok (.iconst 0, 1) := by decide +kernel
theorem dX10_setRate_45 : decode cX10_setRate 45 = .ok (.invokevirtual 144, 3) := by decide +kernel
theorem dX10_setRate_48 : decode cX10_setRate 48 = .ok (.istore_n 3, 1) := by decide +kernel
theorem dX10_setRate_49 : decode cX10_setRate 49 = .ok (.aload_n 0, 1) := by decide +kernel
theorem dX10_setRate_50 : decode cX10_setRate 50 = .ok (.getfield 19, 3) := by decide +kernel
theorem dX10_setRate_53 : decode cX10_setRate 53 = .ok (.getfield 107, 3) := by decide +kernel
theorem dX10_setRate_56 : decode cX10_setRate 56 = .ok (.iload_n 1, 1) := by decide +kernel
theorem dX10_setRate_57 : decode cX10_setRate 57 = .ok (.iconst 0, 1) := by decide +kernel
theorem dX10_setRate_58 : decode cX10_setRate 58 = .ok (.iload_n 2, 1) := by decide +kernel
theorem dX10_setRate_59 : decode cX10_setRate 59 = .ok (.invokevirtual 194, 3) := by decide +kernel
theorem dX10_setRate_62 : decode cX10_setRate 62 = .ok (.iload_n 3, 1) := by decide +kernel
theorem dX10_setRate_63 : decode cX10_setRate 63 = .ok (.ireturn, 1) := by decide +kernel
theorem dX10_setBound_0 : decode cX10_setBound 0 = .ok (.iload_n 1, 1) := by decide +kernel
theorem dX10_setBound_1 : decode cX10_setBound 1 = .ok (.invokestatic 198, 3) := by decide +kernel
theorem dX10_setBound_4 : decode cX10_setBound 4 = .ok (.aload_n 0, 1) := by decide +kernel
theorem dX10_setBound_5 : decode cX10_setBound 5 = .ok (.getfield 29, 3) := by decide +kernel
theorem dX10_setBound_8 : decode cX10_setBound 8 = .ok (.aload_n 0, 1) := by decide +kernel
theorem dX10_setBound_9 : decode cX10_setBound 9 = .ok (.getfield 19, 3) := by decide +kernel
theorem dX10_setBound_12 : decode cX10_setBound 12 = .ok (.invokevirtual 177, 3) := by decide +kernel
theorem dX10_setBound_15 : decode cX10_setBound 15 = .ok (.aload_n 0, 1) := by decide +kernel
theorem dX10_setBound_16 : decode cX10_setBound 16 = .ok (.getfield 19, 3) := by decide +kernel
theorem dX10_setBound_19 : decode cX10_setBound 19 = .ok (.getfield 118, 3) := by decide +kernel
theorem dX10_setBound_22 : decode cX10_setBound 22 = .ok (.istore_n 2, 1) := by decide +kernel
theorem dX10_setBound_23 : decode cX10_setBound 23 = .ok (.aload_n 0, 1) := by decide +kernel
theorem dX10_setBound_24 : decode cX10_setBound 24 = .ok (.getfield 19, 3) := by decide +kernel
theorem dX10_setBound_27 : decode cX10_setBound 27 = .ok (.iload_n 1, 1) := by decide +kernel
theorem dX10_setBound_28 : decode cX10_setBound 28 = .ok (.putfield 118, 3) := by decide +kernel
theorem dX10_setBound_31 : decode cX10_setBound 31 = .ok (.iload_n 2, 1) := by decide +kernel
theorem dX10_setBound_32 : decode cX10_setBound 32 = .ok (.ireturn, 1) := by decide +kernel
theorem dX10_cut_0 : decode cX10_cut 0 = .ok (.aload_n 0, 1) := by decide +kernel
theorem dX10_cut_1 : decode cX10_cut 1 = .ok (.iload_n 1, 1) := by decide +kernel
theorem dX10_cut_2 : decode cX10_cut 2 = .ok (.invokevirtual 156, 3) := by decide +kernel
theorem dX10_cut_5 : decode cX10_cut 5 = .ok (.aload_n 0, 1) := by decide +kernel
theorem dX10_cut_6 : decode cX10_cut 6 = .ok (.iload_n 2, 1) := by decide +kernel
theorem dX10_cut_7 : decode cX10_cut 7 = .ok (.invokevirtual 140, 3) := by decide +kernel
theorem dX10_cut_10 : decode cX10_cut 10 = .ok (.iload_n 3, 1) := by decide +kernel
theorem dX10_cut_11 : decode cX10_cut 11 = .ok (.iconst 0, 1) := by decide +kernel
theorem dX10_cut_12 : decode cX10_cut 12 = .ok (.bipush 9, 2) := by decide +kernel
theorem dX10_cut_14 : decode cX10_cut 14 = .ok (.invokestatic 47, 3) := by decide +kernel
theorem dX10_cut_17 : decode cX10_cut 17 = .ok (.ifCond .ne 13, 3) := by decide +kernel
theorem dX10_cut_20 : decode cX10_cut 20 = .ok (.new 51, 3) := by decide +kernel
theorem dX10_cut_23 : decode cX10_cut 23 = .ok (.dup, 1) := by decide +kernel
theorem dX10_cut_24 : decode cX10_cut 24 = .ok (.ldc 201, 2) := by decide +kernel
theorem dX10_cut_26 : decode cX10_cut 26 = .ok (.invokespecial 55, 3) := by decide +kernel
theorem dX10_cut_29 : decode cX10_cut 29 = .ok (.athrow, 1) := by decide +kernel
theorem dX10_cut_30 : decode cX10_cut 30 = .ok (.aload_n 0, 1) := by decide +kernel
theorem dX10_cut_31 : decode cX10_cut 31 = .ok (.getfield 19, 3) := by decide +kernel
theorem dX10_cut_34 : decode cX10_cut 34 = .ok (.iload_n 1, 1) := by decide +kernel
theorem dX10_cut_35 : decode cX10_cut 35 = .ok (.iload_n 2, 1) := by decide +kernel
theorem dX10_cut_36 : decode cX10_cut 36 = .ok (.invokevirtual 203, 3) := by decide +kernel
theorem dX10_cut_39 : decode cX10_cut 39 = .ok (.ifCond .ne 13, 3) := by decide +kernel
theorem dX10_cut_42 : decode cX10_cut 42 = .ok (.new 62, 3) := by decide +kernel
theorem dX10_cut_45 : decode cX10_cut 45 = .ok (.dup, 1) := by decide +kernel
theorem dX10_cut_46 : decode cX10_cut 46 = .ok (.ldc 207, 2) := by decide +kernel
theorem dX10_cut_48 : decode cX10_cut 48 = .ok (.invokespecial 66, 3) := by decide +kernel
theorem dX10_cut_51 : decode cX10_cut 51 = .ok (.athrow, 1) := by decide +kernel
theorem dX10_cut_52 : decode cX10_cut 52 = .ok (.aload_n 0, 1) := by decide +kernel
theorem dX10_cut_53 : decode cX10_cut 53 = .ok (.getfield 29, 3) := by decide +kernel
theorem dX10_cut_56 : decode cX10_cut 56 = .ok (.aload_n 0, 1) := by decide +kernel
theorem dX10_cut_57 : decode cX10_cut 57 = .ok (.getfield 19, 3) := by decide +kernel
theorem dX10_cut_60 : decode cX10_cut 60 = .ok (.invokevirtual 177, 3) := by decide +kernel
theorem dX10_cut_63 : decode cX10_cut 63 = .ok (.aload_n 0, 1) := by decide +kernel
theorem dX10_cut_64 : decode cX10_cut 64 = .ok (.getfield 19, 3) := by decide +kernel
theorem dX10_cut_67 : decode cX10_cut 67 = .ok (.iload_n 1, 1) := by decide +kernel
theorem dX10_cut_68 : decode cX10_cut 68 = .ok (.iload_n 2, 1) := by decide +kernel
theorem dX10_cut_69 : decode cX10_cut 69 = .ok (.iload_n 3, 1) := by decide +kernel
theorem dX10_cut_70 : decode cX10_cut 70 = .ok (.invokevirtual 209, 3) := by decide +kernel
theorem dX10_cut_73 : decode cX10_cut 73 = .ok (.ireturn, 1) := by decide +kernel
theorem dX10_inspect_0 : decode cX10_inspect 0 = .ok (.aload_n 0, 1) := by decide +kernel
theorem dX10_inspect_1 : decode cX10_inspect 1 = .ok (.iload_n 1, 1) := by decide +kernel
theorem dX10_inspect_2 : decode cX10_inspect 2 = .ok (.invokevirtual 164, 3) := by decide +kernel
theorem dX10_inspect_5 : decode cX10_inspect 5 = .ok (.aload_n 0, 1) := by decide +kernel
theorem dX10_inspect_6 : decode cX10_inspect 6 = .ok (.getfield 19, 3) := by decide +kernel
theorem dX10_inspect_9 : decode cX10_inspect 9 = .ok (.iload_n 1, 1) := by decide +kernel
theorem dX10_inspect_10 : decode cX10_inspect 10 = .ok (.invokevirtual 212, 3) := by decide +kernel
theorem dX10_inspect_13 : decode cX10_inspect 13 = .ok (.ifCond .ne 13, 3) := by decide +kernel
theorem dX10_inspect_16 : decode cX10_inspect 16 = .ok (.new 62, 3) := by decide +kernel
theorem dX10_inspect_19 : decode cX10_inspect 19 = .ok (.dup, 1) := by decide +kernel
theorem dX10_inspect_20 : decode cX10_inspect 20 = .ok (.ldc 216, 2) := by decide +kernel
theorem dX10_inspect_22 : decode cX10_inspect 22 = .ok (.invokespecial 66, 3) := by decide +kernel
theorem dX10_inspect_25 : decode cX10_inspect 25 = .ok (.athrow, 1) := by decide +kernel
theorem dX10_inspect_26 : decode cX10_inspect 26 = .ok (.aload_n 0, 1) := by decide +kernel
theorem dX10_inspect_27 : decode cX10_inspect 27 = .ok (.getfield 29, 3) := by decide +kernel
theorem dX10_inspect_30 : decode cX10_inspect 30 = .ok (.aload_n 0, 1) := by decide +kernel
theorem dX10_inspect_31 : decode cX10_inspect 31 = .ok (.getfield 19, 3) := by decide +kernel
theorem dX10_inspect_34 : decode cX10_inspect 34 = .ok (.invokevirtual 177, 3) := by decide +kernel
theorem dX10_inspect_37 : decode cX10_inspect 37 = .ok (.aload_n 0, 1) := by decide +kernel
theorem dX10_inspect_38 : decode cX10_inspect 38 = .ok (.getfield 19, 3) := by decide +kernel
theorem dX10_inspect_41 : decode cX10_inspect 41 = .ok (.iload_n 1, 1) := by decide +kernel
theorem dX10_inspect_42 : decode cX10_inspect 42 = .ok (.invokevirtual 218, 3) := by decide +kernel
theorem dX10_inspect_45 : decode cX10_inspect 45 = .ok (.ireturn, 1) := by decide +kernel
theorem dX10_recut_0 : decode cX10_recut 0 = .ok (.aload_n 0, 1) := by decide +kernel
theorem dX10_recut_1 : decode cX10_recut 1 = .ok (.iload_n 1, 1) := by decide +kernel
theorem dX10_recut_2 : decode cX10_recut 2 = .ok (.invokevirtual 156, 3) := by decide +kernel
theorem dX10_recut_5 : decode cX10_recut 5 = .ok (.aload_n 0, 1) := by decide +kernel
theorem dX10_recut_6 : decode cX10_recut 6 = .ok (.iload_n 2, 1) := by decide +kernel
theorem dX10_recut_7 : decode cX10_recut 7 = .ok (.invokevirtual 164, 3) := by decide +kernel
theorem dX10_recut_10 : decode cX10_recut 10 = .ok (.aload_n 0, 1) := by decide +kernel
theorem dX10_recut_11 : decode cX10_recut 11 = .ok (.iload_n 3, 1) := by decide +kernel
theorem dX10_recut_12 : decode cX10_recut 12 = .ok (.invokevirtual 140, 3) := by decide +kernel
theorem dX10_recut_15 : decode cX10_recut 15 = .ok (.aload_n 0, 1) := by decide +kernel
theorem dX10_recut_16 : decode cX10_recut 16 = .ok (.getfield 19, 3) := by decide +kernel
theorem dX10_recut_19 : decode cX10_recut 19 = .ok (.iload_n 1, 1) := by decide +kernel
theorem dX10_recut_20 : decode cX10_recut 20 = .ok (.iload_n 2, 1) := by decide +kernel
theorem dX10_recut_21 : decode cX10_recut 21 = .ok (.iload_n 3, 1) := by decide +kernel
theorem dX10_recut_22 : decode cX10_recut 22 = .ok (.invokevirtual 221, 3) := by decide +kernel
theorem dX10_recut_25 : decode cX10_recut 25 = .ok (.ifCond .ne 13, 3) := by decide +kernel
theorem dX10_recut_28 : decode cX10_recut 28 = .ok (.new 62, 3) := by decide +kernel
theorem dX10_recut_31 : decode cX10_recut 31 = .ok (.dup, 1) := by decide +kernel
theorem dX10_recut_32 : decode cX10_recut 32 = .ok (.ldc 224, 2) := by decide +kernel
theorem dX10_recut_34 : decode cX10_recut 34 = .ok (.invokespecial 66, 3) := by decide +kernel
theorem dX10_recut_37 : decode cX10_recut 37 = .ok (.athrow, 1) := by decide +kernel
theorem dX10_recut_38 : decode cX10_recut 38 = .ok (.aload_n 0, 1) := by decide +kernel
theorem dX10_recut_39 : decode cX10_recut 39 = .ok (.getfield 29, 3) := by decide +kernel
theorem dX10_recut_42 : decode cX10_recut 42 = .ok (.aload_n 0, 1) := by decide +kernel
theorem dX10_recut_43 : decode cX10_recut 43 = .ok (.getfield 19, 3) := by decide +kernel
theorem dX10_recut_46 : decode cX10_recut 46 = .ok (.invokevirtual 177, 3) := by decide +kernel
theorem dX10_recut_49 : decode cX10_recut 49 = .ok (.aload_n 0, 1) := by decide +kernel
theorem dX10_recut_50 : decode cX10_recut 50 = .ok (.getfield 19, 3) := by decide +kernel
theorem dX10_recut_53 : decode cX10_recut 53 = .ok (.iload_n 1, 1) := by decide +kernel
theorem dX10_recut_54 : decode cX10_recut 54 = .ok (.iload_n 2, 1) := by decide +kernel
theorem dX10_recut_55 : decode cX10_recut 55 = .ok (.iload_n 3, 1) := by decide +kernel
theorem dX10_recut_56 : decode cX10_recut 56 = .ok (.invokevirtual 226, 3) := by decide +kernel
theorem dX10_recut_59 : decode cX10_recut 59 = .ok (.ireturn, 1) := by decide +kernel
theorem dX10_scrap_0 : decode cX10_scrap 0 = .ok (.aload_n 0, 1) := by decide +kernel
theorem dX10_scrap_1 : decode cX10_scrap 1 = .ok (.iload_n 1, 1) := by decide +kernel
theorem dX10_scrap_2 : decode cX10_scrap 2 = .ok (.invokevirtual 164, 3) := by decide +kernel
theorem dX10_scrap_5 : decode cX10_scrap 5 = .ok (.aload_n 0, 1) := by decide +kernel
theorem dX10_scrap_6 : decode cX10_scrap 6 = .ok (.getfield 19, 3) := by decide +kernel
theorem dX10_scrap_9 : decode cX10_scrap 9 = .ok (.iload_n 1, 1) := by decide +kernel
theorem dX10_scrap_10 : decode cX10_scrap 10 = .ok (.invokevirtual 229, 3) := by decide +kernel
theorem dX10_scrap_13 : decode cX10_scrap 13 = .ok (.ifCond .ne 13, 3) := by decide +kernel
theorem dX10_scrap_16 : decode cX10_scrap 16 = .ok (.new 62, 3) := by decide +kernel
theorem dX10_scrap_19 : decode cX10_scrap 19 = .ok (.dup, 1) := by decide +kernel
theorem dX10_scrap_20 : decode cX10_scrap 20 = .ok (.ldc 232, 2) := by decide +kernel
theorem dX10_scrap_22 : decode cX10_scrap 22 = .ok (.invokespecial 66, 3) := by decide +kernel
theorem dX10_scrap_25 : decode cX10_scrap 25 = .ok (.athrow, 1) := by decide +kernel
theorem dX10_scrap_26 : decode cX10_scrap 26 = .ok (.aload_n 0, 1) := by decide +kernel
theorem dX10_scrap_27 : decode cX10_scrap 27 = .ok (.getfield 29, 3) := by decide +kernel
theorem dX10_scrap_30 : decode cX10_scrap 30 = .ok (.aload_n 0, 1) := by decide +kernel
theorem dX10_scrap_31 : decode cX10_scrap 31 = .ok (.getfield 19, 3) := by decide +kernel
theorem dX10_scrap_34 : decode cX10_scrap 34 = .ok (.invokevirtual 177, 3) := by decide +kernel
theorem dX10_scrap_37 : decode cX10_scrap 37 = .ok (.aload_n 0, 1) := by decide +kernel
theorem dX10_scrap_38 : decode cX10_scrap 38 = .ok (.getfield 19, 3) := by decide +kernel
theorem dX10_scrap_41 : decode cX10_scrap 41 = .ok (.iload_n 1, 1) := by decide +kernel
theorem dX10_scrap_42 : decode cX10_scrap 42 = .ok (.invokevirtual 234, 3) := by decide +kernel
theorem dX10_scrap_45 : decode cX10_scrap 45 = .ok (.ireturn, 1) := by decide +kernel
theorem dX10_set_0 : decode cX10_set 0 = .ok (.aload_n 0, 1) := by decide +kernel
theorem dX10_set_1 : decode cX10_set 1 = .ok (.iload_n 1, 1) := by decide +kernel
theorem dX10_set_2 : decode cX10_set 2 = .ok (.invokevirtual 164, 3) := by decide +kernel
theorem dX10_set_5 : decode cX10_set 5 = .ok (.aload_n 0, 1) := by decide +kernel
theorem dX10_set_6 : decode cX10_set 6 = .ok (.getfield 19, 3) := by decide +kernel
theorem dX10_set_9 : decode cX10_set 9 = .ok (.iload_n 1, 1) := by decide +kernel
theorem dX10_set_10 : decode cX10_set 10 = .ok (.invokevirtual 167, 3) := by decide +kernel
theorem dX10_set_13 : decode cX10_set 13 = .ok (.ifCond .eq 13, 3) := by decide +kernel
theorem dX10_set_16 : decode cX10_set 16 = .ok (.new 62, 3) := by decide +kernel
theorem dX10_set_19 : decode cX10_set 19 = .ok (.dup, 1) := by decide +kernel
theorem dX10_set_20 : decode cX10_set 20 = .ok (.ldc 237, 2) := by decide +kernel
theorem dX10_set_22 : decode cX10_set 22 = .ok (.invokespecial 66, 3) := by decide +kernel
theorem dX10_set_25 : decode cX10_set 25 = .ok (.athrow, 1) := by decide +kernel
theorem dX10_set_26 : decode cX10_set 26 = .ok (.aload_n 0, 1) := by decide +kernel
theorem dX10_set_27 : decode cX10_set 27 = .ok (.getfield 29, 3) := by decide +kernel
theorem dX10_set_30 : decode cX10_set 30 = .ok (.aload_n 0, 1) := by decide +kernel
theorem dX10_set_31 : decode cX10_set 31 = .ok (.getfield 19, 3) := by decide +kernel
theorem dX10_set_34 : decode cX10_set 34 = .ok (.invokevirtual 177, 3) := by decide +kernel
theorem dX10_set_37 : decode cX10_set 37 = .ok (.aload_n 0, 1) := by decide +kernel
theorem dX10_set_38 : decode cX10_set 38 = .ok (.getfield 19, 3) := by decide +kernel
theorem dX10_set_41 : decode cX10_set 41 = .ok (.iload_n 1, 1) := by decide +kernel
theorem dX10_set_42 : decode cX10_set 42 = .ok (.invokevirtual 239, 3) := by decide +kernel
theorem dX10_set_45 : decode cX10_set 45 = .ok (.ireturn, 1) := by decide +kernel
theorem dX10_pay_0 : decode cX10_pay 0 = .ok (.aload_n 0, 1) := by decide +kernel
theorem dX10_pay_1 : decode cX10_pay 1 = .ok (.getfield 29, 3) := by decide +kernel
theorem dX10_pay_4 : decode cX10_pay 4 = .ok (.aload_n 0, 1) := by decide +kernel
theorem dX10_pay_5 : decode cX10_pay 5 = .ok (.getfield 19, 3) := by decide +kernel
theorem dX10_pay_8 : decode cX10_pay 8 = .ok (.invokevirtual 177, 3) := by decide +kernel
theorem dX10_pay_11 : decode cX10_pay 11 = .ok (.aload_n 0, 1) := by decide +kernel
theorem dX10_pay_12 : decode cX10_pay 12 = .ok (.getfield 19, 3) := by decide +kernel
theorem dX10_pay_15 : decode cX10_pay 15 = .ok (.invokevirtual 242, 3) := by decide +kernel
theorem dX10_pay_18 : decode cX10_pay 18 = .ok (.ireturn, 1) := by decide +kernel
theorem dX10_nextDay_0 : decode cX10_nextDay 0 = .ok (.aload_n 0, 1) := by decide +kernel
theorem dX10_nextDay_1 : decode cX10_nextDay 1 = .ok (.getfield 29, 3) := by decide +kernel
theorem dX10_nextDay_4 : decode cX10_nextDay 4 = .ok (.aload_n 0, 1) := by decide +kernel
theorem dX10_nextDay_5 : decode cX10_nextDay 5 = .ok (.getfield 19, 3) := by decide +kernel
theorem dX10_nextDay_8 : decode cX10_nextDay 8 = .ok (.invokevirtual 177, 3) := by decide +kernel
theorem dX10_nextDay_11 : decode cX10_nextDay 11 = .ok (.aload_n 0, 1) := by decide +kernel
theorem dX10_nextDay_12 : decode cX10_nextDay 12 = .ok (.getfield 19, 3) := by decide +kernel
theorem dX10_nextDay_15 : decode cX10_nextDay 15 = .ok (.iload_n 1, 1) := by decide +kernel
theorem dX10_nextDay_16 : decode cX10_nextDay 16 = .ok (.invokevirtual 245, 3) := by decide +kernel
theorem dX10_nextDay_19 : decode cX10_nextDay 19 = .ok (.ireturn, 1) := by decide +kernel
theorem dX10_undo_0 : decode cX10_undo 0 = .ok (.aload_n 0, 1) := by decide +kernel
theorem dX10_undo_1 : decode cX10_undo 1 = .ok (.getfield 29, 3) := by decide +kernel
theorem dX10_undo_4 : decode cX10_undo 4 = .ok (.invokevirtual 249, 3) := by decide +kernel
theorem dX10_undo_7 : decode cX10_undo 7 = .ok (.ifCond .eq 13, 3) := by decide +kernel
theorem dX10_undo_10 : decode cX10_undo 10 = .ok (.new 62, 3) := by decide +kernel
theorem dX10_undo_13 : decode cX10_undo 13 = .ok (.dup, 1) := by decide +kernel
theorem dX10_undo_14 : decode cX10_undo 14 = .ok (.ldc 252, 2) := by decide +kernel
theorem dX10_undo_16 : decode cX10_undo 16 = .ok (.invokespecial 66, 3) := by decide +kernel
theorem dX10_undo_19 : decode cX10_undo 19 = .ok (.athrow, 1) := by decide +kernel
theorem dX10_undo_20 : decode cX10_undo 20 = .ok (.aload_n 0, 1) := by decide +kernel
theorem dX10_undo_21 : decode cX10_undo 21 = .ok (.getfield 29, 3) := by decide +kernel
theorem dX10_undo_24 : decode cX10_undo 24 = .ok (.aload_n 0, 1) := by decide +kernel
theorem dX10_undo_25 : decode cX10_undo 25 = .ok (.getfield 19, 3) := by decide +kernel
theorem dX10_undo_28 : decode cX10_undo 28 = .ok (.invokevirtual 254, 3) := by decide +kernel
theorem dX10_undo_31 : decode cX10_undo 31 = .ok (.ireturn, 1) := by decide +kernel
theorem dX10_recutFor_0 : decode cX10_recutFor 0 = .ok (.aload_n 0, 1) := by decide +kernel
theorem dX10_recutFor_1 : decode cX10_recutFor 1 = .ok (.iload_n 1, 1) := by decide +kernel
theorem dX10_recutFor_2 : decode cX10_recutFor 2 = .ok (.invokevirtual 164, 3) := by decide +kernel
theorem dX10_recutFor_5 : decode cX10_recutFor 5 = .ok (.aload_n 0, 1) := by decide +kernel
theorem dX10_recutFor_6 : decode cX10_recutFor 6 = .ok (.getfield 19, 3) := by decide +kernel
theorem dX10_recutFor_9 : decode cX10_recutFor 9 = .ok (.iload_n 1, 1) := by decide +kernel
theorem dX10_recutFor_10 : decode cX10_recutFor 10 = .ok (.invokevirtual 258, 3) := by decide +kernel
theorem dX10_recutFor_13 : decode cX10_recutFor 13 = .ok (.ireturn, 1) := by decide +kernel
theorem dX10_cheapest_0 : decode cX10_cheapest 0 = .ok (.aload_n 0, 1) := by decide +kernel
theorem dX10_cheapest_1 : decode cX10_cheapest 1 = .ok (.iload_n 1, 1) := by decide +kernel
theorem dX10_cheapest_2 : decode cX10_cheapest 2 = .ok (.invokevirtual 140, 3) := by decide +kernel
theorem dX10_cheapest_5 : decode cX10_cheapest 5 = .ok (.aload_n 0, 1) := by decide +kernel
theorem dX10_cheapest_6 : decode cX10_cheapest 6 = .ok (.getfield 19, 3) := by decide +kernel
theorem dX10_cheapest_9 : decode cX10_cheapest 9 = .ok (.iload_n 1, 1) := by decide +kernel
theorem dX10_cheapest_10 : decode cX10_cheapest 10 = .ok (.invokevirtual 261, 3) := by decide +kernel
theorem dX10_cheapest_13 : decode cX10_cheapest 13 = .ok (.ireturn, 1) := by decide +kernel
theorem dX10_costLeft_0 : decode cX10_costLeft 0 = .ok (.aload_n 0, 1) := by decide +kernel
theorem dX10_costLeft_1 : decode cX10_costLeft 1 = .ok (.getfield 19, 3) := by decide +kernel
theorem dX10_costLeft_4 : decode cX10_costLeft 4 = .ok (.invokevirtual 264, 3) := by decide +kernel
theorem dX10_costLeft_7 : decode cX10_costLeft 7 = .ok (.ireturn, 1) := by decide +kernel
theorem dX10_daysLeft_0 : decode cX10_daysLeft 0 = .ok (.aload_n 0, 1) := by decide +kernel
theorem dX10_daysLeft_1 : decode cX10_daysLeft 1 = .ok (.getfield 43, 3) := by decide +kernel
theorem dX10_daysLeft_4 : decode cX10_daysLeft 4 = .ok (.aload_n 0, 1) := by decide +kernel
theorem dX10_daysLeft_5 : decode cX10_daysLeft 5 = .ok (.getfield 19, 3) := by decide +kernel
theorem dX10_daysLeft_8 : decode cX10_daysLeft 8 = .ok (.invokevirtual 267, 3) := by decide +kernel
theorem dX10_daysLeft_11 : decode cX10_daysLeft 11 = .ok (.ireturn, 1) := by decide +kernel
theorem dX10_canSet_0 : decode cX10_canSet 0 = .ok (.aload_n 0, 1) := by decide +kernel
theorem dX10_canSet_1 : decode cX10_canSet 1 = .ok (.getfield 19, 3) := by decide +kernel
theorem dX10_canSet_4 : decode cX10_canSet 4 = .ok (.invokevirtual 270, 3) := by decide +kernel
theorem dX10_canSet_7 : decode cX10_canSet 7 = .ok (.ireturn, 1) := by decide +kernel
theorem dX10_wouldEarn_0 : decode cX10_wouldEarn 0 = .ok (.iload_n 1, 1) := by decide +kernel
theorem dX10_wouldEarn_1 : decode cX10_wouldEarn 1 = .ok (.invokestatic 198, 3) := by decide +kernel
theorem dX10_wouldEarn_4 : decode cX10_wouldEarn 4 = .ok (.aload_n 0, 1) := by decide +kernel
theorem dX10_wouldEarn_5 : decode cX10_wouldEarn 5 = .ok (.getfield 19, 3) := by decide +kernel
theorem dX10_wouldEarn_8 : decode cX10_wouldEarn 8 = .ok (.iload_n 1, 1) := by decide +kernel
theorem dX10_wouldEarn_9 : decode cX10_wouldEarn 9 = .ok (.invokevirtual 273, 3) := by decide +kernel
theorem dX10_wouldEarn_12 : decode cX10_wouldEarn 12 = .ok (.ireturn, 1) := by decide +kernel
theorem dX10_worstMark_0 : decode cX10_worstMark 0 = .ok (.aload_n 0, 1) := by decide +kernel
theorem dX10_worstMark_1 : decode cX10_worstMark 1 = .ok (.getfield 19, 3) := by decide +kernel
theorem dX10_worstMark_4 : decode cX10_worstMark 4 = .ok (.invokevirtual 276, 3) := by decide +kernel
theorem dX10_worstMark_7 : decode cX10_worstMark 7 = .ok (.ireturn, 1) := by decide +kernel
theorem dX10_runScript_0 : decode cX10_runScript 0 = .ok (.iload_n 1, 1) := by decide +kernel
theorem dX10_runScript_1 : decode cX10_runScript 1 = .ok (.iconst 1, 1) := by decide +kernel
theorem dX10_runScript_2 : decode cX10_runScript 2 = .ok (.iconst 3, 1) := by decide +kernel
theorem dX10_runScript_3 : decode cX10_runScript 3 = .ok (.invokestatic 47, 3) := by decide +kernel
theorem dX10_runScript_6 : decode cX10_runScript 6 = .ok (.ifCond .ne 14, 3) := by decide +kernel
theorem dX10_runScript_9 : decode cX10_runScript 9 = .ok (.new 51, 3) := by decide +kernel
theorem dX10_runScript_12 : decode cX10_runScript 12 = .ok (.dup, 1) := by decide +kernel
theorem dX10_runScript_13 : decode cX10_runScript 13 = .ok (.ldc_w 279, 3) := by decide +kernel
theorem dX10_runScript_16 : decode cX10_runScript 16 = .ok (.invokespecial 55, 3) := by decide +kernel
theorem dX10_runScript_19 : decode cX10_runScript 19 = .ok (.athrow, 1) := by decide +kernel
theorem dX10_runScript_20 : decode cX10_runScript 20 = .ok (.lload_n 2, 1) := by decide +kernel
theorem dX10_runScript_21 : decode cX10_runScript 21 = .ok (.lconst 0, 1) := by decide +kernel
theorem dX10_runScript_22 : decode cX10_runScript 22 = .ok (.lcmp, 1) := by decide +kernel
theorem dX10_runScript_23 : decode cX10_runScript 23 = .ok (.ifCond .lt 13, 3) := by decide +kernel
theorem dX10_runScript_26 : decode cX10_runScript 26 = .ok (.lload_n 2, 1) := by decide +kernel
theorem dX10_runScript_27 : decode cX10_runScript 27 = .ok (.iload_n 1, 1) := by decide +kernel
theorem dX10_runScript_28 : decode cX10_runScript 28 = .ok (.invokestatic 281, 3) := by decide +kernel
theorem dX10_runScript_31 : decode cX10_runScript 31 = .ok (.lconst 0, 1) := by decide +kernel
theorem dX10_runScript_32 : decode cX10_runScript 32 = .ok (.lcmp, 1) := by decide +kernel
theorem dX10_runScript_33 : decode cX10_runScript 33 = .ok (.ifCond .eq 14, 3) := by decide +kernel
theorem dX10_runScript_36 : decode cX10_runScript 36 = .ok (.new 51, 3) := by decide +kernel
theorem dX10_runScript_39 : decode cX10_runScript 39 = .ok (.dup, 1) := by decide +kernel
theorem dX10_runScript_40 : decode cX10_runScript 40 = .ok (.ldc_w 287, 3) := by decide +kernel
theorem dX10_runScript_43 : decode cX10_runScript 43 = .ok (.invokespecial 55, 3) := by decide +kernel
theorem dX10_runScript_46 : decode cX10_runScript 46 = .ok (.athrow, 1) := by decide +kernel
theorem dX10_runScript_47 : decode cX10_runScript 47 = .ok (.aload_n 0, 1) := by decide +kernel
theorem dX10_runScript_48 : decode cX10_runScript 48 = .ok (.getfield 19, 3) := by decide +kernel
theorem dX10_runScript_51 : decode cX10_runScript 51 = .ok (.aload_n 0, 1) := by decide +kernel
theorem dX10_runScript_52 : decode cX10_runScript 52 = .ok (.getfield 23, 3) := by decide +kernel
theorem dX10_runScript_55 : decode cX10_runScript 55 = .ok (.invokestatic 85, 3) := by decide +kernel
theorem dX10_runScript_58 : decode cX10_runScript 58 = .ok (.iconst 0, 1) := by decide +kernel
theorem dX10_runScript_59 : decode cX10_runScript 59 = .ok (.istore 4, 2) := by decide +kernel
theorem dX10_runScript_61 : decode cX10_runScript 61 = .ok (.iload 4, 2) := by decide +kernel
theorem dX10_runScript_63 : decode cX10_runScript 63 = .ok (.iload_n 1, 1) := by decide +kernel
theorem dX10_runScript_64 : decode cX10_runScript 64 = .ok (.if_icmp .ge 35, 3) := by decide +kernel
theorem dX10_runScript_67 : decode cX10_runScript 67 = .ok (.aload_n 0, 1) := by decide +kernel
theorem dX10_runScript_68 : decode cX10_runScript 68 = .ok (.getfield 23, 3) := by decide +kernel
theorem dX10_runScript_71 : decode cX10_runScript 71 = .ok (.lload_n 2, 1) := by decide +kernel
theorem dX10_runScript_72 : decode cX10_runScript 72 = .ok (.iload_n 1, 1) := by decide +kernel
theorem dX10_runScript_73 : decode cX10_runScript 73 = .ok (.iconst 1, 1) := by decide +kernel
theorem dX10_runScript_74 : decode cX10_runScript 74 = .ok (.isub, 1) := by decide +kernel
theorem dX10_runScript_75 : decode cX10_runScript 75 = .ok (.iload 4, 2) := by decide +kernel
theorem dX10_runScript_77 : decode cX10_runScript 77 = .ok (.isub, 1) := by decide +kernel
theorem dX10_runScript_78 : decode cX10_runScript 78 = .ok (.invokestatic 281, 3) := by decide +kernel
theorem dX10_runScript_81 : decode cX10_runScript 81 = .ok (.invokestatic 289, 3) := by decide +kernel
theorem dX10_runScript_84 : decode cX10_runScript 84 = .ok (.invokestatic 293, 3) := by decide +kernel
theorem dX10_runScript_87 : decode cX10_runScript 87 = .ok (.ifCond .ne 6, 3) := by decide +kernel
theorem dX10_runScript_90 : decode cX10_runScript 90 = .ok (.iload 4, 2) := by decide +kernel
theorem dX10_runScript_92 : decode cX10_runScript 92 = .ok (.ireturn, 1) := by decide +kernel
theorem dX10_runScript_93 : decode cX10_runScript 93 = .ok (.iinc 4 1, 3) := by decide +kernel
theorem dX10_runScript_96 : decode cX10_runScript 96 = .ok (.goto (-35), 3) := by decide +kernel
theorem dX10_runScript_99 : decode cX10_runScript 99 = .ok (.bipush (-9), 2) := by decide +kernel
theorem dX10_runScript_101 : decode cX10_runScript 101 = .ok (.ireturn, 1) := by decide +kernel
theorem dX10_simulate_0 : decode cX10_simulate 0 = .ok (.iload_n 3, 1) := by decide +kernel
theorem dX10_simulate_1 : decode cX10_simulate 1 = .ok (.iconst 1, 1) := by decide +kernel
theorem dX10_simulate_2 : decode cX10_simulate 2 = .ok (.bipush 99, 2) := by decide +kernel
theorem dX10_simulate_4 : decode cX10_simulate 4 = .ok (.invokestatic 47, 3) := by decide +kernel
theorem dX10_simulate_7 : decode cX10_simulate 7 = .ok (.ifCond .ne 14, 3) := by decide +kernel
theorem dX10_simulate_10 : decode cX10_simulate 10 = .ok (.new 51, 3) := by decide +kernel
theorem dX10_simulate_13 : decode cX10_simulate 13 = .ok (.dup, 1) := by decide +kernel
theorem dX10_simulate_14 : decode cX10_simulate 14 = .ok (.ldc_w 297, 3) := by decide +kernel
theorem dX10_simulate_17 : decode cX10_simulate 17 = .ok (.invokespecial 55, 3) := by decide +kernel
theorem dX10_simulate_20 : decode cX10_simulate 20 = .ok (.athrow, 1) := by decide +kernel
theorem dX10_simulate_21 : decode cX10_simulate 21 = .ok (.aload_n 0, 1) := by decide +kernel
theorem dX10_simulate_22 : decode cX10_simulate 22 = .ok (.getfield 19, 3) := by decide +kernel
theorem dX10_simulate_25 : decode cX10_simulate 25 = .ok (.aload_n 0, 1) := by decide +kernel
theorem dX10_simulate_26 : decode cX10_simulate 26 = .ok (.getfield 23, 3) := by decide +kernel
theorem dX10_simulate_29 : decode cX10_simulate 29 = .ok (.invokestatic 85, 3) := by decide +kernel
theorem dX10_simulate_32 : decode cX10_simulate 32 = .ok (.lload_n 1, 1) := by decide +kernel
theorem dX10_simulate_33 : decode cX10_simulate 33 = .ok (.lstore 4, 2) := by decide +kernel
theorem dX10_simulate_35 : decode cX10_simulate 35 = .ok (.iconst 0, 1) := by decide +kernel
theorem dX10_simulate_36 : decode cX10_simulate 36 = .ok (.istore 6, 2) := by decide +kernel
theorem dX10_simulate_38 : decode cX10_simulate 38 = .ok (.iload 6, 2) := by decide +kernel
theorem dX10_simulate_40 : decode cX10_simulate 40 = .ok (.iload_n 3, 1) := by decide +kernel
theorem dX10_simulate_41 : decode cX10_simulate 41 = .ok (.if_icmp .ge 34, 3) := by decide +kernel
theorem dX10_simulate_44 : decode cX10_simulate 44 = .ok (.lload 4, 2) := by decide +kernel
theorem dX10_simulate_46 : decode cX10_simulate 46 = .ok (.ldc2_w 299, 3) := by decide +kernel
theorem dX10_simulate_49 : decode cX10_simulate 49 = .ok (.lmul, 1) := by decide +kernel
theorem dX10_simulate_50 : decode cX10_simulate 50 = .ok (.ldc2_w 301, 3) := by decide +kernel
theorem dX10_simulate_53 : decode cX10_simulate 53 = .ok (.ladd, 1) := by decide +kernel
theorem dX10_simulate_54 : decode cX10_simulate 54 = .ok (.lstore 4, 2) := by decide +kernel
theorem dX10_simulate_56 : decode cX10_simulate 56 = .ok (.aload_n 0, 1) := by decide +kernel
theorem dX10_simulate_57 : decode cX10_simulate 57 = .ok (.getfield 23, 3) := by decide +kernel
theorem dX10_simulate_60 : decode cX10_simulate 60 = .ok (.lload 4, 2) := by decide +kernel
theorem dX10_simulate_62 : decode cX10_simulate 62 = .ok (.bipush 33, 2) := by decide +kernel
theorem dX10_simulate_64 : decode cX10_simulate 64 = .ok (.lushr, 1) := by decide +kernel
theorem dX10_simulate_65 : decode cX10_simulate 65 = .ok (.l2i, 1) := by decide +kernel
theorem dX10_simulate_66 : decode cX10_simulate 66 = .ok (.invokestatic 303, 3) := by decide +kernel
theorem dX10_simulate_69 : decode cX10_simulate 69 = .ok (.iinc 6 1, 3) := by decide +kernel
theorem dX10_simulate_72 : decode cX10_simulate 72 = .ok (.goto (-34), 3) := by decide +kernel
theorem dX10_simulate_75 : decode cX10_simulate 75 = .ok (.sipush 10000, 3) := by decide +kernel
theorem dX10_simulate_78 : decode cX10_simulate 78 = .ok (.aload_n 0, 1) := by decide +kernel
theorem dX10_simulate_79 : decode cX10_simulate 79 = .ok (.getfield 23, 3) := by decide +kernel
theorem dX10_simulate_82 : decode cX10_simulate 82 = .ok (.getfield 95, 3) := by decide +kernel
theorem dX10_simulate_85 : decode cX10_simulate 85 = .ok (.iconst 3, 1) := by decide +kernel
theorem dX10_simulate_86 : decode cX10_simulate 86 = .ok (.iconst 3, 1) := by decide +kernel
theorem dX10_simulate_87 : decode cX10_simulate 87 = .ok (.invokevirtual 124, 3) := by decide +kernel
theorem dX10_simulate_90 : decode cX10_simulate 90 = .ok (.imul, 1) := by decide +kernel
theorem dX10_simulate_91 : decode cX10_simulate 91 = .ok (.aload_n 0, 1) := by decide +kernel
theorem dX10_simulate_92 : decode cX10_simulate 92 = .ok (.getfield 23, 3) := by decide +kernel
theorem dX10_simulate_95 : decode cX10_simulate 95 = .ok (.getfield 107, 3) := by decide +kernel
theorem dX10_simulate_98 : decode cX10_simulate 98 = .ok (.iconst 3, 1) := by decide +kernel
theorem dX10_simulate_99 : decode cX10_simulate 99 = .ok (.invokevirtual 128, 3) := by decide +kernel
theorem dX10_simulate_102 : decode cX10_simulate 102 = .ok (.sipush 9999, 3) := by decide +kernel
theorem dX10_simulate_105 : decode cX10_simulate 105 = .ok (.invokestatic 309, 3) := by decide +kernel
theorem dX10_simulate_108 : decode cX10_simulate 108 = .ok (.iadd, 1) := by decide +kernel
theorem dX10_simulate_109 : decode cX10_simulate 109 = .ok (.ireturn, 1) := by decide +kernel
theorem dX10_save_0 : decode cX10_save 0 = .ok (.iload_n 1, 1) := by decide +kernel
theorem dX10_save_1 : decode cX10_save 1 = .ok (.invokestatic 314, 3) := by decide +kernel
theorem dX10_save_4 : decode cX10_save 4 = .ok (.aload_n 0, 1) := by decide +kernel
theorem dX10_save_5 : decode cX10_save 5 = .ok (.getfield 36, 3) := by decide +kernel
theorem dX10_save_8 : decode cX10_save 8 = .ok (.iload_n 1, 1) := by decide +kernel
theorem dX10_save_9 : decode cX10_save 9 = .ok (.aload_n 0, 1) := by decide +kernel
theorem dX10_save_10 : decode cX10_save 10 = .ok (.getfield 19, 3) := by decide +kernel
theorem dX10_save_13 : decode cX10_save 13 = .ok (.invokevirtual 317, 3) := by decide +kernel
theorem dX10_save_16 : decode cX10_save 16 = .ok (.aload_n 0, 1) := by decide +kernel
theorem dX10_save_17 : decode cX10_save 17 = .ok (.getfield 19, 3) := by decide +kernel
theorem dX10_save_20 : decode cX10_save 20 = .ok (.getfield 110, 3) := by decide +kernel
theorem dX10_save_23 : decode cX10_save 23 = .ok (.ireturn, 1) := by decide +kernel
theorem dX10_restore_0 : decode cX10_restore 0 = .ok (.iload_n 1, 1) := by decide +kernel
theorem dX10_restore_1 : decode cX10_restore 1 = .ok (.invokestatic 314, 3) := by decide +kernel
theorem dX10_restore_4 : decode cX10_restore 4 = .ok (.aload_n 0, 1) := by decide +kernel
theorem dX10_restore_5 : decode cX10_restore 5 = .ok (.getfield 36, 3) := by decide +kernel
theorem dX10_restore_8 : decode cX10_restore 8 = .ok (.iload_n 1, 1) := by decide +kernel
theorem dX10_restore_9 : decode cX10_restore 9 = .ok (.invokevirtual 321, 3) := by decide +kernel
theorem dX10_restore_12 : decode cX10_restore 12 = .ok (.ifCond .ne 14, 3) := by decide +kernel
theorem dX10_restore_15 : decode cX10_restore 15 = .ok (.new 62, 3) := by decide +kernel
theorem dX10_restore_18 : decode cX10_restore 18 = .ok (.dup, 1) := by decide +kernel
theorem dX10_restore_19 : decode cX10_restore 19 = .ok (.ldc_w 324, 3) := by decide +kernel
theorem dX10_restore_22 : decode cX10_restore 22 = .ok (.invokespecial 66, 3) := by decide +kernel
theorem dX10_restore_25 : decode cX10_restore 25 = .ok (.athrow, 1) := by decide +kernel
theorem dX10_restore_26 : decode cX10_restore 26 = .ok (.aload_n 0, 1) := by decide +kernel
theorem dX10_restore_27 : decode cX10_restore 27 = .ok (.getfield 36, 3) := by decide +kernel
theorem dX10_restore_30 : decode cX10_restore 30 = .ok (.iload_n 1, 1) := by decide +kernel
theorem dX10_restore_31 : decode cX10_restore 31 = .ok (.aload_n 0, 1) := by decide +kernel
theorem dX10_restore_32 : decode cX10_restore 32 = .ok (.getfield 19, 3) := by decide +kernel
theorem dX10_restore_35 : decode cX10_restore 35 = .ok (.invokevirtual 326, 3) := by decide +kernel
theorem dX10_restore_38 : decode cX10_restore 38 = .ok (.aload_n 0, 1) := by decide +kernel
theorem dX10_restore_39 : decode cX10_restore 39 = .ok (.getfield 29, 3) := by decide +kernel
theorem dX10_restore_42 : decode cX10_restore 42 = .ok (.invokevirtual 89, 3) := by decide +kernel
theorem dX10_restore_45 : decode cX10_restore 45 = .ok (.aload_n 0, 1) := by decide +kernel
theorem dX10_restore_46 : decode cX10_restore 46 = .ok (.getfield 19, 3) := by decide +kernel
theorem dX10_restore_49 : decode cX10_restore 49 = .ok (.getfield 110, 3) := by decide +kernel
theorem dX10_restore_52 : decode cX10_restore 52 = .ok (.ireturn, 1) := by decide +kernel
theorem dX10_requireCourse_0 : decode cX10_requireCourse 0 = .ok (.aload_n 0, 1) := by decide +kernel
theorem dX10_requireCourse_1 : decode cX10_requireCourse 1 = .ok (.getfield 19, 3) := by decide +kernel
theorem dX10_requireCourse_4 : decode cX10_requireCourse 4 = .ok (.getfield 104, 3) := by decide +kernel
theorem dX10_requireCourse_7 : decode cX10_requireCourse 7 = .ok (.iload_n 1, 1) := by decide +kernel
theorem dX10_requireCourse_8 : decode cX10_requireCourse 8 = .ok (.invokevirtual 329, 3) := by decide +kernel
theorem dX10_requireCourse_11 : decode cX10_requireCourse 11 = .ok (.ifCond .ne 14, 3) := by decide +kernel
theorem dX10_requireCourse_14 : decode cX10_requireCourse 14 = .ok (.new 332, 3) := by decide +kernel
theorem dX10_requireCourse_17 : decode cX10_requireCourse 17 = .ok (.dup, 1) := by decide +kernel
theorem dX10_requireCourse_18 : decode cX10_requireCourse 18 = .ok (.ldc_w 334, 3) := by decide +kernel
theorem dX10_requireCourse_21 : decode cX10_requireCourse 21 = .ok (.invokespecial 336, 3) := by decide +kernel
theorem dX10_requireCourse_24 : decode cX10_requireCourse 24 = .ok (.athrow, 1) := by decide +kernel
theorem dX10_requireCourse_25 : decode cX10_requireCourse 25 = .ok (.return_, 1) := by decide +kernel
theorem dX10_requireMason_0 : decode cX10_requireMason 0 = .ok (.aload_n 0, 1) := by decide +kernel
theorem dX10_requireMason_1 : decode cX10_requireMason 1 = .ok (.getfield 19, 3) := by decide +kernel
theorem dX10_requireMason_4 : decode cX10_requireMason 4 = .ok (.getfield 107, 3) := by decide +kernel
theorem dX10_requireMason_7 : decode cX10_requireMason 7 = .ok (.iload_n 1, 1) := by decide +kernel
theorem dX10_requireMason_8 : decode cX10_requireMason 8 = .ok (.invokevirtual 329, 3) := by decide +kernel
theorem dX10_requireMason_11 : decode cX10_requireMason 11 = .ok (.ifCond .ne 14, 3) := by decide +kernel
theorem dX10_requireMason_14 : decode cX10_requireMason 14 = .ok (.new 332, 3) := by decide +kernel
theorem dX10_requireMason_17 : decode cX10_requireMason 17 = .ok (.dup, 1) := by decide +kernel
theorem dX10_requireMason_18 : decode cX10_requireMason 18 = .ok (.ldc_w 337, 3) := by decide +kernel
theorem dX10_requireMason_21 : decode cX10_requireMason 21 = .ok (.invokespecial 336, 3) := by decide +kernel
theorem dX10_requireMason_24 : decode cX10_requireMason 24 = .ok (.athrow, 1) := by decide +kernel
theorem dX10_requireMason_25 : decode cX10_requireMason 25 = .ok (.return_, 1) := by decide +kernel
theorem dX10_requireStone_0 : decode cX10_requireStone 0 = .ok (.aload_n 0, 1) := by decide +kernel
theorem dX10_requireStone_1 : decode cX10_requireStone 1 = .ok (.getfield 19, 3) := by decide +kernel
theorem dX10_requireStone_4 : decode cX10_requireStone 4 = .ok (.getfield 95, 3) := by decide +kernel
theorem dX10_requireStone_7 : decode cX10_requireStone 7 = .ok (.iload_n 1, 1) := by decide +kernel
theorem dX10_requireStone_8 : decode cX10_requireStone 8 = .ok (.invokevirtual 329, 3) := by decide +kernel
theorem dX10_requireStone_11 : decode cX10_requireStone 11 = .ok (.ifCond .ne 14, 3) := by decide +kernel
theorem dX10_requireStone_14 : decode cX10_requireStone 14 = .ok (.new 332, 3) := by decide +kernel
theorem dX10_requireStone_17 : decode cX10_requireStone 17 = .ok (.dup, 1) := by decide +kernel
theorem dX10_requireStone_18 : decode cX10_requireStone 18 = .ok (.ldc_w 339, 3) := by decide +kernel
theorem dX10_requireStone_21 : decode cX10_requireStone 21 = .ok (.invokespecial 336, 3) := by decide +kernel
theorem dX10_requireStone_24 : decode cX10_requireStone 24 = .ok (.athrow, 1) := by decide +kernel
theorem dX10_requireStone_25 : decode cX10_requireStone 25 = .ok (.return_, 1) := by decide +kernel
theorem dX10_requireBound_0 : decode cX10_requireBound 0 = .ok (.iload_n 0, 1) := by decide +kernel
theorem dX10_requireBound_1 : decode cX10_requireBound 1 = .ok (.iconst 0, 1) := by decide +kernel
theorem dX10_requireBound_2 : decode cX10_requireBound 2 = .ok (.bipush 9, 2) := by decide +kernel
theorem dX10_requireBound_4 : decode cX10_requireBound 4 = .ok (.invokestatic 47, 3) := by decide +kernel
theorem dX10_requireBound_7 : decode cX10_requireBound 7 = .ok (.ifCond .ne 14, 3) := by decide +kernel
theorem dX10_requireBound_10 : decode cX10_requireBound 10 = .ok (.new 51, 3) := by decide +kernel
theorem dX10_requireBound_13 : decode cX10_requireBound 13 = .ok (.dup, 1) := by decide +kernel
theorem dX10_requireBound_14 : decode cX10_requireBound 14 = .ok (.ldc_w 341, 3) := by decide +kernel
theorem dX10_requireBound_17 : decode cX10_requireBound 17 = .ok (.invokespecial 55, 3) := by decide +kernel
theorem dX10_requireBound_20 : decode cX10_requireBound 20 = .ok (.athrow, 1) := by decide +kernel
theorem dX10_requireBound_21 : decode cX10_requireBound 21 = .ok (.return_, 1) := by decide +kernel
theorem dX10_requireSlot_0 : decode cX10_requireSlot 0 = .ok (.iload_n 0, 1) := by decide +kernel
theorem dX10_requireSlot_1 : decode cX10_requireSlot 1 = .ok (.iconst 0, 1) := by decide +kernel
theorem dX10_requireSlot_2 : decode cX10_requireSlot 2 = .ok (.iconst 1, 1) := by decide +kernel
theorem dX10_requireSlot_3 : decode cX10_requireSlot 3 = .ok (.invokestatic 47, 3) := by decide +kernel
theorem dX10_requireSlot_6 : decode cX10_requireSlot 6 = .ok (.ifCond .ne 14, 3) := by decide +kernel
theorem dX10_requireSlot_9 : decode cX10_requireSlot 9 = .ok (.new 332, 3) := by decide +kernel
theorem dX10_requireSlot_12 : decode cX10_requireSlot 12 = .ok (.dup, 1) := by decide +kernel
theorem dX10_requireSlot_13 : decode cX10_requireSlot 13 = .ok (.ldc_w 343, 3) := by decide +kernel
theorem dX10_requireSlot_16 : decode cX10_requireSlot 16 = .ok (.invokespecial 336, 3) := by decide +kernel
theorem dX10_requireSlot_19 : decode cX10_requireSlot 19 = .ok (.athrow, 1) := by decide +kernel
theorem dX10_requireSlot_20 : decode cX10_requireSlot 20 = .ok (.return_, 1) := by decide +kernel
theorem dX10_isWithin_0 : decode cX10_isWithin 0 = .ok (.iload_n 0, 1) := by decide +kernel
theorem dX10_isWithin_1 : decode cX10_isWithin 1 = .ok (.iload_n 1, 1) := by decide +kernel
theorem dX10_isWithin_2 : decode cX10_isWithin 2 = .ok (.if_icmp .lt 12, 3) := by decide +kernel
theorem dX10_isWithin_5 : decode cX10_isWithin 5 = .ok (.iload_n 0, 1) := by decide +kernel
theorem dX10_isWithin_6 : decode cX10_isWithin 6 = .ok (.iload_n 2, 1) := by decide +kernel
theorem dX10_isWithin_7 : decode cX10_isWithin 7 = .ok (.if_icmp .gt 7, 3) := by decide +kernel
theorem dX10_isWithin_10 : decode cX10_isWithin 10 = .ok (.iconst 1, 1) := by decide +kernel
theorem dX10_isWithin_11 : decode cX10_isWithin 11 = .ok (.goto 4, 3) := by decide +kernel
theorem dX10_isWithin_14 : decode cX10_isWithin 14 = .ok (.iconst 0, 1) := by decide +kernel
theorem dX10_isWithin_15 : decode cX10_isWithin 15 = .ok (.ireturn, 1) := by decide +kernel
theorem dX10_copyLodge_0 : decode cX10_copyLodge 0 = .ok (.aload_n 0, 1) := by decide +kernel
theorem dX10_copyLodge_1 : decode cX10_copyLodge 1 = .ok (.ifnull 12, 3) := by decide +kernel
theorem dX10_copyLodge_4 : decode cX10_copyLodge 4 = .ok (.aload_n 1, 1) := by decide +kernel
theorem dX10_copyLodge_5 : decode cX10_copyLodge 5 = .ok (.ifnull 8, 3) := by decide +kernel
theorem dX10_copyLodge_8 : decode cX10_copyLodge 8 = .ok (.aload_n 1, 1) := by decide +kernel
theorem dX10_copyLodge_9 : decode cX10_copyLodge 9 = .ok (.aload_n 0, 1) := by decide +kernel
theorem dX10_copyLodge_10 : decode cX10_copyLodge 10 = .ok (.invokevirtual 345, 3) := by decide +kernel
theorem dX10_copyLodge_13 : decode cX10_copyLodge 13 = .ok (.return_, 1) := by decide +kernel
end
section
theorem dX11_init_0 : decode cX11_init 0 = .ok (.aload_n 0, 1) := by decide +kernel
theorem dX11_init_1 : decode cX11_init 1 = .ok (.invokespecial 1, 3) := by decide +kernel
theorem dX11_init_4 : decode cX11_init 4 = .ok (.aload_n 0, 1) := by decide +kernel
theorem dX11_init_5 : decode cX11_init 5 = .ok (.bipush 80, 2) := by decide +kernel
theorem dX11_init_7 : decode cX11_init 7 = .ok (.newarray .int, 2) := by decide +kernel
theorem dX11_init_9 : decode cX11_init 9 = .ok (.putfield 7, 3) := by decide +kernel
theorem dX11_init_12 : decode cX11_init 12 = .ok (.aload_n 0, 1) := by decide +kernel
theorem dX11_init_13 : decode cX11_init 13 = .ok (.sipush 194, 3) := by decide +kernel
theorem dX11_init_16 : decode cX11_init 16 = .ok (.newarray .int, 2) := by decide +kernel
theorem dX11_init_18 : decode cX11_init 18 = .ok (.putfield 13, 3) := by decide +kernel
theorem dX11_init_21 : decode cX11_init 21 = .ok (.aload_n 0, 1) := by decide +kernel
theorem dX11_init_22 : decode cX11_init 22 = .ok (.sipush 194, 3) := by decide +kernel
theorem dX11_init_25 : decode cX11_init 25 = .ok (.newarray .int, 2) := by decide +kernel
theorem dX11_init_27 : decode cX11_init 27 = .ok (.putfield 16, 3) := by decide +kernel
theorem dX11_init_30 : decode cX11_init 30 = .ok (.aload_n 0, 1) := by decide +kernel
theorem dX11_init_31 : decode cX11_init 31 = .ok (.sipush 194, 3) := by decide +kernel
theorem dX11_init_34 : decode cX11_init 34 = .ok (.newarray .int, 2) := by decide +kernel
theorem dX11_init_36 : decode cX11_init 36 = .ok (.putfield 19, 3) := by decide +kernel
theorem dX11_init_39 : decode cX11_init 39 = .ok (.aload_n 0, 1) := by decide +kernel
theorem dX11_init_40 : decode cX11_init 40 = .ok (.sipush 2716, 3) := by decide +kernel
theorem dX11_init_43 : decode cX11_init 43 = .ok (.newarray .int, 2) := by decide +kernel
theorem dX11_init_45 : decode cX11_init 45 = .ok (.putfield 22, 3) := by decide +kernel
theorem dX11_init_48 : decode cX11_init 48 = .ok (.aload_n 0, 1) := by decide +kernel
theorem dX11_init_49 : decode cX11_init 49 = .ok (.sipush 388, 3) := by decide +kernel
theorem dX11_init_52 : decode cX11_init 52 = .ok (.newarray .int, 2) := by decide +kernel
theorem dX11_init_54 : decode cX11_init 54 = .ok (.putfield 25, 3) := by decide +kernel
theorem dX11_init_57 : decode cX11_init 57 = .ok (.aload_n 0, 1) := by decide +kernel
theorem dX11_init_58 : decode cX11_init 58 = .ok (.iconst 2, 1) := by decide +kernel
theorem dX11_init_59 : decode cX11_init 59 = .ok (.newarray .boolean, 2) := by decide +kernel
theorem dX11_init_61 : decode cX11_init 61 = .ok (.putfield 28, 3) := by decide +kernel
theorem dX11_init_64 : decode cX11_init 64 = .ok (.aload_n 0, 1) := by decide +kernel
theorem dX11_init_65 : decode cX11_init 65 = .ok (.bipush 6, 2) := by decide +kernel
theorem dX11_init_67 : decode cX11_init 67 = .ok (.newarray .int, 2) := by decide +kernel
theorem dX11_init_69 : decode cX11_init 69 = .ok (.putfield 32, 3) := by decide +kernel
theorem dX11_init_72 : decode cX11_init 72 = .ok (.aload_n 0, 1) := by decide +kernel
theorem dX11_init_73 : decode cX11_init 73 = .ok (.getfield 16, 3) := by decide +kernel
theorem dX11_init_76 : decode cX11_init 76 = .ok (.iconst 0, 1) := by decide +kernel
theorem dX11_init_77 : decode cX11_init 77 = .ok (.iconst 3, 1) := by decide +kernel
theorem dX11_init_78 : decode cX11_init 78 = .ok (.iastore, 1) := by decide +kernel
theorem dX11_init_79 : decode cX11_init 79 = .ok (.return_, 1) := by decide +kernel
theorem dX11_thrown_0 : decode cX11_thrown 0 = .ok (.aload_n 0, 1) := by decide +kernel
theorem dX11_thrown_1 : decode cX11_thrown 1 = .ok (.getfield 35, 3) := by decide +kernel
theorem dX11_thrown_4 : decode cX11_thrown 4 = .ok (.ireturn, 1) := by decide +kernel
theorem dX11_refused_0 : decode cX11_refused 0 = .ok (.aload_n 0, 1) := by decide +kernel
theorem dX11_refused_1 : decode cX11_refused 1 = .ok (.iload_n 1, 1) := by decide +kernel
theorem dX11_refused_2 : decode cX11_refused 2 = .ok (.putfield 35, 3) := by decide +kernel
theorem dX11_refused_5 : decode cX11_refused 5 = .ok (.iload_n 1, 1) := by decide +kernel
theorem dX11_refused_6 : decode cX11_refused 6 = .ok (.ifCond .le 7, 3) := by decide +kernel
theorem dX11_refused_9 : decode cX11_refused 9 = .ok (.iconst 1, 1) := by decide +kernel
theorem dX11_refused_10 : decode cX11_refused 10 = .ok (.goto 4, 3) := by decide +kernel
theorem dX11_refused_13 : decode cX11_refused 13 = .ok (.iconst 0, 1) := by decide +kernel
theorem dX11_refused_14 : decode cX11_refused 14 = .ok (.ireturn, 1) := by decide +kernel
theorem dX11_in_0 : decode cX11_in 0 = .ok (.lload_n 0, 1) := by decide +kernel
theorem dX11_in_1 : decode cX11_in 1 = .ok (.lload_n 2, 1) := by decide +kernel
theorem dX11_in_2 : decode cX11_in 2 = .ok (.lcmp, 1) := by decide +kernel
theorem dX11_in_3 : decode cX11_in 3 = .ok (.ifCond .lt 14, 3) := by decide +kernel
theorem dX11_in_6 : decode cX11_in 6 = .ok (.lload_n 0, 1) := by decide +kernel
theorem dX11_in_7 : decode cX11_in 7 = .ok (.lload 4, 2) := by decide +kernel
theorem dX11_in_9 : decode cX11_in 9 = .ok (.lcmp, 1) := by decide +kernel
theorem dX11_in_10 : decode cX11_in 10 = .ok (.ifCond .gt 7, 3) := by decide +kernel
theorem dX11_in_13 : decode cX11_in 13 = .ok (.iconst 1, 1) := by decide +kernel
theorem dX11_in_14 : decode cX11_in 14 = .ok (.goto 4, 3) := by decide +kernel
theorem dX11_in_17 : decode cX11_in 17 = .ok (.iconst 0, 1) := by decide +kernel
theorem dX11_in_18 : decode cX11_in 18 = .ok (.ireturn, 1) := by decide +kernel
theorem dX11_copyPage_0 : decode cX11_copyPage 0 = .ok (.iconst 0, 1) := by decide +kernel
theorem dX11_copyPage_1 : decode cX11_copyPage 1 = .ok (.istore 4, 2) := by decide +kernel
theorem dX11_copyPage_3 : decode cX11_copyPage 3 = .ok (.iload 4, 2) := by decide +kernel
theorem dX11_copyPage_5 : decode cX11_copyPage 5 = .ok (.sipush 194, 3) := by decide +kernel
theorem dX11_copyPage_8 : decode cX11_copyPage 8 = .ok (.if_icmp .ge 21, 3) := by decide +kernel
theorem dX11_copyPage_11 : decode cX11_copyPage 11 = .ok (.aload_n 2, 1) := by decide +kernel
theorem dX11_copyPage_12 : decode cX11_copyPage 12 = .ok (.iload_n 3, 1) := by decide +kernel
theorem dX11_copyPage_13 : decode cX11_copyPage 13 = .ok (.iload 4, 2) := by decide +kernel
theorem dX11_copyPage_15 : decode cX11_copyPage 15 = .ok (.iadd, 1) := by decide +kernel
theorem dX11_copyPage_16 : decode cX11_copyPage 16 = .ok (.aload_n 0, 1) := by decide +kernel
theorem dX11_copyPage_17 : decode cX11_copyPage 17 = .ok (.iload_n 1, 1) := by decide +kernel
theorem dX11_copyPage_18 : decode cX11_copyPage 18 = .ok (.iload 4, 2) := by decide +kernel
theorem dX11_copyPage_20 : decode cX11_copyPage 20 = .ok (.iadd, 1) := by decide +kernel
theorem dX11_copyPage_21 : decode cX11_copyPage 21 = .ok (.iaload, 1) := by decide +kernel
theorem dX11_copyPage_22 : decode cX11_copyPage 22 = .ok (.iastore, 1) := by decide +kernel
theorem dX11_copyPage_23 : decode cX11_copyPage 23 = .ok (.iinc 4 1, 3) := by decide +kernel
theorem dX11_copyPage_26 : decode cX11_copyPage 26 = .ok (.goto (-23), 3) := by decide +kernel
theorem dX11_copyPage_29 : decode cX11_copyPage 29 = .ok (.return_, 1) := by decide +kernel
theorem dX11_isCourse_0 : decode cX11_isCourse 0 = .ok (.iload_n 1, 1) := by decide +kernel
theorem dX11_isCourse_1 : decode cX11_isCourse 1 = .ok (.i2l, 1) := by decide +kernel
theorem dX11_isCourse_2 : decode cX11_isCourse 2 = .ok (.lconst 0, 1) := by decide +kernel
theorem dX11_isCourse_3 : decode cX11_isCourse 3 = .ok (.aload_n 0, 1) := by decide +kernel
theorem dX11_isCourse_4 : decode cX11_isCourse 4 = .ok (.iconst 5, 1) := by decide +kernel
theorem dX11_isCourse_5 : decode cX11_isCourse 5 = .ok (.iaload, 1) := by decide +kernel
theorem dX11_isCourse_6 : decode cX11_isCourse 6 = .ok (.iconst 1, 1) := by decide +kernel
theorem dX11_isCourse_7 : decode cX11_isCourse 7 = .ok (.isub, 1) := by decide +kernel
theorem dX11_isCourse_8 : decode cX11_isCourse 8 = .ok (.i2l, 1) := by decide +kernel
theorem dX11_isCourse_9 : decode cX11_isCourse 9 = .ok (.invokestatic 39, 3) := by decide +kernel
theorem dX11_isCourse_12 : decode cX11_isCourse 12 = .ok (.ireturn, 1) := by decide +kernel
theorem dX11_isMason_0 : decode cX11_isMason 0 = .ok (.iload_n 1, 1) := by decide +kernel
theorem dX11_isMason_1 : decode cX11_isMason 1 = .ok (.i2l, 1) := by decide +kernel
theorem dX11_isMason_2 : decode cX11_isMason 2 = .ok (.lconst 0, 1) := by decide +kernel
theorem dX11_isMason_3 : decode cX11_isMason 3 = .ok (.aload_n 0, 1) := by decide +kernel
theorem dX11_isMason_4 : decode cX11_isMason 4 = .ok (.bipush 6, 2) := by decide +kernel
theorem dX11_isMason_6 : decode cX11_isMason 6 = .ok (.iaload, 1) := by decide +kernel
theorem dX11_isMason_7 : decode cX11_isMason 7 = .ok (.iconst 1, 1) := by decide +kernel
theorem dX11_isMason_8 : decode cX11_isMason 8 = .ok (.isub, 1) := by decide +kernel
theorem dX11_isMason_9 : decode cX11_isMason 9 = .ok (.i2l, 1) := by decide +kernel
theorem dX11_isMason_10 : decode cX11_isMason 10 = .ok (.invokestatic 39, 3) := by decide +kernel
theorem dX11_isMason_13 : decode cX11_isMason 13 = .ok (.ireturn, 1) := by decide +kernel
theorem dX11_isStone_0 : decode cX11_isStone 0 = .ok (.iload_n 1, 1) := by decide +kernel
theorem dX11_isStone_1 : decode cX11_isStone 1 = .ok (.i2l, 1) := by decide +kernel
theorem dX11_isStone_2 : decode cX11_isStone 2 = .ok (.lconst 0, 1) := by decide +kernel
theorem dX11_isStone_3 : decode cX11_isStone 3 = .ok (.aload_n 0, 1) := by decide +kernel
theorem dX11_isStone_4 : decode cX11_isStone 4 = .ok (.bipush 7, 2) := by decide +kernel
theorem dX11_isStone_6 : decode cX11_isStone 6 = .ok (.iaload, 1) := by decide +kernel
theorem dX11_isStone_7 : decode cX11_isStone 7 = .ok (.iconst 1, 1) := by decide +kernel
theorem dX11_isStone_8 : decode cX11_isStone 8 = .ok (.isub, 1) := by decide +kernel
theorem dX11_isStone_9 : decode cX11_isStone 9 = .ok (.i2l, 1) := by decide +kernel
theorem dX11_isStone_10 : decode cX11_isStone 10 = .ok (.invokestatic 39, 3) := by decide +kernel
theorem dX11_isStone_13 : decode cX11_isStone 13 = .ok (.ireturn, 1) := by decide +kernel
theorem dX11_sizeOf_0 : decode cX11_sizeOf 0 = .ok (.aload_n 0, 1) := by decide +kernel
theorem dX11_sizeOf_1 : decode cX11_sizeOf 1 = .ok (.bipush 8, 2) := by decide +kernel
theorem dX11_sizeOf_3 : decode cX11_sizeOf 3 = .ok (.iconst 3, 1) := by decide +kernel
theorem dX11_sizeOf_4 : decode cX11_sizeOf 4 = .ok (.iload_n 1, 1) := by decide +kernel
theorem dX11_sizeOf_5 : decode cX11_sizeOf 5 = .ok (.imul, 1) := by decide +kernel
theorem dX11_sizeOf_6 : decode cX11_sizeOf 6 = .ok (.iadd, 1) := by decide +kernel
theorem dX11_sizeOf_7 : decode cX11_sizeOf 7 = .ok (.iaload, 1) := by decide +kernel
theorem dX11_sizeOf_8 : decode cX11_sizeOf 8 = .ok (.ireturn, 1) := by decide +kernel
theorem dX11_facesOf_0 : decode cX11_facesOf 0 = .ok (.aload_n 0, 1) := by decide +kernel
theorem dX11_facesOf_1 : decode cX11_facesOf 1 = .ok (.bipush 8, 2) := by decide +kernel
theorem dX11_facesOf_3 : decode cX11_facesOf 3 = .ok (.iconst 3, 1) := by decide +kernel
theorem dX11_facesOf_4 : decode cX11_facesOf 4 = .ok (.iload_n 1, 1) := by decide +kernel
theorem dX11_facesOf_5 : decode cX11_facesOf 5 = .ok (.imul, 1) := by decide +kernel
theorem dX11_facesOf_6 : decode cX11_facesOf 6 = .ok (.iadd, 1) := by decide +kernel
theorem dX11_facesOf_7 : decode cX11_facesOf 7 = .ok (.iconst 1, 1) := by decide +kernel
theorem dX11_facesOf_8 : decode cX11_facesOf 8 = .ok (.iadd, 1) := by decide +kernel
theorem dX11_facesOf_9 : decode cX11_facesOf 9 = .ok (.iaload, 1) := by decide +kernel
theorem dX11_facesOf_10 : decode cX11_facesOf 10 = .ok (.ireturn, 1) := by decide +kernel
theorem dX11_neededOf_0 : decode cX11_neededOf 0 = .ok (.aload_n 0, 1) := by decide +kernel
theorem dX11_neededOf_1 : decode cX11_neededOf 1 = .ok (.bipush 8, 2) := by decide +kernel
theorem dX11_neededOf_3 : decode cX11_neededOf 3 = .ok (.iconst 3, 1) := by decide +kernel
theorem dX11_neededOf_4 : decode cX11_neededOf 4 = .ok (.iload_n 1, 1) := by decide +kernel
theorem dX11_neededOf_5 : decode cX11_neededOf 5 = .ok (.imul, 1) := by decide +kernel
theorem dX11_neededOf_6 : decode cX11_neededOf 6 = .ok (.iadd, 1) := by decide +kernel
theorem dX11_neededOf_7 : decode cX11_neededOf 7 = .ok (.iconst 2, 1) := by decide +kernel
theorem dX11_neededOf_8 : decode cX11_neededOf 8 = .ok (.iadd, 1) := by decide +kernel
theorem dX11_neededOf_9 : decode cX11_neededOf 9 = .ok (.iaload, 1) := by decide +kernel
theorem dX11_neededOf_10 : decode cX11_neededOf 10 = .ok (.ireturn, 1) := by decide +kernel
theorem dX11_stonesOf_0 : decode cX11_stonesOf 0 = .ok (.iconst 0, 1) := by decide +kernel
theorem dX11_stonesOf_1 : decode cX11_stonesOf 1 = .ok (.istore_n 3, 1) := by decide +kernel
theorem dX11_stonesOf_2 : decode cX11_stonesOf 2 = .ok (.iconst 0, 1) := by decide +kernel
theorem dX11_stonesOf_3 : decode cX11_stonesOf 3 = .ok (.istore 4, 2) := by decide +kernel
theorem dX11_stonesOf_5 : decode cX11_stonesOf 5 = .ok (.iload 4, 2) := by decide +kernel
theorem dX11_stonesOf_7 : decode cX11_stonesOf 7 = .ok (.aload_n 0, 1) := by decide +kernel
theorem dX11_stonesOf_8 : decode cX11_stonesOf 8 = .ok (.bipush 7, 2) := by decide +kernel
theorem dX11_stonesOf_10 : decode cX11_stonesOf 10 = .ok (.iaload, 1) := by decide +kernel
theorem dX11_stonesOf_11 : decode cX11_stonesOf 11 = .ok (.if_icmp .ge 47, 3) := by decide +kernel
theorem dX11_stonesOf_14 : decode cX11_stonesOf 14 = .ok (.iload_n 3, 1) := by decide +kernel
theorem dX11_stonesOf_15 : decode cX11_stonesOf 15 = .ok (.aload_n 0, 1) := by decide +kernel
theorem dX11_stonesOf_16 : decode cX11_stonesOf 16 = .ok (.bipush 50, 2) := by decide +kernel
theorem dX11_stonesOf_18 : decode cX11_stonesOf 18 = .ok (.bipush 6, 2) := by decide +kernel
theorem dX11_stonesOf_20 : decode cX11_stonesOf 20 = .ok (.iload 4, 2) := by decide +kernel
theorem dX11_stonesOf_22 : decode cX11_stonesOf 22 = .ok (.imul, 1) := by decide +kernel
theorem dX11_stonesOf_23 : decode cX11_stonesOf 23 = .ok (.iadd, 1) := by decide +kernel
theorem dX11_stonesOf_24 : decode cX11_stonesOf 24 = .ok (.iaload, 1) := by decide +kernel
theorem dX11_stonesOf_25 : decode cX11_stonesOf 25 = .ok (.iload_n 1, 1) := by decide +kernel
theorem dX11_stonesOf_26 : decode cX11_stonesOf 26 = .ok (.if_icmp .ne 23, 3) := by decide +kernel
theorem dX11_stonesOf_29 : decode cX11_stonesOf 29 = .ok (.aload_n 0, 1) := by decide +kernel
theorem dX11_stonesOf_30 : decode cX11_stonesOf 30 = .ok (.bipush 50, 2) := by decide +kernel
theorem dX11_stonesOf_32 : decode cX11_stonesOf 32 = .ok (.bipush 6, 2) := by decide +kernel
theorem dX11_stonesOf_34 : decode cX11_stonesOf 34 = .ok (.iload 4, 2) := by decide +kernel
theorem dX11_stonesOf_36 : decode cX11_stonesOf 36 = .ok (.imul, 1) := by decide +kernel
theorem dX11_stonesOf_37 : decode cX11_stonesOf 37 = .ok (.iadd, 1) := by decide +kernel
theorem dX11_stonesOf_38 : decode cX11_stonesOf 38 = .ok (.iconst 3, 1) := by decide +kernel
theorem dX11_stonesOf_39 : decode cX11_stonesOf 39 = .ok (.iadd, 1) := by decide +kernel
theorem dX11_stonesOf_40 : decode cX11_stonesOf 40 = .ok (.iaload, 1) := by decide +kernel
theorem dX11_stonesOf_41 : decode cX11_stonesOf 41 = .ok (.iload_n 2, 1) := by decide +kernel
theorem dX11_stonesOf_42 : decode cX11_stonesOf 42 = .ok (.if_icmp .ne 7, 3) := by decide +kernel
theorem dX11_stonesOf_45 : decode cX11_stonesOf 45 = .ok (.iconst 1, 1) := by decide +kernel
theorem dX11_stonesOf_46 : decode cX11_stonesOf 46 = .ok (.goto 4, 3) := by decide +kernel
theorem dX11_stonesOf_49 : decode cX11_stonesOf 49 = .ok (.iconst 0, 1) := by decide +kernel
theorem dX11_stonesOf_50 : decode cX11_stonesOf 50 = .ok (.iadd, 1) := by decide +kernel
theorem dX11_stonesOf_51 : decode cX11_stonesOf 51 = .ok (.istore_n 3, 1) := by decide +kernel
theorem dX11_stonesOf_52 : decode cX11_stonesOf 52 = .ok (.iinc 4 1, 3) := by decide +kernel
theorem dX11_stonesOf_55 : decode cX11_stonesOf 55 = .ok (.goto (-50), 3) := by decide +kernel
theorem dX11_stonesOf_58 : decode cX11_stonesOf 58 = .ok (.iload_n 3, 1) := by decide +kernel
theorem dX11_stonesOf_59 : decode cX11_stonesOf 59 = .ok (.ireturn, 1) := by decide +kernel
theorem dX11_stonesWith_0 : decode cX11_stonesWith 0 = .ok (.iconst 0, 1) := by decide +kernel
theorem dX11_stonesWith_1 : decode cX11_stonesWith 1 = .ok (.istore_n 2, 1) := by decide +kernel
theorem dX11_stonesWith_2 : decode cX11_stonesWith 2 = .ok (.iconst 0, 1) := by decide +kernel
theorem dX11_stonesWith_3 : decode cX11_stonesWith 3 = .ok (.istore_n 3, 1) := by decide +kernel
theorem dX11_stonesWith_4 : decode cX11_stonesWith 4 = .ok (.iload_n 3, 1) := by decide +kernel
theorem dX11_stonesWith_5 : decode cX11_stonesWith 5 = .ok (.aload_n 0, 1) := by decide +kernel
theorem dX11_stonesWith_6 : decode cX11_stonesWith 6 = .ok (.bipush 7, 2) := by decide +kernel
theorem dX11_stonesWith_8 : decode cX11_stonesWith 8 = .ok (.iaload, 1) := by decide +kernel
theorem dX11_stonesWith_9 : decode cX11_stonesWith 9 = .ok (.if_icmp .ge 32, 3) := by decide +kernel
theorem dX11_stonesWith_12 : decode cX11_stonesWith 12 = .ok (.iload_n 2, 1) := by decide +kernel
theorem dX11_stonesWith_13 : decode cX11_stonesWith 13 = .ok (.aload_n 0, 1) := by decide +kernel
theorem dX11_stonesWith_14 : decode cX11_stonesWith 14 = .ok (.bipush 50, 2) := by decide +kernel
theorem dX11_stonesWith_16 : decode cX11_stonesWith 16 = .ok (.bipush 6, 2) := by decide +kernel
theorem dX11_stonesWith_18 : decode cX11_stonesWith 18 = .ok (.iload_n 3, 1) := by decide +kernel
theorem dX11_stonesWith_19 : decode cX11_stonesWith 19 = .ok (.imul, 1) := by decide +kernel
theorem dX11_stonesWith_20 : decode cX11_stonesWith 20 = .ok (.iadd, 1) := by decide +kernel
theorem dX11_stonesWith_21 : decode cX11_stonesWith 21 = .ok (.iconst 3, 1) := by decide +kernel
theorem dX11_stonesWith_22 : decode cX11_stonesWith 22 = .ok (.iadd, 1) := by decide +kernel
theorem dX11_stonesWith_23 : decode cX11_stonesWith 23 = .ok (.iaload, 1) := by decide +kernel
theorem dX11_stonesWith_24 : decode cX11_stonesWith 24 = .ok (.iload_n 1, 1) := by decide +kernel
theorem dX11_stonesWith_25 : decode cX11_stonesWith 25 = .ok (.if_icmp .ne 7, 3) := by decide +kernel
theorem dX11_stonesWith_28 : decode cX11_stonesWith 28 = .ok (.iconst 1, 1) := by decide +kernel
theorem dX11_stonesWith_29 : decode cX11_stonesWith 29 = .ok (.goto 4, 3) := by decide +kernel
theorem dX11_stonesWith_32 : decode cX11_stonesWith 32 = .ok (.iconst 0, 1) := by decide +kernel
theorem dX11_stonesWith_33 : decode cX11_stonesWith 33 = .ok (.iadd, 1) := by decide +kernel
theorem dX11_stonesWith_34 : decode cX11_stonesWith 34 = .ok (.istore_n 2, 1) := by decide +kernel
theorem dX11_stonesWith_35 : decode cX11_stonesWith 35 = .ok (.iinc 3 1, 3) := by decide +kernel
theorem dX11_stonesWith_38 : decode cX11_stonesWith 38 = .ok (.goto (-34), 3) := by decide +kernel
theorem dX11_stonesWith_41 : decode cX11_stonesWith 41 = .ok (.iload_n 2, 1) := by decide +kernel
theorem dX11_stonesWith_42 : decode cX11_stonesWith 42 = .ok (.ireturn, 1) := by decide +kernel
theorem dX11_markedBy_0 : decode cX11_markedBy 0 = .ok (.iconst 0, 1) := by decide +kernel
theorem dX11_markedBy_1 : decode cX11_markedBy 1 = .ok (.istore_n 3, 1) := by decide +kernel
theorem dX11_markedBy_2 : decode cX11_markedBy 2 = .ok (.iconst 0, 1) := by decide +kernel
theorem dX11_markedBy_3 : decode cX11_markedBy 3 = .ok (.istore 4, 2) := by decide +kernel
theorem dX11_markedBy_5 : decode cX11_markedBy 5 = .ok (.iload 4, 2) := by decide +kernel
theorem dX11_markedBy_7 : decode cX11_markedBy 7 = .ok (.aload_n 0, 1) := by decide +kernel
theorem dX11_markedBy_8 : decode cX11_markedBy 8 = .ok (.bipush 7, 2) := by decide +kernel
theorem dX11_markedBy_10 : decode cX11_markedBy 10 = .ok (.iaload, 1) := by decide +kernel
theorem dX11_markedBy_11 : decode cX11_markedBy 11 = .ok (.if_icmp .ge 49, 3) := by decide +kernel
theorem dX11_markedBy_14 : decode cX11_markedBy 14 = .ok (.iload_n 3, 1) := by decide +kernel
theorem dX11_markedBy_15 : decode cX11_markedBy 15 = .ok (.aload_n 0, 1) := by decide +kernel
theorem dX11_markedBy_16 : decode cX11_markedBy 16 = .ok (.bipush 50, 2) := by decide +kernel
theorem dX11_markedBy_18 : decode cX11_markedBy 18 = .ok (.bipush 6, 2) := by decide +kernel
theorem dX11_markedBy_20 : decode cX11_markedBy 20 = .ok (.iload 4, 2) := by decide +kernel
theorem dX11_markedBy_22 : decode cX11_markedBy 22 = .ok (.imul, 1) := by decide +kernel
theorem dX11_markedBy_23 : decode cX11_markedBy 23 = .ok (.iadd, 1) := by decide +kernel
theorem dX11_markedBy_24 : decode cX11_markedBy 24 = .ok (.iconst 1, 1) := by decide +kernel
theorem dX11_markedBy_25 : decode cX11_markedBy 25 = .ok (.iadd, 1) := by decide +kernel
theorem dX11_markedBy_26 : decode cX11_markedBy 26 = .ok (.iaload, 1) := by decide +kernel
theorem dX11_markedBy_27 : decode cX11_markedBy 27 = .ok (.iload_n 1, 1) := by decide +kernel
theorem dX11_markedBy_28 : decode cX11_markedBy 28 = .ok (.if_icmp .ne 23, 3) := by decide +kernel
theorem dX11_markedBy_31 : decode cX11_markedBy 31 = .ok (.aload_n 0, 1) := by decide +kernel
theorem dX11_markedBy_32 : decode cX11_markedBy 32 = .ok (.bipush 50, 2) := by decide +kernel
theorem dX11_markedBy_34 : decode cX11_markedBy 34 = .ok (.bipush 6, 2) := by decide +kernel
theorem dX11_markedBy_36 : decode cX11_markedBy 36 = .ok (.iload 4, 2) := by decide +kernel
theorem dX11_markedBy_38 : decode cX11_markedBy 38 = .ok (.imul, 1) := by decide +kernel
theorem dX11_markedBy_39 : decode cX11_markedBy 39 = .ok (.iadd, 1) := by decide +kernel
theorem dX11_markedBy_40 : decode cX11_markedBy 40 = .ok (.iconst 3, 1) := by decide +kernel
theorem dX11_markedBy_41 : decode cX11_markedBy 41 = .ok (.iadd, 1) := by decide +kernel
theorem dX11_markedBy_42 : decode cX11_markedBy 42 = .ok (.iaload, 1) := by decide +kernel
theorem dX11_markedBy_43 : decode cX11_markedBy 43 = .ok (.iload_n 2, 1) := by decide +kernel
theorem dX11_markedBy_44 : decode cX11_markedBy 44 = .ok (.if_icmp .ne 7, 3) := by decide +kernel
theorem dX11_markedBy_47 : decode cX11_markedBy 47 = .ok (.iconst 1, 1) := by decide +kernel
theorem dX11_markedBy_48 : decode cX11_markedBy 48 = .ok (.goto 4, 3) := by decide +kernel
theorem dX11_markedBy_51 : decode cX11_markedBy 51 = .ok (.iconst 0, 1) := by decide +kernel
theorem dX11_markedBy_52 : decode cX11_markedBy 52 = .ok (.iadd, 1) := by decide +kernel
theorem dX11_markedBy_53 : decode cX11_markedBy 53 = .ok (.istore_n 3, 1) := by decide +kernel
theorem dX11_markedBy_54 : decode cX11_markedBy 54 = .ok (.iinc 4 1, 3) := by decide +kernel
theorem dX11_markedBy_57 : decode cX11_markedBy 57 = .ok (.goto (-52), 3) := by decide +kernel
theorem dX11_markedBy_60 : decode cX11_markedBy 60 = .ok (.iload_n 3, 1) := by decide +kernel
theorem dX11_markedBy_61 : decode cX11_markedBy 61 = .ok (.ireturn, 1) := by decide +kernel
theorem dX11_isComplete_0 : decode cX11_isComplete 0 = .ok (.aload_n 0, 1) := by decide +kernel
theorem dX11_isComplete_1 : decode cX11_isComplete 1 = .ok (.iload_n 1, 1) := by decide +kernel
theorem dX11_isComplete_2 : decode cX11_isComplete 2 = .ok (.iconst 3, 1) := by decide +kernel
theorem dX11_isComplete_3 : decode cX11_isComplete 3 = .ok (.invokestatic 43, 3) := by decide +kernel
theorem dX11_isComplete_6 : decode cX11_isComplete 6 = .ok (.aload_n 0, 1) := by decide +kernel
theorem dX11_isComplete_7 : decode cX11_isComplete 7 = .ok (.iload_n 1, 1) := by decide +kernel
theorem dX11_isComplete_8 : decode cX11_isComplete 8 = .ok (.invokestatic 47, 3) := by decide +kernel
theorem dX11_isComplete_11 : decode cX11_isComplete 11 = .ok (.if_icmp .lt 7, 3) := by decide +kernel
theorem dX11_isComplete_14 : decode cX11_isComplete 14 = .ok (.iconst 1, 1) := by decide +kernel
theorem dX11_isComplete_15 : decode cX11_isComplete 15 = .ok (.goto 4, 3) := by decide +kernel
theorem dX11_isComplete_18 : decode cX11_isComplete 18 = .ok (.iconst 0, 1) := by decide +kernel
theorem dX11_isComplete_19 : decode cX11_isComplete 19 = .ok (.ireturn, 1) := by decide +kernel
theorem dX11_lacks_0 : decode cX11_lacks 0 = .ok (.aload_n 0, 1) := by decide +kernel
theorem dX11_lacks_1 : decode cX11_lacks 1 = .ok (.iload_n 1, 1) := by decide +kernel
theorem dX11_lacks_2 : decode cX11_lacks 2 = .ok (.invokestatic 47, 3) := by decide +kernel
theorem dX11_lacks_5 : decode cX11_lacks 5 = .ok (.aload_n 0, 1) := by decide +kernel
theorem dX11_lacks_6 : decode cX11_lacks 6 = .ok (.iload_n 1, 1) := by decide +kernel
theorem dX11_lacks_7 : decode cX11_lacks 7 = .ok (.iconst 3, 1) := by decide +kernel
theorem dX11_lacks_8 : decode cX11_lacks 8 = .ok (.invokestatic 43, 3) := by decide +kernel
theorem dX11_lacks_11 : decode cX11_lacks 11 = .ok (.isub, 1) := by decide +kernel
theorem dX11_lacks_12 : decode cX11_lacks 12 = .ok (.aload_n 0, 1) := by decide +kernel
theorem dX11_lacks_13 : decode cX11_lacks 13 = .ok (.iload_n 1, 1) := by decide +kernel
theorem dX11_lacks_14 : decode cX11_lacks 14 = .ok (.iconst 1, 1) := by decide +kernel
theorem dX11_lacks_15 : decode cX11_lacks 15 = .ok (.invokestatic 43, 3) := by decide +kernel
theorem dX11_lacks_18 : decode cX11_lacks 18 = .ok (.isub, 1) := by decide +kernel
theorem dX11_lacks_19 : decode cX11_lacks 19 = .ok (.istore_n 2, 1) := by decide +kernel
theorem dX11_lacks_20 : decode cX11_lacks 20 = .ok (.iload_n 2, 1) := by decide +kernel
theorem dX11_lacks_21 : decode cX11_lacks 21 = .ok (.ifCond .ge 7, 3) := by decide +kernel
theorem dX11_lacks_24 : decode cX11_lacks 24 = .ok (.iconst 0, 1) := by decide +kernel
theorem dX11_lacks_25 : decode cX11_lacks 25 = .ok (.goto 4, 3) := by decide +kernel
theorem dX11_lacks_28 : decode cX11_lacks 28 = .ok (.iload_n 2, 1) := by decide +kernel
theorem dX11_lacks_29 : decode cX11_lacks 29 = .ok (.ireturn, 1) := by decide +kernel
theorem dX11_owedToAll_0 : decode cX11_owedToAll 0 = .ok (.iconst 0, 1) := by decide +kernel
theorem dX11_owedToAll_1 : decode cX11_owedToAll 1 = .ok (.istore_n 1, 1) := by decide +kernel
theorem dX11_owedToAll_2 : decode cX11_owedToAll 2 = .ok (.iconst 0, 1) := by decide +kernel
theorem dX11_owedToAll_3 : decode cX11_owedToAll 3 = .ok (.istore_n 2, 1) := by decide +kernel
theorem dX11_owedToAll_4 : decode cX11_owedToAll 4 = .ok (.iload_n 2, 1) := by decide +kernel
theorem dX11_owedToAll_5 : decode cX11_owedToAll 5 = .ok (.aload_n 0, 1) := by decide +kernel
theorem dX11_owedToAll_6 : decode cX11_owedToAll 6 = .ok (.bipush 6, 2) := by decide +kernel
theorem dX11_owedToAll_8 : decode cX11_owedToAll 8 = .ok (.iaload, 1) := by decide +kernel
theorem dX11_owedToAll_9 : decode cX11_owedToAll 9 = .ok (.if_icmp .ge 22, 3) := by decide +kernel
theorem dX11_owedToAll_12 : decode cX11_owedToAll 12 = .ok (.iload_n 1, 1) := by decide +kernel
theorem dX11_owedToAll_13 : decode cX11_owedToAll 13 = .ok (.aload_n 0, 1) := by decide +kernel
theorem dX11_owedToAll_14 : decode cX11_owedToAll 14 = .ok (.bipush 26, 2) := by decide +kernel
theorem dX11_owedToAll_16 : decode cX11_owedToAll 16 = .ok (.iconst 4, 1) := by decide +kernel
theorem dX11_owedToAll_17 : decode cX11_owedToAll 17 = .ok (.iload_n 2, 1) := by decide +kernel
theorem dX11_owedToAll_18 : decode cX11_owedToAll 18 = .ok (.imul, 1) := by decide +kernel
theorem dX11_owedToAll_19 : decode cX11_owedToAll 19 = .ok (.iadd, 1) := by decide +kernel
theorem dX11_owedToAll_20 : decode cX11_owedToAll 20 = .ok (.iconst 3, 1) := by decide +kernel
theorem dX11_owedToAll_21 : decode cX11_owedToAll 21 = .ok (.iadd, 1) := by decide +kernel
theorem dX11_owedToAll_22 : decode cX11_owedToAll 22 = .ok (.iaload, 1) := by decide +kernel
theorem dX11_owedToAll_23 : decode cX11_owedToAll 23 = .ok (.iadd, 1) := by decide +kernel
theorem dX11_owedToAll_24 : decode cX11_owedToAll 24 = .ok (.istore_n 1, 1) := by decide +kernel
theorem dX11_owedToAll_25 : decode cX11_owedToAll 25 = .ok (.iinc 2 1, 3) := by decide +kernel
theorem dX11_owedToAll_28 : decode cX11_owedToAll 28 = .ok (.goto (-24), 3) := by decide +kernel
theorem dX11_owedToAll_31 : decode cX11_owedToAll 31 = .ok (.iload_n 1, 1) := by decide +kernel
theorem dX11_owedToAll_32 : decode cX11_owedToAll 32 = .ok (.ireturn, 1) := by decide +kernel
theorem dX11_canCut_0 : decode cX11_canCut 0 = .ok (.aload_n 0, 1) := by decide +kernel
theorem dX11_canCut_1 : decode cX11_canCut 1 = .ok (.bipush 26, 2) := by decide +kernel
theorem dX11_canCut_3 : decode cX11_canCut 3 = .ok (.iconst 4, 1) := by decide +kernel
theorem dX11_canCut_4 : decode cX11_canCut 4 = .ok (.iload_n 1, 1) := by decide +kernel
theorem dX11_canCut_5 : decode cX11_canCut 5 = .ok (.imul, 1) := by decide +kernel
theorem dX11_canCut_6 : decode cX11_canCut 6 = .ok (.iadd, 1) := by decide +kernel
theorem dX11_canCut_7 : decode cX11_canCut 7 = .ok (.iconst 2, 1) := by decide +kernel
theorem dX11_canCut_8 : decode cX11_canCut 8 = .ok (.iadd, 1) := by decide +kernel
theorem dX11_canCut_9 : decode cX11_canCut 9 = .ok (.iaload, 1) := by decide +kernel
theorem dX11_canCut_10 : decode cX11_canCut 10 = .ok (.aload_n 0, 1) := by decide +kernel
theorem dX11_canCut_11 : decode cX11_canCut 11 = .ok (.iload_n 2, 1) := by decide +kernel
theorem dX11_canCut_12 : decode cX11_canCut 12 = .ok (.invokestatic 51, 3) := by decide +kernel
theorem dX11_canCut_15 : decode cX11_canCut 15 = .ok (.if_icmp .lt 16, 3) := by decide +kernel
theorem dX11_canCut_18 : decode cX11_canCut 18 = .ok (.aload_n 0, 1) := by decide +kernel
theorem dX11_canCut_19 : decode cX11_canCut 19 = .ok (.bipush 7, 2) := by decide +kernel
theorem dX11_canCut_21 : decode cX11_canCut 21 = .ok (.iaload, 1) := by decide +kernel
theorem dX11_canCut_22 : decode cX11_canCut 22 = .ok (.bipush 24, 2) := by decide +kernel
theorem dX11_canCut_24 : decode cX11_canCut 24 = .ok (.if_icmp .ge 7, 3) := by decide +kernel
theorem dX11_canCut_27 : decode cX11_canCut 27 = .ok (.iconst 1, 1) := by decide +kernel
theorem dX11_canCut_28 : decode cX11_canCut 28 = .ok (.goto 4, 3) := by decide +kernel
theorem dX11_canCut_31 : decode cX11_canCut 31 = .ok (.iconst 0, 1) := by decide +kernel
theorem dX11_canCut_32 : decode cX11_canCut 32 = .ok (.ireturn, 1) := by decide +kernel
theorem dX11_layStone_0 : decode cX11_layStone 0 = .ok (.bipush 50, 2) := by decide +kernel
theorem dX11_layStone_2 : decode cX11_layStone 2 = .ok (.bipush 6, 2) := by decide +kernel
theorem dX11_layStone_4 : decode cX11_layStone 4 = .ok (.aload_n 0, 1) := by decide +kernel
theorem dX11_layStone_5 : decode cX11_layStone 5 = .ok (.bipush 7, 2) := by decide +kernel
theorem dX11_layStone_7 : decode cX11_layStone 7 = .ok (.iaload, 1) := by decide +kernel
theorem dX11_layStone_8 : decode cX11_layStone 8 = .ok (.imul, 1) := by decide +kernel
theorem dX11_layStone_9 : decode cX11_layStone 9 = .ok (.iadd, 1) := by decide +kernel
theorem dX11_layStone_10 : decode cX11_layStone 10 = .ok (.istore 4, 2) := by decide +kernel
theorem dX11_layStone_12 : decode cX11_layStone 12 = .ok (.aload_n 0, 1) := by decide +kernel
theorem dX11_layStone_13 : decode cX11_layStone 13 = .ok (.iload 4, 2) := by decide +kernel
theorem dX11_layStone_15 : decode cX11_layStone 15 = .ok (.iload_n 2, 1) := by decide +kernel
theorem dX11_layStone_16 : decode cX11_layStone 16 = .ok (.iastore, 1) := by decide +kernel
theorem dX11_layStone_17 : decode cX11_layStone 17 = .ok (.aload_n 0, 1) := by decide +kernel
theorem dX11_layStone_18 : decode cX11_layStone 18 = .ok (.iload 4, 2) := by decide +kernel
theorem dX11_layStone_20 : decode cX11_layStone 20 = .ok (.iconst 1, 1) := by decide +kernel
theorem dX11_layStone_21 : decode cX11_layStone 21 = .ok (.iadd, 1) := by decide +kernel
theorem dX11_layStone_22 : decode cX11_layStone 22 = .ok (.iload_n 1, 1) := by decide +kernel
theorem dX11_layStone_23 : decode cX11_layStone 23 = .ok (.iastore, 1) := by decide +kernel
theorem dX11_layStone_24 : decode cX11_layStone 24 = .ok (.aload_n 0, 1) := by decide +kernel
theorem dX11_layStone_25 : decode cX11_layStone 25 = .ok (.iload 4, 2) := by decide +kernel
theorem dX11_layStone_27 : decode cX11_layStone 27 = .ok (.iconst 2, 1) := by decide +kernel
theorem dX11_layStone_28 : decode cX11_layStone 28 = .ok (.iadd, 1) := by decide +kernel
theorem dX11_layStone_29 : decode cX11_layStone 29 = .ok (.iload_n 3, 1) := by decide +kernel
theorem dX11_layStone_30 : decode cX11_layStone 30 = .ok (.iastore, 1) := by decide +kernel
theorem dX11_layStone_31 : decode cX11_layStone 31 = .ok (.aload_n 0, 1) := by decide +kernel
theorem dX11_layStone_32 : decode cX11_layStone 32 = .ok (.iload 4, 2) := by decide +kernel
theorem dX11_layStone_34 : decode cX11_layStone 34 = .ok (.iconst 3, 1) := by decide +kernel
theorem dX11_layStone_35 : decode cX11_layStone 35 = .ok (.iadd, 1) := by decide +kernel
theorem dX11_layStone_36 : decode cX11_layStone 36 = .ok (.iconst 0, 1) := by decide +kernel
theorem dX11_layStone_37 : decode cX11_layStone 37 = .ok (.iastore, 1) := by decide +kernel
theorem dX11_layStone_38 : decode cX11_layStone 38 = .ok (.aload_n 0, 1) := by decide +kernel
theorem dX11_layStone_39 : decode cX11_layStone 39 = .ok (.iload 4, 2) := by decide +kernel
theorem dX11_layStone_41 : decode cX11_layStone 41 = .ok (.iconst 4, 1) := by decide +kernel
theorem dX11_layStone_42 : decode cX11_layStone 42 = .ok (.iadd, 1) := by decide +kernel
theorem dX11_layStone_43 : decode cX11_layStone 43 = .ok (.iconst 0, 1) := by decide +kernel
theorem dX11_layStone_44 : decode cX11_layStone 44 = .ok (.iastore, 1) := by decide +kernel
theorem dX11_layStone_45 : decode cX11_layStone 45 = .ok (.aload_n 0, 1) := by decide +kernel
theorem dX11_layStone_46 : decode cX11_layStone 46 = .ok (.iload 4, 2) := by decide +kernel
theorem dX11_layStone_48 : decode cX11_layStone 48 = .ok (.iconst 5, 1) := by decide +kernel
theorem dX11_layStone_49 : decode cX11_layStone 49 = .ok (.iadd, 1) := by decide +kernel
theorem dX11_layStone_50 : decode cX11_layStone 50 = .ok (.iload_n 1, 1) := by decide +kernel
theorem dX11_layStone_51 : decode cX11_layStone 51 = .ok (.iastore, 1) := by decide +kernel
theorem dX11_layStone_52 : decode cX11_layStone 52 = .ok (.aload_n 0, 1) := by decide +kernel
theorem dX11_layStone_53 : decode cX11_layStone 53 = .ok (.bipush 7, 2) := by decide +kernel
theorem dX11_layStone_55 : decode cX11_layStone 55 = .ok (.dup2, 1) := by decide +kernel
theorem dX11_layStone_56 : decode cX11_layStone 56 = .ok (.iaload, 1) := by decide +kernel
theorem dX11_layStone_57 : decode cX11_layStone 57 = .ok (.iconst 1, 1) := by decide +kernel
theorem dX11_layStone_58 : decode cX11_layStone 58 = .ok (.iadd, 1) := by decide +kernel
theorem dX11_layStone_59 : decode cX11_layStone 59 = .ok (.iastore, 1) := by decide +kernel
theorem dX11_layStone_60 : decode cX11_layStone 60 = .ok (.aload_n 0, 1) := by decide +kernel
theorem dX11_layStone_61 : decode cX11_layStone 61 = .ok (.bipush 7, 2) := by decide +kernel
theorem dX11_layStone_63 : decode cX11_layStone 63 = .ok (.iaload, 1) := by decide +kernel
theorem dX11_layStone_64 : decode cX11_layStone 64 = .ok (.iconst 1, 1) := by decide +kernel
theorem dX11_layStone_65 : decode cX11_layStone 65 = .ok (.isub, 1) := by decide +kernel
theorem dX11_layStone_66 : decode cX11_layStone 66 = .ok (.ireturn, 1) := by decide +kernel
theorem dX11_cutOn_0 : decode cX11_cutOn 0 = .ok (.aload_n 0, 1) := by decide +kernel
theorem dX11_cutOn_1 : decode cX11_cutOn 1 = .ok (.bipush 26, 2) := by decide +kernel
theorem dX11_cutOn_3 : decode cX11_cutOn 3 = .ok (.iconst 4, 1) := by decide +kernel
theorem dX11_cutOn_4 : decode cX11_cutOn 4 = .ok (.iload_n 1, 1) := by decide +kernel
theorem dX11_cutOn_5 : decode cX11_cutOn 5 = .ok (.imul, 1) := by decide +kernel
theorem dX11_cutOn_6 : decode cX11_cutOn 6 = .ok (.iadd, 1) := by decide +kernel
theorem dX11_cutOn_7 : decode cX11_cutOn 7 = .ok (.iconst 2, 1) := by decide +kernel
theorem dX11_cutOn_8 : decode cX11_cutOn 8 = .ok (.iadd, 1) := by decide +kernel
theorem dX11_cutOn_9 : decode cX11_cutOn 9 = .ok (.dup2, 1) := by decide +kernel
theorem dX11_cutOn_10 : decode cX11_cutOn 10 = .ok (.iaload, 1) := by decide +kernel
theorem dX11_cutOn_11 : decode cX11_cutOn 11 = .ok (.aload_n 0, 1) := by decide +kernel
theorem dX11_cutOn_12 : decode cX11_cutOn 12 = .ok (.iload_n 2, 1) := by decide +kernel
theorem dX11_cutOn_13 : decode cX11_cutOn 13 = .ok (.invokestatic 51, 3) := by decide +kernel
theorem dX11_cutOn_16 : decode cX11_cutOn 16 = .ok (.isub, 1) := by decide +kernel
theorem dX11_cutOn_17 : decode cX11_cutOn 17 = .ok (.iastore, 1) := by decide +kernel
theorem dX11_cutOn_18 : decode cX11_cutOn 18 = .ok (.aload_n 0, 1) := by decide +kernel
theorem dX11_cutOn_19 : decode cX11_cutOn 19 = .ok (.iload_n 1, 1) := by decide +kernel
theorem dX11_cutOn_20 : decode cX11_cutOn 20 = .ok (.iload_n 2, 1) := by decide +kernel
theorem dX11_cutOn_21 : decode cX11_cutOn 21 = .ok (.iload_n 3, 1) := by decide +kernel
theorem dX11_cutOn_22 : decode cX11_cutOn 22 = .ok (.invokestatic 54, 3) := by decide +kernel
theorem dX11_cutOn_25 : decode cX11_cutOn 25 = .ok (.ireturn, 1) := by decide +kernel
theorem dX11_priceOf_0 : decode cX11_priceOf 0 = .ok (.bipush 50, 2) := by decide +kernel
theorem dX11_priceOf_2 : decode cX11_priceOf 2 = .ok (.bipush 6, 2) := by decide +kernel
theorem dX11_priceOf_4 : decode cX11_priceOf 4 = .ok (.iload_n 1, 1) := by decide +kernel
theorem dX11_priceOf_5 : decode cX11_priceOf 5 = .ok (.imul, 1) := by decide +kernel
theorem dX11_priceOf_6 : decode cX11_priceOf 6 = .ok (.iadd, 1) := by decide +kernel
theorem dX11_priceOf_7 : decode cX11_priceOf 7 = .ok (.istore_n 2, 1) := by decide +kernel
theorem dX11_priceOf_8 : decode cX11_priceOf 8 = .ok (.aload_n 0, 1) := by decide +kernel
theorem dX11_priceOf_9 : decode cX11_priceOf 9 = .ok (.aload_n 0, 1) := by decide +kernel
theorem dX11_priceOf_10 : decode cX11_priceOf 10 = .ok (.iload_n 2, 1) := by decide +kernel
theorem dX11_priceOf_11 : decode cX11_priceOf 11 = .ok (.iaload, 1) := by decide +kernel
theorem dX11_priceOf_12 : decode cX11_priceOf 12 = .ok (.invokestatic 51, 3) := by decide +kernel
theorem dX11_priceOf_15 : decode cX11_priceOf 15 = .ok (.aload_n 0, 1) := by decide +kernel
theorem dX11_priceOf_16 : decode cX11_priceOf 16 = .ok (.bipush 26, 2) := by decide +kernel
theorem dX11_priceOf_18 : decode cX11_priceOf 18 = .ok (.iconst 4, 1) := by decide +kernel
theorem dX11_priceOf_19 : decode cX11_priceOf 19 = .ok (.aload_n 0, 1) := by decide +kernel
theorem dX11_priceOf_20 : decode cX11_priceOf 20 = .ok (.iload_n 2, 1) := by decide +kernel
theorem dX11_priceOf_21 : decode cX11_priceOf 21 = .ok (.iconst 1, 1) := by decide +kernel
theorem dX11_priceOf_22 : decode cX11_priceOf 22 = .ok (.iadd, 1) := by decide +kernel
theorem dX11_priceOf_23 : decode cX11_priceOf 23 = .ok (.iaload, 1) := by decide +kernel
theorem dX11_priceOf_24 : decode cX11_priceOf 24 = .ok (.imul, 1) := by decide +kernel
theorem dX11_priceOf_25 : decode cX11_priceOf 25 = .ok (.iadd, 1) := by decide +kernel
theorem dX11_priceOf_26 : decode cX11_priceOf 26 = .ok (.iaload, 1) := by decide +kernel
theorem dX11_priceOf_27 : decode cX11_priceOf 27 = .ok (.imul, 1) := by decide +kernel
theorem dX11_priceOf_28 : decode cX11_priceOf 28 = .ok (.istore_n 3, 1) := by decide +kernel
theorem dX11_priceOf_29 : decode cX11_priceOf 29 = .ok (.aload_n 0, 1) := by decide +kernel
theorem dX11_priceOf_30 : decode cX11_priceOf 30 = .ok (.iload_n 2, 1) := by decide +kernel
theorem dX11_priceOf_31 : decode cX11_priceOf 31 = .ok (.iconst 4, 1) := by decide +kernel
theorem dX11_priceOf_32 : decode cX11_priceOf 32 = .ok (.iadd, 1) := by decide +kernel
theorem dX11_priceOf_33 : decode cX11_priceOf 33 = .ok (.iaload, 1) := by decide +kernel
theorem dX11_priceOf_34 : decode cX11_priceOf 34 = .ok (.ifCond .le 9, 3) := by decide +kernel
theorem dX11_priceOf_37 : decode cX11_priceOf 37 = .ok (.iload_n 3, 1) := by decide +kernel
theorem dX11_priceOf_38 : decode cX11_priceOf 38 = .ok (.iconst 2, 1) := by decide +kernel
theorem dX11_priceOf_39 : decode cX11_priceOf 39 = .ok (.idiv, 1) := by decide +kernel
theorem dX11_priceOf_40 : decode cX11_priceOf 40 = .ok (.goto 4, 3) := by decide +kernel
theorem dX11_priceOf_43 : decode cX11_priceOf 43 = .ok (.iload_n 3, 1) := by decide +kernel
theorem dX11_priceOf_44 : decode cX11_priceOf 44 = .ok (.ireturn, 1) := by decide +kernel
theorem dX11_inspectOn_0 : decode cX11_inspectOn 0 = .ok (.bipush 50, 2) := by decide +kernel
theorem dX11_inspectOn_2 : decode cX11_inspectOn 2 = .ok (.bipush 6, 2) := by decide +kernel
theorem dX11_inspectOn_4 : decode cX11_inspectOn 4 = .ok (.iload_n 1, 1) := by decide +kernel
theorem dX11_inspectOn_5 : decode cX11_inspectOn 5 = .ok (.imul, 1) := by decide +kernel
theorem dX11_inspectOn_6 : decode cX11_inspectOn 6 = .ok (.iadd, 1) := by decide +kernel
theorem dX11_inspectOn_7 : decode cX11_inspectOn 7 = .ok (.istore_n 2, 1) := by decide +kernel
theorem dX11_inspectOn_8 : decode cX11_inspectOn 8 = .ok (.aload_n 0, 1) := by decide +kernel
theorem dX11_inspectOn_9 : decode cX11_inspectOn 9 = .ok (.iload_n 2, 1) := by decide +kernel
theorem dX11_inspectOn_10 : decode cX11_inspectOn 10 = .ok (.iconst 2, 1) := by decide +kernel
theorem dX11_inspectOn_11 : decode cX11_inspectOn 11 = .ok (.iadd, 1) := by decide +kernel
theorem dX11_inspectOn_12 : decode cX11_inspectOn 12 = .ok (.iaload, 1) := by decide +kernel
theorem dX11_inspectOn_13 : decode cX11_inspectOn 13 = .ok (.aload_n 0, 1) := by decide +kernel
theorem dX11_inspectOn_14 : decode cX11_inspectOn 14 = .ok (.iconst 0, 1) := by decide +kernel
theorem dX11_inspectOn_15 : decode cX11_inspectOn 15 = .ok (.iaload, 1) := by decide +kernel
theorem dX11_inspectOn_16 : decode cX11_inspectOn 16 = .ok (.if_icmp .le 12, 3) := by decide +kernel
theorem dX11_inspectOn_19 : decode cX11_inspectOn 19 = .ok (.aload_n 0, 1) := by decide +kernel
theorem dX11_inspectOn_20 : decode cX11_inspectOn 20 = .ok (.iload_n 2, 1) := by decide +kernel
theorem dX11_inspectOn_21 : decode cX11_inspectOn 21 = .ok (.iconst 3, 1) := by decide +kernel
theorem dX11_inspectOn_22 : decode cX11_inspectOn 22 = .ok (.iadd, 1) := by decide +kernel
theorem dX11_inspectOn_23 : decode cX11_inspectOn 23 = .ok (.iconst 2, 1) := by decide +kernel
theorem dX11_inspectOn_24 : decode cX11_inspectOn 24 = .ok (.iastore, 1) := by decide +kernel
theorem dX11_inspectOn_25 : decode cX11_inspectOn 25 = .ok (.bipush (-9), 2) := by decide +kernel
theorem dX11_inspectOn_27 : decode cX11_inspectOn 27 = .ok (.ireturn, 1) := by decide +kernel
theorem dX11_inspectOn_28 : decode cX11_inspectOn 28 = .ok (.aload_n 0, 1) := by decide +kernel
theorem dX11_inspectOn_29 : decode cX11_inspectOn 29 = .ok (.iload_n 1, 1) := by decide +kernel
theorem dX11_inspectOn_30 : decode cX11_inspectOn 30 = .ok (.invokestatic 58, 3) := by decide +kernel
theorem dX11_inspectOn_33 : decode cX11_inspectOn 33 = .ok (.istore_n 3, 1) := by decide +kernel
theorem dX11_inspectOn_34 : decode cX11_inspectOn 34 = .ok (.aload_n 0, 1) := by decide +kernel
theorem dX11_inspectOn_35 : decode cX11_inspectOn 35 = .ok (.iload_n 2, 1) := by decide +kernel
theorem dX11_inspectOn_36 : decode cX11_inspectOn 36 = .ok (.iconst 3, 1) := by decide +kernel
theorem dX11_inspectOn_37 : decode cX11_inspectOn 37 = .ok (.iadd, 1) := by decide +kernel
theorem dX11_inspectOn_38 : decode cX11_inspectOn 38 = .ok (.iconst 1, 1) := by decide +kernel
theorem dX11_inspectOn_39 : decode cX11_inspectOn 39 = .ok (.iastore, 1) := by decide +kernel
theorem dX11_inspectOn_40 : decode cX11_inspectOn 40 = .ok (.aload_n 0, 1) := by decide +kernel
theorem dX11_inspectOn_41 : decode cX11_inspectOn 41 = .ok (.bipush 26, 2) := by decide +kernel
theorem dX11_inspectOn_43 : decode cX11_inspectOn 43 = .ok (.iconst 4, 1) := by decide +kernel
theorem dX11_inspectOn_44 : decode cX11_inspectOn 44 = .ok (.aload_n 0, 1) := by decide +kernel
theorem dX11_inspectOn_45 : decode cX11_inspectOn 45 = .ok (.iload_n 2, 1) := by decide +kernel
theorem dX11_inspectOn_46 : decode cX11_inspectOn 46 = .ok (.iconst 1, 1) := by decide +kernel
theorem dX11_inspectOn_47 : decode cX11_inspectOn 47 = .ok (.iadd, 1) := by decide +kernel
theorem dX11_inspectOn_48 : decode cX11_inspectOn 48 = .ok (.iaload, 1) := by decide +kernel
theorem dX11_inspectOn_49 : decode cX11_inspectOn 49 = .ok (.imul, 1) := by decide +kernel
theorem dX11_inspectOn_50 : decode cX11_inspectOn 50 = .ok (.iadd, 1) := by decide +kernel
theorem dX11_inspectOn_51 : decode cX11_inspectOn 51 = .ok (.iconst 3, 1) := by decide +kernel
theorem dX11_inspectOn_52 : decode cX11_inspectOn 52 = .ok (.iadd, 1) := by decide +kernel
theorem dX11_inspectOn_53 : decode cX11_inspectOn 53 = .ok (.dup2, 1) := by decide +kernel
theorem dX11_inspectOn_54 : decode cX11_inspectOn 54 = .ok (.iaload, 1) := by decide +kernel
theorem dX11_inspectOn_55 : decode cX11_inspectOn 55 = .ok (.iload_n 3, 1) := by decide +kernel
theorem dX11_inspectOn_56 : decode cX11_inspectOn 56 = .ok (.iadd, 1) := by decide +kernel
theorem dX11_inspectOn_57 : decode cX11_inspectOn 57 = .ok (.iastore, 1) := by decide +kernel
theorem dX11_inspectOn_58 : decode cX11_inspectOn 58 = .ok (.iload_n 3, 1) := by decide +kernel
theorem dX11_inspectOn_59 : decode cX11_inspectOn 59 = .ok (.ireturn, 1) := by decide +kernel
theorem dX11_canRecut_0 : decode cX11_canRecut 0 = .ok (.bipush 50, 2) := by decide +kernel
theorem dX11_canRecut_2 : decode cX11_canRecut 2 = .ok (.bipush 6, 2) := by decide +kernel
theorem dX11_canRecut_4 : decode cX11_canRecut 4 = .ok (.iload_n 2, 1) := by decide +kernel
theorem dX11_canRecut_5 : decode cX11_canRecut 5 = .ok (.imul, 1) := by decide +kernel
theorem dX11_canRecut_6 : decode cX11_canRecut 6 = .ok (.iadd, 1) := by decide +kernel
theorem dX11_canRecut_7 : decode cX11_canRecut 7 = .ok (.istore 4, 2) := by decide +kernel
theorem dX11_canRecut_9 : decode cX11_canRecut 9 = .ok (.aload_n 0, 1) := by decide +kernel
theorem dX11_canRecut_10 : decode cX11_canRecut 10 = .ok (.iload 4, 2) := by decide +kernel
theorem dX11_canRecut_12 : decode cX11_canRecut 12 = .ok (.iconst 3, 1) := by decide +kernel
theorem dX11_canRecut_13 : decode cX11_canRecut 13 = .ok (.iadd, 1) := by decide +kernel
theorem dX11_canRecut_14 : decode cX11_canRecut 14 = .ok (.iaload, 1) := by decide +kernel
theorem dX11_canRecut_15 : decode cX11_canRecut 15 = .ok (.iconst 2, 1) := by decide +kernel
theorem dX11_canRecut_16 : decode cX11_canRecut 16 = .ok (.if_icmp .ne 45, 3) := by decide +kernel
theorem dX11_canRecut_19 : decode cX11_canRecut 19 = .ok (.aload_n 0, 1) := by decide +kernel
theorem dX11_canRecut_20 : decode cX11_canRecut 20 = .ok (.iload_n 3, 1) := by decide +kernel
theorem dX11_canRecut_21 : decode cX11_canRecut 21 = .ok (.invokestatic 61, 3) := by decide +kernel
theorem dX11_canRecut_24 : decode cX11_canRecut 24 = .ok (.aload_n 0, 1) := by decide +kernel
theorem dX11_canRecut_25 : decode cX11_canRecut 25 = .ok (.aload_n 0, 1) := by decide +kernel
theorem dX11_canRecut_26 : decode cX11_canRecut 26 = .ok (.iload 4, 2) := by decide +kernel
theorem dX11_canRecut_28 : decode cX11_canRecut 28 = .ok (.iaload, 1) := by decide +kernel
theorem dX11_canRecut_29 : decode cX11_canRecut 29 = .ok (.invokestatic 61, 3) := by decide +kernel
theorem dX11_canRecut_32 : decode cX11_canRecut 32 = .ok (.if_icmp .ge 29, 3) := by decide +kernel
theorem dX11_canRecut_35 : decode cX11_canRecut 35 = .ok (.aload_n 0, 1) := by decide +kernel
theorem dX11_canRecut_36 : decode cX11_canRecut 36 = .ok (.bipush 26, 2) := by decide +kernel
theorem dX11_canRecut_38 : decode cX11_canRecut 38 = .ok (.iconst 4, 1) := by decide +kernel
theorem dX11_canRecut_39 : decode cX11_canRecut 39 = .ok (.iload_n 1, 1) := by decide +kernel
theorem dX11_canRecut_40 : decode cX11_canRecut 40 = .ok (.imul, 1) := by decide +kernel
theorem dX11_canRecut_41 : decode cX11_canRecut 41 = .ok (.iadd, 1) := by decide +kernel
theorem dX11_canRecut_42 : decode cX11_canRecut 42 = .ok (.iconst 2, 1) := by decide +kernel
theorem dX11_canRecut_43 : decode cX11_canRecut 43 = .ok (.iadd, 1) := by decide +kernel
theorem dX11_canRecut_44 : decode cX11_canRecut 44 = .ok (.iaload, 1) := by decide +kernel
theorem dX11_canRecut_45 : decode cX11_canRecut 45 = .ok (.aload_n 0, 1) := by decide +kernel
theorem dX11_canRecut_46 : decode cX11_canRecut 46 = .ok (.iload_n 3, 1) := by decide +kernel
theorem dX11_canRecut_47 : decode cX11_canRecut 47 = .ok (.invokestatic 51, 3) := by decide +kernel
theorem dX11_canRecut_50 : decode cX11_canRecut 50 = .ok (.iconst 1, 1) := by decide +kernel
theorem dX11_canRecut_51 : decode cX11_canRecut 51 = .ok (.iadd, 1) := by decide +kernel
theorem dX11_canRecut_52 : decode cX11_canRecut 52 = .ok (.iconst 2, 1) := by decide +kernel
theorem dX11_canRecut_53 : decode cX11_canRecut 53 = .ok (.idiv, 1) := by decide +kernel
theorem dX11_canRecut_54 : decode cX11_canRecut 54 = .ok (.if_icmp .lt 7, 3) := by decide +kernel
theorem dX11_canRecut_57 : decode cX11_canRecut 57 = .ok (.iconst 1, 1) := by decide +kernel
theorem dX11_canRecut_58 : decode cX11_canRecut 58 = .ok (.goto 4, 3) := by decide +kernel
theorem dX11_canRecut_61 : decode cX11_canRecut 61 = .ok (.iconst 0, 1) := by decide +kernel
theorem dX11_canRecut_62 : decode cX11_canRecut 62 = .ok (.ireturn, 1) := by decide +kernel
theorem dX11_recutOn_0 : decode cX11_recutOn 0 = .ok (.bipush 50, 2) := by decide +kernel
theorem dX11_recutOn_2 : decode cX11_recutOn 2 = .ok (.bipush 6, 2) := by decide +kernel
theorem dX11_recutOn_4 : decode cX11_recutOn 4 = .ok (.iload_n 2, 1) := by decide +kernel
theorem dX11_recutOn_5 : decode cX11_recutOn 5 = .ok (.imul, 1) := by decide +kernel
theorem dX11_recutOn_6 : decode cX11_recutOn 6 = .ok (.iadd, 1) := by decide +kernel
theorem dX11_recutOn_7 : decode cX11_recutOn 7 = .ok (.istore 4, 2) := by decide +kernel
theorem dX11_recutOn_9 : decode cX11_recutOn 9 = .ok (.aload_n 0, 1) := by decide +kernel
theorem dX11_recutOn_10 : decode cX11_recutOn 10 = .ok (.iload 4, 2) := by decide +kernel
theorem dX11_recutOn_12 : decode cX11_recutOn 12 = .ok (.iconst 2, 1) := by decide +kernel
theorem dX11_recutOn_13 : decode cX11_recutOn 13 = .ok (.iadd, 1) := by decide +kernel
theorem dX11_recutOn_14 : decode cX11_recutOn 14 = .ok (.iaload, 1) := by decide +kernel
theorem dX11_recutOn_15 : decode cX11_recutOn 15 = .ok (.aload_n 0, 1) := by decide +kernel
theorem dX11_recutOn_16 : decode cX11_recutOn 16 = .ok (.aload_n 0, 1) := by decide +kernel
theorem dX11_recutOn_17 : decode cX11_recutOn 17 = .ok (.iload 4, 2) := by decide +kernel
theorem dX11_recutOn_19 : decode cX11_recutOn 19 = .ok (.iaload, 1) := by decide +kernel
theorem dX11_recutOn_20 : decode cX11_recutOn 20 = .ok (.invokestatic 61, 3) := by decide +kernel
theorem dX11_recutOn_23 : decode cX11_recutOn 23 = .ok (.isub, 1) := by decide +kernel
theorem dX11_recutOn_24 : decode cX11_recutOn 24 = .ok (.aload_n 0, 1) := by decide +kernel
theorem dX11_recutOn_25 : decode cX11_recutOn 25 = .ok (.iload_n 3, 1) := by decide +kernel
theorem dX11_recutOn_26 : decode cX11_recutOn 26 = .ok (.invokestatic 61, 3) := by decide +kernel
theorem dX11_recutOn_29 : decode cX11_recutOn 29 = .ok (.iadd, 1) := by decide +kernel
theorem dX11_recutOn_30 : decode cX11_recutOn 30 = .ok (.istore 5, 2) := by decide +kernel
theorem dX11_recutOn_32 : decode cX11_recutOn 32 = .ok (.aload_n 0, 1) := by decide +kernel
theorem dX11_recutOn_33 : decode cX11_recutOn 33 = .ok (.bipush 26, 2) := by decide +kernel
theorem dX11_recutOn_35 : decode cX11_recutOn 35 = .ok (.iconst 4, 1) := by decide +kernel
theorem dX11_recutOn_36 : decode cX11_recutOn 36 = .ok (.iload_n 1, 1) := by decide +kernel
theorem dX11_recutOn_37 : decode cX11_recutOn 37 = .ok (.imul, 1) := by decide +kernel
theorem dX11_recutOn_38 : decode cX11_recutOn 38 = .ok (.iadd, 1) := by decide +kernel
theorem dX11_recutOn_39 : decode cX11_recutOn 39 = .ok (.iconst 2, 1) := by decide +kernel
theorem dX11_recutOn_40 : decode cX11_recutOn 40 = .ok (.iadd, 1) := by decide +kernel
theorem dX11_recutOn_41 : decode cX11_recutOn 41 = .ok (.dup2, 1) := by decide +kernel
theorem dX11_recutOn_42 : decode cX11_recutOn 42 = .ok (.iaload, 1) := by decide +kernel
theorem dX11_recutOn_43 : decode cX11_recutOn 43 = .ok (.aload_n 0, 1) := by decide +kernel
theorem dX11_recutOn_44 : decode cX11_recutOn 44 = .ok (.iload_n 3, 1) := by decide +kernel
theorem dX11_recutOn_45 : decode cX11_recutOn 45 = .ok (.invokestatic 51, 3) := by decide +kernel
theorem dX11_recutOn_48 : decode cX11_recutOn 48 = .ok (.iconst 1, 1) := by decide +kernel
theorem dX11_recutOn_49 : decode cX11_recutOn 49 = .ok (.iadd, 1) := by decide +kernel
theorem dX11_recutOn_50 : decode cX11_recutOn 50 = .ok (.iconst 2, 1) := by decide +kernel
theorem dX11_recutOn_51 : decode cX11_recutOn 51 = .ok (.idiv, 1) := by decide +kernel
theorem dX11_recutOn_52 : decode cX11_recutOn 52 = .ok (.isub, 1) := by decide +kernel
theorem dX11_recutOn_53 : decode cX11_recutOn 53 = .ok (.iastore, 1) := by decide +kernel
theorem dX11_recutOn_54 : decode cX11_recutOn 54 = .ok (.aload_n 0, 1) := by decide +kernel
theorem dX11_recutOn_55 : decode cX11_recutOn 55 = .ok (.iload 4, 2) := by decide +kernel
theorem dX11_recutOn_57 : decode cX11_recutOn 57 = .ok (.iload_n 3, 1) := by decide +kernel
theorem dX11_recutOn_58 : decode cX11_recutOn 58 = .ok (.iastore, 1) := by decide +kernel
theorem dX11_recutOn_59 : decode cX11_recutOn 59 = .ok (.aload_n 0, 1) := by decide +kernel
theorem dX11_recutOn_60 : decode cX11_recutOn 60 = .ok (.iload 4, 2) := by decide +kernel
theorem dX11_recutOn_62 : decode cX11_recutOn 62 = .ok (.iconst 1, 1) := by decide +kernel
theorem dX11_recutOn_63 : decode cX11_recutOn 63 = .ok (.iadd, 1) := by decide +kernel
theorem dX11_recutOn_64 : decode cX11_recutOn 64 = .ok (.iload_n 1, 1) := by decide +kernel
theorem dX11_recutOn_65 : decode cX11_recutOn 65 = .ok (.iastore, 1) := by decide +kernel
theorem dX11_recutOn_66 : decode cX11_recutOn 66 = .ok (.aload_n 0, 1) := by decide +kernel
theorem dX11_recutOn_67 : decode cX11_recutOn 67 = .ok (.iload 4, 2) := by decide +kernel
theorem dX11_recutOn_69 : decode cX11_recutOn 69 = .ok (.iconst 2, 1) := by decide +kernel
theorem dX11_recutOn_70 : decode cX11_recutOn 70 = .ok (.iadd, 1) := by decide +kernel
theorem dX11_recutOn_71 : decode cX11_recutOn 71 = .ok (.iload 5, 2) := by decide +kernel
theorem dX11_recutOn_73 : decode cX11_recutOn 73 = .ok (.ifCond .ge 7, 3) := by decide +kernel
theorem dX11_recutOn_76 : decode cX11_recutOn 76 = .ok (.iconst 0, 1) := by decide +kernel
theorem dX11_recutOn_77 : decode cX11_recutOn 77 = .ok (.goto 5, 3) := by decide +kernel
theorem dX11_recutOn_80 : decode cX11_recutOn 80 = .ok (.iload 5, 2) := by decide +kernel
theorem dX11_recutOn_82 : decode cX11_recutOn 82 = .ok (.iastore, 1) := by decide +kernel
theorem dX11_recutOn_83 : decode cX11_recutOn 83 = .ok (.aload_n 0, 1) := by decide +kernel
theorem dX11_recutOn_84 : decode cX11_recutOn 84 = .ok (.iload 4, 2) := by decide +kernel
theorem dX11_recutOn_86 : decode cX11_recutOn 86 = .ok (.iconst 3, 1) := by decide +kernel
theorem dX11_recutOn_87 : decode cX11_recutOn 87 = .ok (.iadd, 1) := by decide +kernel
theorem dX11_recutOn_88 : decode cX11_recutOn 88 = .ok (.iconst 0, 1) := by decide +kernel
theorem dX11_recutOn_89 : decode cX11_recutOn 89 = .ok (.iastore, 1) := by decide +kernel
theorem dX11_recutOn_90 : decode cX11_recutOn 90 = .ok (.aload_n 0, 1) := by decide +kernel
theorem dX11_recutOn_91 : decode cX11_recutOn 91 = .ok (.iload 4, 2) := by decide +kernel
theorem dX11_recutOn_93 : decode cX11_recutOn 93 = .ok (.iconst 4, 1) := by decide +kernel
theorem dX11_recutOn_94 : decode cX11_recutOn 94 = .ok (.iadd, 1) := by decide +kernel
theorem dX11_recutOn_95 : decode cX11_recutOn 95 = .ok (.dup2, 1) := by decide +kernel
theorem dX11_recutOn_96 : decode cX11_recutOn 96 = .ok (.iaload, 1) := by decide +kernel
theorem dX11_recutOn_97 : decode cX11_recutOn 97 = .ok (.iconst 1, 1) := by decide +kernel
theorem dX11_recutOn_98 : decode cX11_recutOn 98 = .ok (.iadd, 1) := by decide +kernel
theorem dX11_recutOn_99 : decode cX11_recutOn 99 = .ok (.iastore, 1) := by decide +kernel
theorem dX11_recutOn_100 : decode cX11_recutOn 100 = .ok (.aload_n 0, 1) := by decide +kernel
theorem dX11_recutOn_101 : decode cX11_recutOn 101 = .ok (.iload 4, 2) := by decide +kernel
theorem dX11_recutOn_103 : decode cX11_recutOn 103 = .ok (.iconst 2, 1) := by decide +kernel
theorem dX11_recutOn_104 : decode cX11_recutOn 104 = .ok (.iadd, 1) := by decide +kernel
theorem dX11_recutOn_105 : decode cX11_recutOn 105 = .ok (.iaload, 1) := by decide +kernel
theorem dX11_recutOn_106 : decode cX11_recutOn 106 = .ok (.ireturn, 1) := by decide +kernel
theorem dX11_why_0 : decode cX11_why 0 = .ok (.aload_n 0, 1) := by decide +kernel
theorem dX11_why_1 : decode cX11_why 1 = .ok (.bipush 50, 2) := by decide +kernel
theorem dX11_why_3 : decode cX11_why 3 = .ok (.bipush 6, 2) := by decide +kernel
theorem dX11_why_5 : decode cX11_why 5 = .ok (.iload_n 1, 1) := by decide +kernel
theorem dX11_why_6 : decode cX11_why 6 = .ok (.imul, 1) := by decide +kernel
theorem dX11_why_7 : decode cX11_why 7 = .ok (.iadd, 1) := by decide +kernel
theorem dX11_why_8 : decode cX11_why 8 = .ok (.iaload, 1) := by decide +kernel
theorem dX11_why_9 : decode cX11_why 9 = .ok (.istore_n 2, 1) := by decide +kernel
theorem dX11_why_10 : decode cX11_why 10 = .ok (.aload_n 0, 1) := by decide +kernel
theorem dX11_why_11 : decode cX11_why 11 = .ok (.bipush 50, 2) := by decide +kernel
theorem dX11_why_13 : decode cX11_why 13 = .ok (.bipush 6, 2) := by decide +kernel
theorem dX11_why_15 : decode cX11_why 15 = .ok (.iload_n 1, 1) := by decide +kernel
theorem dX11_why_16 : decode cX11_why 16 = .ok (.imul, 1) := by decide +kernel
theorem dX11_why_17 : decode cX11_why 17 = .ok (.iadd, 1) := by decide +kernel
theorem dX11_why_18 : decode cX11_why 18 = .ok (.iconst 3, 1) := by decide +kernel
theorem dX11_why_19 : decode cX11_why 19 = .ok (.iadd, 1) := by decide +kernel
theorem dX11_why_20 : decode cX11_why 20 = .ok (.iaload, 1) := by decide +kernel
theorem dX11_why_21 : decode cX11_why 21 = .ok (.iconst 1, 1) := by decide +kernel
theorem dX11_why_22 : decode cX11_why 22 = .ok (.if_icmp .eq 5, 3) := by decide +kernel
theorem dX11_why_25 : decode cX11_why 25 = .ok (.iconst 1, 1) := by decide +kernel
theorem dX11_why_26 : decode cX11_why 26 = .ok (.ireturn, 1) := by decide +kernel
theorem dX11_why_27 : decode cX11_why 27 = .ok (.aload_n 0, 1) := by decide +kernel
theorem dX11_why_28 : decode cX11_why 28 = .ok (.iconst 2, 1) := by decide +kernel
theorem dX11_why_29 : decode cX11_why 29 = .ok (.iaload, 1) := by decide +kernel
theorem dX11_why_30 : decode cX11_why 30 = .ok (.iconst 1, 1) := by decide +kernel
theorem dX11_why_31 : decode cX11_why 31 = .ok (.if_icmp .ne 5, 3) := by decide +kernel
theorem dX11_why_34 : decode cX11_why 34 = .ok (.iconst 2, 1) := by decide +kernel
theorem dX11_why_35 : decode cX11_why 35 = .ok (.ireturn, 1) := by decide +kernel
theorem dX11_why_36 : decode cX11_why 36 = .ok (.iconst 0, 1) := by decide +kernel
theorem dX11_why_37 : decode cX11_why 37 = .ok (.istore_n 3, 1) := by decide +kernel
theorem dX11_why_38 : decode cX11_why 38 = .ok (.iload_n 3, 1) := by decide +kernel
theorem dX11_why_39 : decode cX11_why 39 = .ok (.iload_n 2, 1) := by decide +kernel
theorem dX11_why_40 : decode cX11_why 40 = .ok (.if_icmp .ge 19, 3) := by decide +kernel
theorem dX11_why_43 : decode cX11_why 43 = .ok (.aload_n 0, 1) := by decide +kernel
theorem dX11_why_44 : decode cX11_why 44 = .ok (.iload_n 3, 1) := by decide +kernel
theorem dX11_why_45 : decode cX11_why 45 = .ok (.invokestatic 64, 3) := by decide +kernel
theorem dX11_why_48 : decode cX11_why 48 = .ok (.ifCond .ne 5, 3) := by decide +kernel
theorem dX11_why_51 : decode cX11_why 51 = .ok (.iconst 3, 1) := by decide +kernel
theorem dX11_why_52 : decode cX11_why 52 = .ok (.ireturn, 1) := by decide +kernel
theorem dX11_why_53 : decode cX11_why 53 = .ok (.iinc 3 1, 3) := by decide +kernel
theorem dX11_why_56 : decode cX11_why 56 = .ok (.goto (-18), 3) := by decide +kernel
theorem dX11_why_59 : decode cX11_why 59 = .ok (.aload_n 0, 1) := by decide +kernel
theorem dX11_why_60 : decode cX11_why 60 = .ok (.iload_n 2, 1) := by decide +kernel
theorem dX11_why_61 : decode cX11_why 61 = .ok (.invokestatic 64, 3) := by decide +kernel
theorem dX11_why_64 : decode cX11_why 64 = .ok (.ifCond .eq 7, 3) := by decide +kernel
theorem dX11_why_67 : decode cX11_why 67 = .ok (.iconst 4, 1) := by decide +kernel
theorem dX11_why_68 : decode cX11_why 68 = .ok (.goto 4, 3) := by decide +kernel
theorem dX11_why_71 : decode cX11_why 71 = .ok (.iconst 0, 1) := by decide +kernel
theorem dX11_why_72 : decode cX11_why 72 = .ok (.ireturn, 1) := by decide +kernel
theorem dX11_dayOn_0 : decode cX11_dayOn 0 = .ok (.aload_n 0, 1) := by decide +kernel
theorem dX11_dayOn_1 : decode cX11_dayOn 1 = .ok (.iconst 1, 1) := by decide +kernel
theorem dX11_dayOn_2 : decode cX11_dayOn 2 = .ok (.dup2, 1) := by decide +kernel
theorem dX11_dayOn_3 : decode cX11_dayOn 3 = .ok (.iaload, 1) := by decide +kernel
theorem dX11_dayOn_4 : decode cX11_dayOn 4 = .ok (.iconst 1, 1) := by decide +kernel
theorem dX11_dayOn_5 : decode cX11_dayOn 5 = .ok (.iadd, 1) := by decide +kernel
theorem dX11_dayOn_6 : decode cX11_dayOn 6 = .ok (.iastore, 1) := by decide +kernel
theorem dX11_dayOn_7 : decode cX11_dayOn 7 = .ok (.aload_n 0, 1) := by decide +kernel
theorem dX11_dayOn_8 : decode cX11_dayOn 8 = .ok (.iconst 2, 1) := by decide +kernel
theorem dX11_dayOn_9 : decode cX11_dayOn 9 = .ok (.iload_n 1, 1) := by decide +kernel
theorem dX11_dayOn_10 : decode cX11_dayOn 10 = .ok (.iastore, 1) := by decide +kernel
theorem dX11_dayOn_11 : decode cX11_dayOn 11 = .ok (.aload_n 0, 1) := by decide +kernel
theorem dX11_dayOn_12 : decode cX11_dayOn 12 = .ok (.iconst 4, 1) := by decide +kernel
theorem dX11_dayOn_13 : decode cX11_dayOn 13 = .ok (.dup2, 1) := by decide +kernel
theorem dX11_dayOn_14 : decode cX11_dayOn 14 = .ok (.iaload, 1) := by decide +kernel
theorem dX11_dayOn_15 : decode cX11_dayOn 15 = .ok (.iload_n 1, 1) := by decide +kernel
theorem dX11_dayOn_16 : decode cX11_dayOn 16 = .ok (.iadd, 1) := by decide +kernel
theorem dX11_dayOn_17 : decode cX11_dayOn 17 = .ok (.iastore, 1) := by decide +kernel
theorem dX11_dayOn_18 : decode cX11_dayOn 18 = .ok (.iconst 0, 1) := by decide +kernel
theorem dX11_dayOn_19 : decode cX11_dayOn 19 = .ok (.istore_n 2, 1) := by decide +kernel
theorem dX11_dayOn_20 : decode cX11_dayOn 20 = .ok (.iload_n 2, 1) := by decide +kernel
theorem dX11_dayOn_21 : decode cX11_dayOn 21 = .ok (.aload_n 0, 1) := by decide +kernel
theorem dX11_dayOn_22 : decode cX11_dayOn 22 = .ok (.bipush 6, 2) := by decide +kernel
theorem dX11_dayOn_24 : decode cX11_dayOn 24 = .ok (.iaload, 1) := by decide +kernel
theorem dX11_dayOn_25 : decode cX11_dayOn 25 = .ok (.if_icmp .ge 57, 3) := by decide +kernel
theorem dX11_dayOn_28 : decode cX11_dayOn 28 = .ok (.bipush 26, 2) := by decide +kernel
theorem dX11_dayOn_30 : decode cX11_dayOn 30 = .ok (.iconst 4, 1) := by decide +kernel
theorem dX11_dayOn_31 : decode cX11_dayOn 31 = .ok (.iload_n 2, 1) := by decide +kernel
theorem dX11_dayOn_32 : decode cX11_dayOn 32 = .ok (.imul, 1) := by decide +kernel
theorem dX11_dayOn_33 : decode cX11_dayOn 33 = .ok (.iadd, 1) := by decide +kernel
theorem dX11_dayOn_34 : decode cX11_dayOn 34 = .ok (.istore_n 3, 1) := by decide +kernel
theorem dX11_dayOn_35 : decode cX11_dayOn 35 = .ok (.aload_n 0, 1) := by decide +kernel
theorem dX11_dayOn_36 : decode cX11_dayOn 36 = .ok (.iload_n 3, 1) := by decide +kernel
theorem dX11_dayOn_37 : decode cX11_dayOn 37 = .ok (.iconst 2, 1) := by decide +kernel
theorem dX11_dayOn_38 : decode cX11_dayOn 38 = .ok (.iadd, 1) := by decide +kernel
theorem dX11_dayOn_39 : decode cX11_dayOn 39 = .ok (.iload_n 1, 1) := by decide +kernel
theorem dX11_dayOn_40 : decode cX11_dayOn 40 = .ok (.iconst 1, 1) := by decide +kernel
theorem dX11_dayOn_41 : decode cX11_dayOn 41 = .ok (.if_icmp .ne 7, 3) := by decide +kernel
theorem dX11_dayOn_44 : decode cX11_dayOn 44 = .ok (.iconst 0, 1) := by decide +kernel
theorem dX11_dayOn_45 : decode cX11_dayOn 45 = .ok (.goto 8, 3) := by decide +kernel
theorem dX11_dayOn_48 : decode cX11_dayOn 48 = .ok (.aload_n 0, 1) := by decide +kernel
theorem dX11_dayOn_49 : decode cX11_dayOn 49 = .ok (.iload_n 3, 1) := by decide +kernel
theorem dX11_dayOn_50 : decode cX11_dayOn 50 = .ok (.iconst 1, 1) := by decide +kernel
theorem dX11_dayOn_51 : decode cX11_dayOn 51 = .ok (.iadd, 1) := by decide +kernel
theorem dX11_dayOn_52 : decode cX11_dayOn 52 = .ok (.iaload, 1) := by decide +kernel
theorem dX11_dayOn_53 : decode cX11_dayOn 53 = .ok (.iastore, 1) := by decide +kernel
theorem dX11_dayOn_54 : decode cX11_dayOn 54 = .ok (.aload_n 0, 1) := by decide +kernel
theorem dX11_dayOn_55 : decode cX11_dayOn 55 = .ok (.iload_n 3, 1) := by decide +kernel
theorem dX11_dayOn_56 : decode cX11_dayOn 56 = .ok (.iconst 3, 1) := by decide +kernel
theorem dX11_dayOn_57 : decode cX11_dayOn 57 = .ok (.iadd, 1) := by decide +kernel
theorem dX11_dayOn_58 : decode cX11_dayOn 58 = .ok (.dup2, 1) := by decide +kernel
theorem dX11_dayOn_59 : decode cX11_dayOn 59 = .ok (.iaload, 1) := by decide +kernel
theorem dX11_dayOn_60 : decode cX11_dayOn 60 = .ok (.iload_n 1, 1) := by decide +kernel
theorem dX11_dayOn_61 : decode cX11_dayOn 61 = .ok (.iconst 1, 1) := by decide +kernel
theorem dX11_dayOn_62 : decode cX11_dayOn 62 = .ok (.if_icmp .ne 11, 3) := by decide +kernel
theorem dX11_dayOn_65 : decode cX11_dayOn 65 = .ok (.iconst 2, 1) := by decide +kernel
theorem dX11_dayOn_66 : decode cX11_dayOn 66 = .ok (.aload_n 0, 1) := by decide +kernel
theorem dX11_dayOn_67 : decode cX11_dayOn 67 = .ok (.iload_n 3, 1) := by decide +kernel
theorem dX11_dayOn_68 : decode cX11_dayOn 68 = .ok (.iaload, 1) := by decide +kernel
theorem dX11_dayOn_69 : decode cX11_dayOn 69 = .ok (.imul, 1) := by decide +kernel
theorem dX11_dayOn_70 : decode cX11_dayOn 70 = .ok (.goto 4, 3) := by decide +kernel
theorem dX11_dayOn_73 : decode cX11_dayOn 73 = .ok (.iconst 0, 1) := by decide +kernel
theorem dX11_dayOn_74 : decode cX11_dayOn 74 = .ok (.iadd, 1) := by decide +kernel
theorem dX11_dayOn_75 : decode cX11_dayOn 75 = .ok (.iastore, 1) := by decide +kernel
theorem dX11_dayOn_76 : decode cX11_dayOn 76 = .ok (.iinc 2 1, 3) := by decide +kernel
theorem dX11_dayOn_79 : decode cX11_dayOn 79 = .ok (.goto (-59), 3) := by decide +kernel
theorem dX11_dayOn_82 : decode cX11_dayOn 82 = .ok (.aload_n 0, 1) := by decide +kernel
theorem dX11_dayOn_83 : decode cX11_dayOn 83 = .ok (.iconst 1, 1) := by decide +kernel
theorem dX11_dayOn_84 : decode cX11_dayOn 84 = .ok (.iaload, 1) := by decide +kernel
theorem dX11_dayOn_85 : decode cX11_dayOn 85 = .ok (.ireturn, 1) := by decide +kernel
theorem dX11_recutCourse_0 : decode cX11_recutCourse 0 = .ok (.aload_n 0, 1) := by decide +kernel
theorem dX11_recutCourse_1 : decode cX11_recutCourse 1 = .ok (.bipush 50, 2) := by decide +kernel
theorem dX11_recutCourse_3 : decode cX11_recutCourse 3 = .ok (.bipush 6, 2) := by decide +kernel
theorem dX11_recutCourse_5 : decode cX11_recutCourse 5 = .ok (.iload_n 1, 1) := by decide +kernel
theorem dX11_recutCourse_6 : decode cX11_recutCourse 6 = .ok (.imul, 1) := by decide +kernel
theorem dX11_recutCourse_7 : decode cX11_recutCourse 7 = .ok (.iadd, 1) := by decide +kernel
theorem dX11_recutCourse_8 : decode cX11_recutCourse 8 = .ok (.iaload, 1) := by decide +kernel
theorem dX11_recutCourse_9 : decode cX11_recutCourse 9 = .ok (.istore_n 2, 1) := by decide +kernel
theorem dX11_recutCourse_10 : decode cX11_recutCourse 10 = .ok (.bipush (-9), 2) := by decide +kernel
theorem dX11_recutCourse_12 : decode cX11_recutCourse 12 = .ok (.istore_n 3, 1) := by decide +kernel
theorem dX11_recutCourse_13 : decode cX11_recutCourse 13 = .ok (.iconst 0, 1) := by decide +kernel
theorem dX11_recutCourse_14 : decode cX11_recutCourse 14 = .ok (.istore 4, 2) := by decide +kernel
theorem dX11_recutCourse_16 : decode cX11_recutCourse 16 = .ok (.iload 4, 2) := by decide +kernel
theorem dX11_recutCourse_18 : decode cX11_recutCourse 18 = .ok (.aload_n 0, 1) := by decide +kernel
theorem dX11_recutCourse_19 : decode cX11_recutCourse 19 = .ok (.iconst 5, 1) := by decide +kernel
theorem dX11_recutCourse_20 : decode cX11_recutCourse 20 = .ok (.iaload, 1) := by decide +kernel
theorem dX11_recutCourse_21 : decode cX11_recutCourse 21 = .ok (.if_icmp .ge 86, 3) := by decide +kernel
theorem dX11_recutCourse_24 : decode cX11_recutCourse 24 = .ok (.aload_n 0, 1) := by decide +kernel
theorem dX11_recutCourse_25 : decode cX11_recutCourse 25 = .ok (.bipush 50, 2) := by decide +kernel
theorem dX11_recutCourse_27 : decode cX11_recutCourse 27 = .ok (.bipush 6, 2) := by decide +kernel
theorem dX11_recutCourse_29 : decode cX11_recutCourse 29 = .ok (.iload_n 1, 1) := by decide +kernel
theorem dX11_recutCourse_30 : decode cX11_recutCourse 30 = .ok (.imul, 1) := by decide +kernel
theorem dX11_recutCourse_31 : decode cX11_recutCourse 31 = .ok (.iadd, 1) := by decide +kernel
theorem dX11_recutCourse_32 : decode cX11_recutCourse 32 = .ok (.iconst 3, 1) := by decide +kernel
theorem dX11_recutCourse_33 : decode cX11_recutCourse 33 = .ok (.iadd, 1) := by decide +kernel
theorem dX11_recutCourse_34 : decode cX11_recutCourse 34 = .ok (.iaload, 1) := by decide +kernel
theorem dX11_recutCourse_35 : decode cX11_recutCourse 35 = .ok (.iconst 2, 1) := by decide +kernel
theorem dX11_recutCourse_36 : decode cX11_recutCourse 36 = .ok (.if_icmp .ne 30, 3) := by decide +kernel
theorem dX11_recutCourse_39 : decode cX11_recutCourse 39 = .ok (.aload_n 0, 1) := by decide +kernel
theorem dX11_recutCourse_40 : decode cX11_recutCourse 40 = .ok (.iload 4, 2) := by decide +kernel
theorem dX11_recutCourse_42 : decode cX11_recutCourse 42 = .ok (.invokestatic 61, 3) := by decide +kernel
theorem dX11_recutCourse_45 : decode cX11_recutCourse 45 = .ok (.aload_n 0, 1) := by decide +kernel
theorem dX11_recutCourse_46 : decode cX11_recutCourse 46 = .ok (.iload_n 2, 1) := by decide +kernel
theorem dX11_recutCourse_47 : decode cX11_recutCourse 47 = .ok (.invokestatic 61, 3) := by decide +kernel
theorem dX11_recutCourse_50 : decode cX11_recutCourse 50 = .ok (.if_icmp .ge 16, 3) := by decide +kernel
theorem dX11_recutCourse_53 : decode cX11_recutCourse 53 = .ok (.aload_n 0, 1) := by decide +kernel
theorem dX11_recutCourse_54 : decode cX11_recutCourse 54 = .ok (.iload 4, 2) := by decide +kernel
theorem dX11_recutCourse_56 : decode cX11_recutCourse 56 = .ok (.invokestatic 68, 3) := by decide +kernel
theorem dX11_recutCourse_59 : decode cX11_recutCourse 59 = .ok (.ifCond .le 7, 3) := by decide +kernel
theorem dX11_recutCourse_62 : decode cX11_recutCourse 62 = .ok (.iconst 1, 1) := by decide +kernel
theorem dX11_recutCourse_63 : decode cX11_recutCourse 63 = .ok (.goto 4, 3) := by decide +kernel
theorem dX11_recutCourse_66 : decode cX11_recutCourse 66 = .ok (.iconst 0, 1) := by decide +kernel
theorem dX11_recutCourse_67 : decode cX11_recutCourse 67 = .ok (.istore 5, 2) := by decide +kernel
theorem dX11_recutCourse_69 : decode cX11_recutCourse 69 = .ok (.iload 5, 2) := by decide +kernel
theorem dX11_recutCourse_71 : decode cX11_recutCourse 71 = .ok (.ifCond .eq 28, 3) := by decide +kernel
theorem dX11_recutCourse_74 : decode cX11_recutCourse 74 = .ok (.iload_n 3, 1) := by decide +kernel
theorem dX11_recutCourse_75 : decode cX11_recutCourse 75 = .ok (.bipush (-9), 2) := by decide +kernel
theorem dX11_recutCourse_77 : decode cX11_recutCourse 77 = .ok (.if_icmp .eq 17, 3) := by decide +kernel
theorem dX11_recutCourse_80 : decode cX11_recutCourse 80 = .ok (.aload_n 0, 1) := by decide +kernel
theorem dX11_recutCourse_81 : decode cX11_recutCourse 81 = .ok (.iload 4, 2) := by decide +kernel
theorem dX11_recutCourse_83 : decode cX11_recutCourse 83 = .ok (.invokestatic 61, 3) := by decide +kernel
theorem dX11_recutCourse_86 : decode cX11_recutCourse 86 = .ok (.aload_n 0, 1) := by decide +kernel
theorem dX11_recutCourse_87 : decode cX11_recutCourse 87 = .ok (.iload_n 3, 1) := by decide +kernel
theorem dX11_recutCourse_88 : decode cX11_recutCourse 88 = .ok (.invokestatic 61, 3) := by decide +kernel
theorem dX11_recutCourse_91 : decode cX11_recutCourse 91 = .ok (.if_icmp .le 8, 3) := by decide +kernel
theorem dX11_recutCourse_94 : decode cX11_recutCourse 94 = .ok (.iload 4, 2) := by decide +kernel
theorem dX11_recutCourse_96 : decode cX11_recutCourse 96 = .ok (.goto 4, 3) := by decide +kernel
theorem dX11_recutCourse_99 : decode cX11_recutCourse 99 = .ok (.iload_n 3, 1) := by decide +kernel
theorem dX11_recutCourse_100 : decode cX11_recutCourse 100 = .ok (.istore_n 3, 1) := by decide +kernel
theorem dX11_recutCourse_101 : decode cX11_recutCourse 101 = .ok (.iinc 4 1, 3) := by decide +kernel
theorem dX11_recutCourse_104 : decode cX11_recutCourse 104 = .ok (.goto (-88), 3) := by decide +kernel
theorem dX11_recutCourse_107 : decode cX11_recutCourse 107 = .ok (.iload_n 3, 1) := by decide +kernel
theorem dX11_recutCourse_108 : decode cX11_recutCourse 108 = .ok (.ireturn, 1) := by decide +kernel
theorem dX11_append_0 : decode cX11_append 0 = .ok (.aload_n 0, 1) := by decide +kernel
theorem dX11_append_1 : decode cX11_append 1 = .ok (.iload_n 1, 1) := by decide +kernel
theorem dX11_append_2 : decode cX11_append 2 = .ok (.i2l, 1) := by decide +kernel
theorem dX11_append_3 : decode cX11_append 3 = .ok (.lconst 0, 1) := by decide +kernel
theorem dX11_append_4 : decode cX11_append 4 = .ok (.ldc2_w 71, 3) := by decide +kernel
theorem dX11_append_7 : decode cX11_append 7 = .ok (.invokestatic 39, 3) := by decide +kernel
theorem dX11_append_10 : decode cX11_append 10 = .ok (.ifCond .ne 7, 3) := by decide +kernel
theorem dX11_append_13 : decode cX11_append 13 = .ok (.iconst 1, 1) := by decide +kernel
theorem dX11_append_14 : decode cX11_append 14 = .ok (.goto 17, 3) := by decide +kernel
theorem dX11_append_17 : decode cX11_append 17 = .ok (.aload_n 0, 1) := by decide +kernel
theorem dX11_append_18 : decode cX11_append 18 = .ok (.getfield 73, 3) := by decide +kernel
theorem dX11_append_21 : decode cX11_append 21 = .ok (.bipush 80, 2) := by decide +kernel
theorem dX11_append_23 : decode cX11_append 23 = .ok (.if_icmp .ne 7, 3) := by decide +kernel
theorem dX11_append_26 : decode cX11_append 26 = .ok (.iconst 2, 1) := by decide +kernel
theorem dX11_append_27 : decode cX11_append 27 = .ok (.goto 4, 3) := by decide +kernel
theorem dX11_append_30 : decode cX11_append 30 = .ok (.iconst 0, 1) := by decide +kernel
theorem dX11_append_31 : decode cX11_append 31 = .ok (.invokevirtual 76, 3) := by decide +kernel
theorem dX11_append_34 : decode cX11_append 34 = .ok (.ifCond .eq 5, 3) := by decide +kernel
theorem dX11_append_37 : decode cX11_append 37 = .ok (.iconst 0, 1) := by decide +kernel
theorem dX11_append_38 : decode cX11_append 38 = .ok (.ireturn, 1) := by decide +kernel
theorem dX11_append_39 : decode cX11_append 39 = .ok (.aload_n 0, 1) := by decide +kernel
theorem dX11_append_40 : decode cX11_append 40 = .ok (.getfield 7, 3) := by decide +kernel
theorem dX11_append_43 : decode cX11_append 43 = .ok (.aload_n 0, 1) := by decide +kernel
theorem dX11_append_44 : decode cX11_append 44 = .ok (.getfield 73, 3) := by decide +kernel
theorem dX11_append_47 : decode cX11_append 47 = .ok (.iload_n 1, 1) := by decide +kernel
theorem dX11_append_48 : decode cX11_append 48 = .ok (.iastore, 1) := by decide +kernel
theorem dX11_append_49 : decode cX11_append 49 = .ok (.aload_n 0, 1) := by decide +kernel
theorem dX11_append_50 : decode cX11_append 50 = .ok (.dup, 1) := by decide +kernel
theorem dX11_append_51 : decode cX11_append 51 = .ok (.getfield 73, 3) := by decide +kernel
theorem dX11_append_54 : decode cX11_append 54 = .ok (.iconst 1, 1) := by decide +kernel
theorem dX11_append_55 : decode cX11_append 55 = .ok (.iadd, 1) := by decide +kernel
theorem dX11_append_56 : decode cX11_append 56 = .ok (.putfield 73, 3) := by decide +kernel
theorem dX11_append_59 : decode cX11_append 59 = .ok (.aload_n 0, 1) := by decide +kernel
theorem dX11_append_60 : decode cX11_append 60 = .ok (.getfield 73, 3) := by decide +kernel
theorem dX11_append_63 : decode cX11_append 63 = .ok (.ireturn, 1) := by decide +kernel
theorem dX11_clearText_0 : decode cX11_clearText 0 = .ok (.aload_n 0, 1) := by decide +kernel
theorem dX11_clearText_1 : decode cX11_clearText 1 = .ok (.iconst 0, 1) := by decide +kernel
theorem dX11_clearText_2 : decode cX11_clearText 2 = .ok (.putfield 35, 3) := by decide +kernel
theorem dX11_clearText_5 : decode cX11_clearText 5 = .ok (.aload_n 0, 1) := by decide +kernel
theorem dX11_clearText_6 : decode cX11_clearText 6 = .ok (.getfield 73, 3) := by decide +kernel
theorem dX11_clearText_9 : decode cX11_clearText 9 = .ok (.istore_n 1, 1) := by decide +kernel
theorem dX11_clearText_10 : decode cX11_clearText 10 = .ok (.aload_n 0, 1) := by decide +kernel
theorem dX11_clearText_11 : decode cX11_clearText 11 = .ok (.iconst 0, 1) := by decide +kernel
theorem dX11_clearText_12 : decode cX11_clearText 12 = .ok (.putfield 73, 3) := by decide +kernel
theorem dX11_clearText_15 : decode cX11_clearText 15 = .ok (.iload_n 1, 1) := by decide +kernel
theorem dX11_clearText_16 : decode cX11_clearText 16 = .ok (.ireturn, 1) := by decide +kernel
theorem dX11_eat_0 : decode cX11_eat 0 = .ok (.aload_n 0, 1) := by decide +kernel
theorem dX11_eat_1 : decode cX11_eat 1 = .ok (.getfield 80, 3) := by decide +kernel
theorem dX11_eat_4 : decode cX11_eat 4 = .ok (.aload_n 0, 1) := by decide +kernel
theorem dX11_eat_5 : decode cX11_eat 5 = .ok (.getfield 73, 3) := by decide +kernel
theorem dX11_eat_8 : decode cX11_eat 8 = .ok (.if_icmp .ge 20, 3) := by decide +kernel
theorem dX11_eat_11 : decode cX11_eat 11 = .ok (.aload_n 0, 1) := by decide +kernel
theorem dX11_eat_12 : decode cX11_eat 12 = .ok (.getfield 7, 3) := by decide +kernel
theorem dX11_eat_15 : decode cX11_eat 15 = .ok (.aload_n 0, 1) := by decide +kernel
theorem dX11_eat_16 : decode cX11_eat 16 = .ok (.getfield 80, 3) := by decide +kernel
theorem dX11_eat_19 : decode cX11_eat 19 = .ok (.iaload, 1) := by decide +kernel
theorem dX11_eat_20 : decode cX11_eat 20 = .ok (.iload_n 1, 1) := by decide +kernel
theorem dX11_eat_21 : decode cX11_eat 21 = .ok (.if_icmp .ne 7, 3) := by decide +kernel
theorem dX11_eat_24 : decode cX11_eat 24 = .ok (.iconst 1, 1) := by decide +kernel
theorem dX11_eat_25 : decode cX11_eat 25 = .ok (.goto 4, 3) := by decide +kernel
theorem dX11_eat_28 : decode cX11_eat 28 = .ok (.iconst 0, 1) := by decide +kernel
theorem dX11_eat_29 : decode cX11_eat 29 = .ok (.istore_n 2, 1) := by decide +kernel
theorem dX11_eat_30 : decode cX11_eat 30 = .ok (.aload_n 0, 1) := by decide +kernel
theorem dX11_eat_31 : decode cX11_eat 31 = .ok (.dup, 1) := by decide +kernel
theorem dX11_eat_32 : decode cX11_eat 32 = .ok (.getfield 80, 3) := by decide +kernel
theorem dX11_eat_35 : decode cX11_eat 35 = .ok (.iload_n 2, 1) := by decide +kernel
theorem dX11_eat_36 : decode cX11_eat 36 = .ok (.ifCond .eq 7, 3) := by decide +kernel
theorem dX11_eat_39 : decode cX11_eat 39 = .ok (.iconst 1, 1) := by decide +kernel
theorem dX11_eat_40 : decode cX11_eat 40 = .ok (.goto 4, 3) := by decide +kernel
theorem dX11_eat_43 : decode cX11_eat 43 = .ok (.iconst 0, 1) := by decide +kernel
theorem dX11_eat_44 : decode cX11_eat 44 = .ok (.iadd, 1) := by decide +kernel
theorem dX11_eat_45 : decode cX11_eat 45 = .ok (.putfield 80, 3) := by decide +kernel
theorem dX11_eat_48 : decode cX11_eat 48 = .ok (.iload_n 2, 1) := by decide +kernel
theorem dX11_eat_49 : decode cX11_eat 49 = .ok (.ireturn, 1) := by decide +kernel
theorem dX11_digit_0 : decode cX11_digit 0 = .ok (.aload_n 0, 1) := by decide +kernel
theorem dX11_digit_1 : decode cX11_digit 1 = .ok (.getfield 80, 3) := by decide +kernel
theorem dX11_digit_4 : decode cX11_digit 4 = .ok (.aload_n 0, 1) := by decide +kernel
theorem dX11_digit_5 : decode cX11_digit 5 = .ok (.getfield 73, 3) := by decide +kernel
theorem dX11_digit_8 : decode cX11_digit 8 = .ok (.if_icmp .ge 18, 3) := by decide +kernel
theorem dX11_digit_11 : decode cX11_digit 11 = .ok (.aload_n 0, 1) := by decide +kernel
theorem dX11_digit_12 : decode cX11_digit 12 = .ok (.getfield 7, 3) := by decide +kernel
theorem dX11_digit_15 : decode cX11_digit 15 = .ok (.aload_n 0, 1) := by decide +kernel
theorem dX11_digit_16 : decode cX11_digit 16 = .ok (.getfield 80, 3) := by decide +kernel
theorem dX11_digit_19 : decode cX11_digit 19 = .ok (.iaload, 1) := by decide +kernel
theorem dX11_digit_20 : decode cX11_digit 20 = .ok (.bipush 48, 2) := by decide +kernel
theorem dX11_digit_22 : decode cX11_digit 22 = .ok (.isub, 1) := by decide +kernel
theorem dX11_digit_23 : decode cX11_digit 23 = .ok (.goto 5, 3) := by decide +kernel
theorem dX11_digit_26 : decode cX11_digit 26 = .ok (.bipush (-9), 2) := by decide +kernel
theorem dX11_digit_28 : decode cX11_digit 28 = .ok (.istore_n 3, 1) := by decide +kernel
theorem dX11_digit_29 : decode cX11_digit 29 = .ok (.iload_n 3, 1) := by decide +kernel
theorem dX11_digit_30 : decode cX11_digit 30 = .ok (.i2l, 1) := by decide +kernel
theorem dX11_digit_31 : decode cX11_digit 31 = .ok (.iload_n 1, 1) := by decide +kernel
theorem dX11_digit_32 : decode cX11_digit 32 = .ok (.i2l, 1) := by decide +kernel
theorem dX11_digit_33 : decode cX11_digit 33 = .ok (.iload_n 2, 1) := by decide +kernel
theorem dX11_digit_34 : decode cX11_digit 34 = .ok (.i2l, 1) := by decide +kernel
theorem dX11_digit_35 : decode cX11_digit 35 = .ok (.invokestatic 39, 3) := by decide +kernel
theorem dX11_digit_38 : decode cX11_digit 38 = .ok (.ifCond .ne 6, 3) := by decide +kernel
theorem dX11_digit_41 : decode cX11_digit 41 = .ok (.bipush (-9), 2) := by decide +kernel
theorem dX11_digit_43 : decode cX11_digit 43 = .ok (.ireturn, 1) := by decide +kernel
theorem dX11_digit_44 : decode cX11_digit 44 = .ok (.aload_n 0, 1) := by decide +kernel
theorem dX11_digit_45 : decode cX11_digit 45 = .ok (.dup, 1) := by decide +kernel
theorem dX11_digit_46 : decode cX11_digit 46 = .ok (.getfield 80, 3) := by decide +kernel
theorem dX11_digit_49 : decode cX11_digit 49 = .ok (.iconst 1, 1) := by decide +kernel
theorem dX11_digit_50 : decode cX11_digit 50 = .ok (.iadd, 1) := by decide +kernel
theorem dX11_digit_51 : decode cX11_digit 51 = .ok (.putfield 80, 3) := by decide +kernel
theorem dX11_digit_54 : decode cX11_digit 54 = .ok (.iload_n 3, 1) := by decide +kernel
theorem dX11_digit_55 : decode cX11_digit 55 = .ok (.ireturn, 1) := by decide +kernel
theorem dX11_readCourse_0 : decode cX11_readCourse 0 = .ok (.bipush 8, 2) := by decide +kernel
theorem dX11_readCourse_2 : decode cX11_readCourse 2 = .ok (.iconst 3, 1) := by decide +kernel
theorem dX11_readCourse_3 : decode cX11_readCourse 3 = .ok (.aload_n 0, 1) := by decide +kernel
theorem dX11_readCourse_4 : decode cX11_readCourse 4 = .ok (.getfield 13, 3) := by decide +kernel
theorem dX11_readCourse_7 : decode cX11_readCourse 7 = .ok (.iconst 5, 1) := by decide +kernel
theorem dX11_readCourse_8 : decode cX11_readCourse 8 = .ok (.iaload, 1) := by decide +kernel
theorem dX11_readCourse_9 : decode cX11_readCourse 9 = .ok (.imul, 1) := by decide +kernel
theorem dX11_readCourse_10 : decode cX11_readCourse 10 = .ok (.iadd, 1) := by decide +kernel
theorem dX11_readCourse_11 : decode cX11_readCourse 11 = .ok (.istore_n 1, 1) := by decide +kernel
theorem dX11_readCourse_12 : decode cX11_readCourse 12 = .ok (.aload_n 0, 1) := by decide +kernel
theorem dX11_readCourse_13 : decode cX11_readCourse 13 = .ok (.iconst 1, 1) := by decide +kernel
theorem dX11_readCourse_14 : decode cX11_readCourse 14 = .ok (.bipush 9, 2) := by decide +kernel
theorem dX11_readCourse_16 : decode cX11_readCourse 16 = .ok (.invokevirtual 83, 3) := by decide +kernel
theorem dX11_readCourse_19 : decode cX11_readCourse 19 = .ok (.istore_n 2, 1) := by decide +kernel
theorem dX11_readCourse_20 : decode cX11_readCourse 20 = .ok (.iload_n 2, 1) := by decide +kernel
theorem dX11_readCourse_21 : decode cX11_readCourse 21 = .ok (.bipush (-9), 2) := by decide +kernel
theorem dX11_readCourse_23 : decode cX11_readCourse 23 = .ok (.if_icmp .ne 8, 3) := by decide +kernel
theorem dX11_readCourse_26 : decode cX11_readCourse 26 = .ok (.bipush (-9), 2) := by decide +kernel
theorem dX11_readCourse_28 : decode cX11_readCourse 28 = .ok (.goto 10, 3) := by decide +kernel
theorem dX11_readCourse_31 : decode cX11_readCourse 31 = .ok (.aload_n 0, 1) := by decide +kernel
theorem dX11_readCourse_32 : decode cX11_readCourse 32 = .ok (.iconst 1, 1) := by decide +kernel
theorem dX11_readCourse_33 : decode cX11_readCourse 33 = .ok (.bipush 6, 2) := by decide +kernel
theorem dX11_readCourse_35 : decode cX11_readCourse 35 = .ok (.invokevirtual 83, 3) := by decide +kernel
theorem dX11_readCourse_38 : decode cX11_readCourse 38 = .ok (.istore_n 3, 1) := by decide +kernel
theorem dX11_readCourse_39 : decode cX11_readCourse 39 = .ok (.iload_n 3, 1) := by decide +kernel
theorem dX11_readCourse_40 : decode cX11_readCourse 40 = .ok (.bipush (-9), 2) := by decide +kernel
theorem dX11_readCourse_42 : decode cX11_readCourse 42 = .ok (.if_icmp .ne 8, 3) := by decide +kernel
theorem dX11_readCourse_45 : decode cX11_readCourse 45 = .ok (.bipush (-9), 2) := by decide +kernel
theorem dX11_readCourse_47 : decode cX11_readCourse 47 = .ok (.goto 10, 3) := by decide +kernel
theorem dX11_readCourse_50 : decode cX11_readCourse 50 = .ok (.aload_n 0, 1) := by decide +kernel
theorem dX11_readCourse_51 : decode cX11_readCourse 51 = .ok (.iconst 1, 1) := by decide +kernel
theorem dX11_readCourse_52 : decode cX11_readCourse 52 = .ok (.bipush 9, 2) := by decide +kernel
theorem dX11_readCourse_54 : decode cX11_readCourse 54 = .ok (.invokevirtual 83, 3) := by decide +kernel
theorem dX11_readCourse_57 : decode cX11_readCourse 57 = .ok (.istore 4, 2) := by decide +kernel
theorem dX11_readCourse_59 : decode cX11_readCourse 59 = .ok (.iload 4, 2) := by decide +kernel
theorem dX11_readCourse_61 : decode cX11_readCourse 61 = .ok (.bipush (-9), 2) := by decide +kernel
theorem dX11_readCourse_63 : decode cX11_readCourse 63 = .ok (.if_icmp .ne 5, 3) := by decide +kernel
theorem dX11_readCourse_66 : decode cX11_readCourse 66 = .ok (.iconst 0, 1) := by decide +kernel
theorem dX11_readCourse_67 : decode cX11_readCourse 67 = .ok (.ireturn, 1) := by decide +kernel
theorem dX11_readCourse_68 : decode cX11_readCourse 68 = .ok (.aload_n 0, 1) := by decide +kernel
theorem dX11_readCourse_69 : decode cX11_readCourse 69 = .ok (.getfield 13, 3) := by decide +kernel
theorem dX11_readCourse_72 : decode cX11_readCourse 72 = .ok (.iload_n 1, 1) := by decide +kernel
theorem dX11_readCourse_73 : decode cX11_readCourse 73 = .ok (.iload_n 2, 1) := by decide +kernel
theorem dX11_readCourse_74 : decode cX11_readCourse 74 = .ok (.iastore, 1) := by decide +kernel
theorem dX11_readCourse_75 : decode cX11_readCourse 75 = .ok (.aload_n 0, 1) := by decide +kernel
theorem dX11_readCourse_76 : decode cX11_readCourse 76 = .ok (.getfield 13, 3) := by decide +kernel
theorem dX11_readCourse_79 : decode cX11_readCourse 79 = .ok (.iload_n 1, 1) := by decide +kernel
theorem dX11_readCourse_80 : decode cX11_readCourse 80 = .ok (.iconst 1, 1) := by decide +kernel
theorem dX11_readCourse_81 : decode cX11_readCourse 81 = .ok (.iadd, 1) := by decide +kernel
theorem dX11_readCourse_82 : decode cX11_readCourse 82 = .ok (.iload_n 3, 1) := by decide +kernel
theorem dX11_readCourse_83 : decode cX11_readCourse 83 = .ok (.iastore, 1) := by decide +kernel
theorem dX11_readCourse_84 : decode cX11_readCourse 84 = .ok (.aload_n 0, 1) := by decide +kernel
theorem dX11_readCourse_85 : decode cX11_readCourse 85 = .ok (.getfield 13, 3) := by decide +kernel
theorem dX11_readCourse_88 : decode cX11_readCourse 88 = .ok (.iload_n 1, 1) := by decide +kernel
theorem dX11_readCourse_89 : decode cX11_readCourse 89 = .ok (.iconst 2, 1) := by decide +kernel
theorem dX11_readCourse_90 : decode cX11_readCourse 90 = .ok (.iadd, 1) := by decide +kernel
theorem dX11_readCourse_91 : decode cX11_readCourse 91 = .ok (.iload 4, 2) := by decide +kernel
theorem dX11_readCourse_93 : decode cX11_readCourse 93 = .ok (.iastore, 1) := by decide +kernel
theorem dX11_readCourse_94 : decode cX11_readCourse 94 = .ok (.aload_n 0, 1) := by decide +kernel
theorem dX11_readCourse_95 : decode cX11_readCourse 95 = .ok (.getfield 13, 3) := by decide +kernel
theorem dX11_readCourse_98 : decode cX11_readCourse 98 = .ok (.iconst 5, 1) := by decide +kernel
theorem dX11_readCourse_99 : decode cX11_readCourse 99 = .ok (.dup2, 1) := by decide +kernel
theorem dX11_readCourse_100 : decode cX11_readCourse 100 = .ok (.iaload, 1) := by decide +kernel
theorem dX11_readCourse_101 : decode cX11_readCourse 101 = .ok (.iconst 1, 1) := by decide +kernel
theorem dX11_readCourse_102 : decode cX11_readCourse 102 = .ok (.iadd, 1) := by decide +kernel
theorem dX11_readCourse_103 : decode cX11_readCourse 103 = .ok (.iastore, 1) := by decide +kernel
theorem dX11_readCourse_104 : decode cX11_readCourse 104 = .ok (.iconst 1, 1) := by decide +kernel
theorem dX11_readCourse_105 : decode cX11_readCourse 105 = .ok (.ireturn, 1) := by decide +kernel
theorem dX11_readMason_0 : decode cX11_readMason 0 = .ok (.bipush 26, 2) := by decide +kernel
theorem dX11_readMason_2 : decode cX11_readMason 2 = .ok (.iconst 4, 1) := by decide +kernel
theorem dX11_readMason_3 : decode cX11_readMason 3 = .ok (.aload_n 0, 1) := by decide +kernel
theorem dX11_readMason_4 : decode cX11_readMason 4 = .ok (.getfield 13, 3) := by decide +kernel
theorem dX11_readMason_7 : decode cX11_readMason 7 = .ok (.bipush 6, 2) := by decide +kernel
theorem dX11_readMason_9 : decode cX11_readMason 9 = .ok (.iaload, 1) := by decide +kernel
theorem dX11_readMason_10 : decode cX11_readMason 10 = .ok (.imul, 1) := by decide +kernel
theorem dX11_readMason_11 : decode cX11_readMason 11 = .ok (.iadd, 1) := by decide +kernel
theorem dX11_readMason_12 : decode cX11_readMason 12 = .ok (.istore_n 1, 1) := by decide +kernel
theorem dX11_readMason_13 : decode cX11_readMason 13 = .ok (.aload_n 0, 1) := by decide +kernel
theorem dX11_readMason_14 : decode cX11_readMason 14 = .ok (.iconst 1, 1) := by decide +kernel
theorem dX11_readMason_15 : decode cX11_readMason 15 = .ok (.bipush 9, 2) := by decide +kernel
theorem dX11_readMason_17 : decode cX11_readMason 17 = .ok (.invokevirtual 83, 3) := by decide +kernel
theorem dX11_readMason_20 : decode cX11_readMason 20 = .ok (.istore_n 2, 1) := by decide +kernel
theorem dX11_readMason_21 : decode cX11_readMason 21 = .ok (.iload_n 2, 1) := by decide +kernel
theorem dX11_readMason_22 : decode cX11_readMason 22 = .ok (.bipush (-9), 2) := by decide +kernel
theorem dX11_readMason_24 : decode cX11_readMason 24 = .ok (.if_icmp .ne 8, 3) := by decide +kernel
theorem dX11_readMason_27 : decode cX11_readMason 27 = .ok (.bipush (-9), 2) := by decide +kernel
theorem dX11_readMason_29 : decode cX11_readMason 29 = .ok (.goto 9, 3) := by decide +kernel
theorem dX11_readMason_32 : decode cX11_readMason 32 = .ok (.aload_n 0, 1) := by decide +kernel
theorem dX11_readMason_33 : decode cX11_readMason 33 = .ok (.iconst 0, 1) := by decide +kernel
theorem dX11_readMason_34 : decode cX11_readMason 34 = .ok (.iconst 1, 1) := by decide +kernel
theorem dX11_readMason_35 : decode cX11_readMason 35 = .ok (.invokevirtual 83, 3) := by decide +kernel
theorem dX11_readMason_38 : decode cX11_readMason 38 = .ok (.istore_n 3, 1) := by decide +kernel
theorem dX11_readMason_39 : decode cX11_readMason 39 = .ok (.iload_n 3, 1) := by decide +kernel
theorem dX11_readMason_40 : decode cX11_readMason 40 = .ok (.bipush (-9), 2) := by decide +kernel
theorem dX11_readMason_42 : decode cX11_readMason 42 = .ok (.if_icmp .ne 8, 3) := by decide +kernel
theorem dX11_readMason_45 : decode cX11_readMason 45 = .ok (.bipush (-9), 2) := by decide +kernel
theorem dX11_readMason_47 : decode cX11_readMason 47 = .ok (.goto 26, 3) := by decide +kernel
theorem dX11_readMason_50 : decode cX11_readMason 50 = .ok (.aload_n 0, 1) := by decide +kernel
theorem dX11_readMason_51 : decode cX11_readMason 51 = .ok (.iload_n 3, 1) := by decide +kernel
theorem dX11_readMason_52 : decode cX11_readMason 52 = .ok (.ifCond .ne 7, 3) := by decide +kernel
theorem dX11_readMason_55 : decode cX11_readMason 55 = .ok (.iconst 1, 1) := by decide +kernel
theorem dX11_readMason_56 : decode cX11_readMason 56 = .ok (.goto 4, 3) := by decide +kernel
theorem dX11_readMason_59 : decode cX11_readMason 59 = .ok (.iconst 0, 1) := by decide +kernel
theorem dX11_readMason_60 : decode cX11_readMason 60 = .ok (.iload_n 3, 1) := by decide +kernel
theorem dX11_readMason_61 : decode cX11_readMason 61 = .ok (.ifCond .ne 8, 3) := by decide +kernel
theorem dX11_readMason_64 : decode cX11_readMason 64 = .ok (.bipush 9, 2) := by decide +kernel
theorem dX11_readMason_66 : decode cX11_readMason 66 = .ok (.goto 4, 3) := by decide +kernel
theorem dX11_readMason_69 : decode cX11_readMason 69 = .ok (.iconst 2, 1) := by decide +kernel
theorem dX11_readMason_70 : decode cX11_readMason 70 = .ok (.invokevirtual 83, 3) := by decide +kernel
theorem dX11_readMason_73 : decode cX11_readMason 73 = .ok (.istore 4, 2) := by decide +kernel
theorem dX11_readMason_75 : decode cX11_readMason 75 = .ok (.iload 4, 2) := by decide +kernel
theorem dX11_readMason_77 : decode cX11_readMason 77 = .ok (.bipush (-9), 2) := by decide +kernel
theorem dX11_readMason_79 : decode cX11_readMason 79 = .ok (.if_icmp .ne 5, 3) := by decide +kernel
theorem dX11_readMason_82 : decode cX11_readMason 82 = .ok (.iconst 0, 1) := by decide +kernel
theorem dX11_readMason_83 : decode cX11_readMason 83 = .ok (.ireturn, 1) := by decide +kernel
theorem dX11_readMason_84 : decode cX11_readMason 84 = .ok (.aload_n 0, 1) := by decide +kernel
theorem dX11_readMason_85 : decode cX11_readMason 85 = .ok (.getfield 13, 3) := by decide +kernel
theorem dX11_readMason_88 : decode cX11_readMason 88 = .ok (.iload_n 1, 1) := by decide +kernel
theorem dX11_readMason_89 : decode cX11_readMason 89 = .ok (.iload_n 2, 1) := by decide +kernel
theorem dX11_readMason_90 : decode cX11_readMason 90 = .ok (.iastore, 1) := by decide +kernel
theorem dX11_readMason_91 : decode cX11_readMason 91 = .ok (.aload_n 0, 1) := by decide +kernel
theorem dX11_readMason_92 : decode cX11_readMason 92 = .ok (.getfield 13, 3) := by decide +kernel
theorem dX11_readMason_95 : decode cX11_readMason 95 = .ok (.iload_n 1, 1) := by decide +kernel
theorem dX11_readMason_96 : decode cX11_readMason 96 = .ok (.iconst 1, 1) := by decide +kernel
theorem dX11_readMason_97 : decode cX11_readMason 97 = .ok (.iadd, 1) := by decide +kernel
theorem dX11_readMason_98 : decode cX11_readMason 98 = .ok (.bipush 10, 2) := by decide +kernel
theorem dX11_readMason_100 : decode cX11_readMason 100 = .ok (.iload_n 3, 1) := by decide +kernel
theorem dX11_readMason_101 : decode cX11_readMason 101 = .ok (.imul, 1) := by decide +kernel
theorem dX11_readMason_102 : decode cX11_readMason 102 = .ok (.iload 4, 2) := by decide +kernel
theorem dX11_readMason_104 : decode cX11_readMason 104 = .ok (.iadd, 1) := by decide +kernel
theorem dX11_readMason_105 : decode cX11_readMason 105 = .ok (.iastore, 1) := by decide +kernel
theorem dX11_readMason_106 : decode cX11_readMason 106 = .ok (.aload_n 0, 1) := by decide +kernel
theorem dX11_readMason_107 : decode cX11_readMason 107 = .ok (.getfield 13, 3) := by decide +kernel
theorem dX11_readMason_110 : decode cX11_readMason 110 = .ok (.iload_n 1, 1) := by decide +kernel
theorem dX11_readMason_111 : decode cX11_readMason 111 = .ok (.iconst 2, 1) := by decide +kernel
theorem dX11_readMason_112 : decode cX11_readMason 112 = .ok (.iadd, 1) := by decide +kernel
theorem dX11_readMason_113 : decode cX11_readMason 113 = .ok (.aload_n 0, 1) := by decide +kernel
theorem dX11_readMason_114 : decode cX11_readMason 114 = .ok (.getfield 13, 3) := by decide +kernel
theorem dX11_readMason_117 : decode cX11_readMason 117 = .ok (.iload_n 1, 1) := by decide +kernel
theorem dX11_readMason_118 : decode cX11_readMason 118 = .ok (.iconst 1, 1) := by decide +kernel
theorem dX11_readMason_119 : decode cX11_readMason 119 = .ok (.iadd, 1) := by decide +kernel
theorem dX11_readMason_120 : decode cX11_readMason 120 = .ok (.iaload, 1) := by decide +kernel
theorem dX11_readMason_121 : decode cX11_readMason 121 = .ok (.iastore, 1) := by decide +kernel
theorem dX11_readMason_122 : decode cX11_readMason 122 = .ok (.aload_n 0, 1) := by decide +kernel
theorem dX11_readMason_123 : decode cX11_readMason 123 = .ok (.getfield 13, 3) := by decide +kernel
theorem dX11_readMason_126 : decode cX11_readMason 126 = .ok (.iload_n 1, 1) := by decide +kernel
theorem dX11_readMason_127 : decode cX11_readMason 127 = .ok (.iconst 3, 1) := by decide +kernel
theorem dX11_readMason_128 : decode cX11_readMason 128 = .ok (.iadd, 1) := by decide +kernel
theorem dX11_readMason_129 : decode cX11_readMason 129 = .ok (.iconst 0, 1) := by decide +kernel
theorem dX11_readMason_130 : decode cX11_readMason 130 = .ok (.iastore, 1) := by decide +kernel
theorem dX11_readMason_131 : decode cX11_readMason 131 = .ok (.aload_n 0, 1) := by decide +kernel
theorem dX11_readMason_132 : decode cX11_readMason 132 = .ok (.getfield 13, 3) := by decide +kernel
theorem dX11_readMason_135 : decode cX11_readMason 135 = .ok (.bipush 6, 2) := by decide +kernel
theorem dX11_readMason_137 : decode cX11_readMason 137 = .ok (.dup2, 1) := by decide +kernel
theorem dX11_readMason_138 : decode cX11_readMason 138 = .ok (.iaload, 1) := by decide +kernel
theorem dX11_readMason_139 : decode cX11_readMason 139 = .ok (.iconst 1, 1) := by decide +kernel
theorem dX11_readMason_140 : decode cX11_readMason 140 = .ok (.iadd, 1) := by decide +kernel
theorem dX11_readMason_141 : decode cX11_readMason 141 = .ok (.iastore, 1) := by decide +kernel
theorem dX11_readMason_142 : decode cX11_readMason 142 = .ok (.iconst 1, 1) := by decide +kernel
theorem dX11_readMason_143 : decode cX11_readMason 143 = .ok (.ireturn, 1) := by decide +kernel
theorem dX11_readStone_0 : decode cX11_readStone 0 = .ok (.aload_n 0, 1) := by decide +kernel
theorem dX11_readStone_1 : decode cX11_readStone 1 = .ok (.iconst 0, 1) := by decide +kernel
theorem dX11_readStone_2 : decode cX11_readStone 2 = .ok (.aload_n 0, 1) := by decide +kernel
theorem dX11_readStone_3 : decode cX11_readStone 3 = .ok (.getfield 13, 3) := by decide +kernel
theorem dX11_readStone_6 : decode cX11_readStone 6 = .ok (.bipush 6, 2) := by decide +kernel
theorem dX11_readStone_8 : decode cX11_readStone 8 = .ok (.iaload, 1) := by decide +kernel
theorem dX11_readStone_9 : decode cX11_readStone 9 = .ok (.iconst 1, 1) := by decide +kernel
theorem dX11_readStone_10 : decode cX11_readStone 10 = .ok (.isub, 1) := by decide +kernel
theorem dX11_readStone_11 : decode cX11_readStone 11 = .ok (.invokevirtual 83, 3) := by decide +kernel
theorem dX11_readStone_14 : decode cX11_readStone 14 = .ok (.istore_n 1, 1) := by decide +kernel
theorem dX11_readStone_15 : decode cX11_readStone 15 = .ok (.iload_n 1, 1) := by decide +kernel
theorem dX11_readStone_16 : decode cX11_readStone 16 = .ok (.bipush (-9), 2) := by decide +kernel
theorem dX11_readStone_18 : decode cX11_readStone 18 = .ok (.if_icmp .ne 8, 3) := by decide +kernel
theorem dX11_readStone_21 : decode cX11_readStone 21 = .ok (.bipush (-9), 2) := by decide +kernel
theorem dX11_readStone_23 : decode cX11_readStone 23 = .ok (.goto 16, 3) := by decide +kernel
theorem dX11_readStone_26 : decode cX11_readStone 26 = .ok (.aload_n 0, 1) := by decide +kernel
theorem dX11_readStone_27 : decode cX11_readStone 27 = .ok (.iconst 0, 1) := by decide +kernel
theorem dX11_readStone_28 : decode cX11_readStone 28 = .ok (.aload_n 0, 1) := by decide +kernel
theorem dX11_readStone_29 : decode cX11_readStone 29 = .ok (.getfield 13, 3) := by decide +kernel
theorem dX11_readStone_32 : decode cX11_readStone 32 = .ok (.iconst 5, 1) := by decide +kernel
theorem dX11_readStone_33 : decode cX11_readStone 33 = .ok (.iaload, 1) := by decide +kernel
theorem dX11_readStone_34 : decode cX11_readStone 34 = .ok (.iconst 1, 1) := by decide +kernel
theorem dX11_readStone_35 : decode cX11_readStone 35 = .ok (.isub, 1) := by decide +kernel
theorem dX11_readStone_36 : decode cX11_readStone 36 = .ok (.invokevirtual 83, 3) := by decide +kernel
theorem dX11_readStone_39 : decode cX11_readStone 39 = .ok (.istore_n 2, 1) := by decide +kernel
theorem dX11_readStone_40 : decode cX11_readStone 40 = .ok (.iload_n 2, 1) := by decide +kernel
theorem dX11_readStone_41 : decode cX11_readStone 41 = .ok (.bipush (-9), 2) := by decide +kernel
theorem dX11_readStone_43 : decode cX11_readStone 43 = .ok (.if_icmp .ne 8, 3) := by decide +kernel
theorem dX11_readStone_46 : decode cX11_readStone 46 = .ok (.bipush (-9), 2) := by decide +kernel
theorem dX11_readStone_48 : decode cX11_readStone 48 = .ok (.goto 10, 3) := by decide +kernel
theorem dX11_readStone_51 : decode cX11_readStone 51 = .ok (.aload_n 0, 1) := by decide +kernel
theorem dX11_readStone_52 : decode cX11_readStone 52 = .ok (.iconst 0, 1) := by decide +kernel
theorem dX11_readStone_53 : decode cX11_readStone 53 = .ok (.bipush 9, 2) := by decide +kernel
theorem dX11_readStone_55 : decode cX11_readStone 55 = .ok (.invokevirtual 83, 3) := by decide +kernel
theorem dX11_readStone_58 : decode cX11_readStone 58 = .ok (.istore_n 3, 1) := by decide +kernel
theorem dX11_readStone_59 : decode cX11_readStone 59 = .ok (.iload_n 3, 1) := by decide +kernel
theorem dX11_readStone_60 : decode cX11_readStone 60 = .ok (.bipush (-9), 2) := by decide +kernel
theorem dX11_readStone_62 : decode cX11_readStone 62 = .ok (.if_icmp .ne 5, 3) := by decide +kernel
theorem dX11_readStone_65 : decode cX11_readStone 65 = .ok (.iconst 0, 1) := by decide +kernel
theorem dX11_readStone_66 : decode cX11_readStone 66 = .ok (.ireturn, 1) := by decide +kernel
theorem dX11_readStone_67 : decode cX11_readStone 67 = .ok (.aload_n 0, 1) := by decide +kernel
theorem dX11_readStone_68 : decode cX11_readStone 68 = .ok (.getfield 13, 3) := by decide +kernel
theorem dX11_readStone_71 : decode cX11_readStone 71 = .ok (.iload_n 1, 1) := by decide +kernel
theorem dX11_readStone_72 : decode cX11_readStone 72 = .ok (.iload_n 2, 1) := by decide +kernel
theorem dX11_readStone_73 : decode cX11_readStone 73 = .ok (.iload_n 3, 1) := by decide +kernel
theorem dX11_readStone_74 : decode cX11_readStone 74 = .ok (.invokestatic 54, 3) := by decide +kernel
theorem dX11_readStone_77 : decode cX11_readStone 77 = .ok (.istore 4, 2) := by decide +kernel
theorem dX11_readStone_79 : decode cX11_readStone 79 = .ok (.iload 4, 2) := by decide +kernel
theorem dX11_readStone_81 : decode cX11_readStone 81 = .ok (.ifCond .lt 7, 3) := by decide +kernel
theorem dX11_readStone_84 : decode cX11_readStone 84 = .ok (.iconst 1, 1) := by decide +kernel
theorem dX11_readStone_85 : decode cX11_readStone 85 = .ok (.goto 4, 3) := by decide +kernel
theorem dX11_readStone_88 : decode cX11_readStone 88 = .ok (.iconst 0, 1) := by decide +kernel
theorem dX11_readStone_89 : decode cX11_readStone 89 = .ok (.ireturn, 1) := by decide +kernel
theorem dX11_readPart_0 : decode cX11_readPart 0 = .ok (.aload_n 0, 1) := by decide +kernel
theorem dX11_readPart_1 : decode cX11_readPart 1 = .ok (.getfield 13, 3) := by decide +kernel
theorem dX11_readPart_4 : decode cX11_readPart 4 = .ok (.iconst 5, 1) := by decide +kernel
theorem dX11_readPart_5 : decode cX11_readPart 5 = .ok (.iaload, 1) := by decide +kernel
theorem dX11_readPart_6 : decode cX11_readPart 6 = .ok (.bipush 6, 2) := by decide +kernel
theorem dX11_readPart_8 : decode cX11_readPart 8 = .ok (.if_icmp .ge 17, 3) := by decide +kernel
theorem dX11_readPart_11 : decode cX11_readPart 11 = .ok (.aload_n 0, 1) := by decide +kernel
theorem dX11_readPart_12 : decode cX11_readPart 12 = .ok (.bipush 99, 2) := by decide +kernel
theorem dX11_readPart_14 : decode cX11_readPart 14 = .ok (.invokevirtual 87, 3) := by decide +kernel
theorem dX11_readPart_17 : decode cX11_readPart 17 = .ok (.ifCond .eq 8, 3) := by decide +kernel
theorem dX11_readPart_20 : decode cX11_readPart 20 = .ok (.aload_n 0, 1) := by decide +kernel
theorem dX11_readPart_21 : decode cX11_readPart 21 = .ok (.invokevirtual 90, 3) := by decide +kernel
theorem dX11_readPart_24 : decode cX11_readPart 24 = .ok (.ireturn, 1) := by decide +kernel
theorem dX11_readPart_25 : decode cX11_readPart 25 = .ok (.aload_n 0, 1) := by decide +kernel
theorem dX11_readPart_26 : decode cX11_readPart 26 = .ok (.getfield 13, 3) := by decide +kernel
theorem dX11_readPart_29 : decode cX11_readPart 29 = .ok (.bipush 6, 2) := by decide +kernel
theorem dX11_readPart_31 : decode cX11_readPart 31 = .ok (.iaload, 1) := by decide +kernel
theorem dX11_readPart_32 : decode cX11_readPart 32 = .ok (.bipush 6, 2) := by decide +kernel
theorem dX11_readPart_34 : decode cX11_readPart 34 = .ok (.if_icmp .ge 17, 3) := by decide +kernel
theorem dX11_readPart_37 : decode cX11_readPart 37 = .ok (.aload_n 0, 1) := by decide +kernel
theorem dX11_readPart_38 : decode cX11_readPart 38 = .ok (.bipush 109, 2) := by decide +kernel
theorem dX11_readPart_40 : decode cX11_readPart 40 = .ok (.invokevirtual 87, 3) := by decide +kernel
theorem dX11_readPart_43 : decode cX11_readPart 43 = .ok (.ifCond .eq 8, 3) := by decide +kernel
theorem dX11_readPart_46 : decode cX11_readPart 46 = .ok (.aload_n 0, 1) := by decide +kernel
theorem dX11_readPart_47 : decode cX11_readPart 47 = .ok (.invokevirtual 94, 3) := by decide +kernel
theorem dX11_readPart_50 : decode cX11_readPart 50 = .ok (.ireturn, 1) := by decide +kernel
theorem dX11_readPart_51 : decode cX11_readPart 51 = .ok (.aload_n 0, 1) := by decide +kernel
theorem dX11_readPart_52 : decode cX11_readPart 52 = .ok (.getfield 13, 3) := by decide +kernel
theorem dX11_readPart_55 : decode cX11_readPart 55 = .ok (.bipush 6, 2) := by decide +kernel
theorem dX11_readPart_57 : decode cX11_readPart 57 = .ok (.iaload, 1) := by decide +kernel
theorem dX11_readPart_58 : decode cX11_readPart 58 = .ok (.ifCond .le 38, 3) := by decide +kernel
theorem dX11_readPart_61 : decode cX11_readPart 61 = .ok (.aload_n 0, 1) := by decide +kernel
theorem dX11_readPart_62 : decode cX11_readPart 62 = .ok (.getfield 13, 3) := by decide +kernel
theorem dX11_readPart_65 : decode cX11_readPart 65 = .ok (.iconst 5, 1) := by decide +kernel
theorem dX11_readPart_66 : decode cX11_readPart 66 = .ok (.iaload, 1) := by decide +kernel
theorem dX11_readPart_67 : decode cX11_readPart 67 = .ok (.ifCond .le 29, 3) := by decide +kernel
theorem dX11_readPart_70 : decode cX11_readPart 70 = .ok (.aload_n 0, 1) := by decide +kernel
theorem dX11_readPart_71 : decode cX11_readPart 71 = .ok (.getfield 13, 3) := by decide +kernel
theorem dX11_readPart_74 : decode cX11_readPart 74 = .ok (.bipush 7, 2) := by decide +kernel
theorem dX11_readPart_76 : decode cX11_readPart 76 = .ok (.iaload, 1) := by decide +kernel
theorem dX11_readPart_77 : decode cX11_readPart 77 = .ok (.bipush 24, 2) := by decide +kernel
theorem dX11_readPart_79 : decode cX11_readPart 79 = .ok (.if_icmp .ge 17, 3) := by decide +kernel
theorem dX11_readPart_82 : decode cX11_readPart 82 = .ok (.aload_n 0, 1) := by decide +kernel
theorem dX11_readPart_83 : decode cX11_readPart 83 = .ok (.bipush 115, 2) := by decide +kernel
theorem dX11_readPart_85 : decode cX11_readPart 85 = .ok (.invokevirtual 87, 3) := by decide +kernel
theorem dX11_readPart_88 : decode cX11_readPart 88 = .ok (.ifCond .eq 8, 3) := by decide +kernel
theorem dX11_readPart_91 : decode cX11_readPart 91 = .ok (.aload_n 0, 1) := by decide +kernel
theorem dX11_readPart_92 : decode cX11_readPart 92 = .ok (.invokevirtual 97, 3) := by decide +kernel
theorem dX11_readPart_95 : decode cX11_readPart 95 = .ok (.ireturn, 1) := by decide +kernel
theorem dX11_readPart_96 : decode cX11_readPart 96 = .ok (.aload_n 0, 1) := by decide +kernel
theorem dX11_readPart_97 : decode cX11_readPart 97 = .ok (.getfield 100, 3) := by decide +kernel
theorem dX11_readPart_100 : decode cX11_readPart 100 = .ok (.ifCond .ne 19, 3) := by decide +kernel
theorem dX11_readPart_103 : decode cX11_readPart 103 = .ok (.aload_n 0, 1) := by decide +kernel
theorem dX11_readPart_104 : decode cX11_readPart 104 = .ok (.bipush 102, 2) := by decide +kernel
theorem dX11_readPart_106 : decode cX11_readPart 106 = .ok (.invokevirtual 87, 3) := by decide +kernel
theorem dX11_readPart_109 : decode cX11_readPart 109 = .ok (.ifCond .eq 10, 3) := by decide +kernel
theorem dX11_readPart_112 : decode cX11_readPart 112 = .ok (.aload_n 0, 1) := by decide +kernel
theorem dX11_readPart_113 : decode cX11_readPart 113 = .ok (.iconst 1, 1) := by decide +kernel
theorem dX11_readPart_114 : decode cX11_readPart 114 = .ok (.putfield 100, 3) := by decide +kernel
theorem dX11_readPart_117 : decode cX11_readPart 117 = .ok (.iconst 1, 1) := by decide +kernel
theorem dX11_readPart_118 : decode cX11_readPart 118 = .ok (.ireturn, 1) := by decide +kernel
theorem dX11_readPart_119 : decode cX11_readPart 119 = .ok (.iconst 0, 1) := by decide +kernel
theorem dX11_readPart_120 : decode cX11_readPart 120 = .ok (.ireturn, 1) := by decide +kernel
theorem dX11_readAll_0 : decode cX11_readAll 0 = .ok (.aload_n 0, 1) := by decide +kernel
theorem dX11_readAll_1 : decode cX11_readAll 1 = .ok (.iconst 0, 1) := by decide +kernel
theorem dX11_readAll_2 : decode cX11_readAll 2 = .ok (.putfield 80, 3) := by decide +kernel
theorem dX11_readAll_5 : decode cX11_readAll 5 = .ok (.aload_n 0, 1) := by decide +kernel
theorem dX11_readAll_6 : decode cX11_readAll 6 = .ok (.iconst 0, 1) := by decide +kernel
theorem dX11_readAll_7 : decode cX11_readAll 7 = .ok (.putfield 100, 3) := by decide +kernel
theorem dX11_readAll_10 : decode cX11_readAll 10 = .ok (.iconst 0, 1) := by decide +kernel
theorem dX11_readAll_11 : decode cX11_readAll 11 = .ok (.istore_n 1, 1) := by decide +kernel
theorem dX11_readAll_12 : decode cX11_readAll 12 = .ok (.iload_n 1, 1) := by decide +kernel
theorem dX11_readAll_13 : decode cX11_readAll 13 = .ok (.sipush 194, 3) := by decide +kernel
theorem dX11_readAll_16 : decode cX11_readAll 16 = .ok (.if_icmp .ge 16, 3) := by decide +kernel
theorem dX11_readAll_19 : decode cX11_readAll 19 = .ok (.aload_n 0, 1) := by decide +kernel
theorem dX11_readAll_20 : decode cX11_readAll 20 = .ok (.getfield 13, 3) := by decide +kernel
theorem dX11_readAll_23 : decode cX11_readAll 23 = .ok (.iload_n 1, 1) := by decide +kernel
theorem dX11_readAll_24 : decode cX11_readAll 24 = .ok (.iconst 0, 1) := by decide +kernel
theorem dX11_readAll_25 : decode cX11_readAll 25 = .ok (.iastore, 1) := by decide +kernel
theorem dX11_readAll_26 : decode cX11_readAll 26 = .ok (.iinc 1 1, 3) := by decide +kernel
theorem dX11_readAll_29 : decode cX11_readAll 29 = .ok (.goto (-17), 3) := by decide +kernel
theorem dX11_readAll_32 : decode cX11_readAll 32 = .ok (.aload_n 0, 1) := by decide +kernel
theorem dX11_readAll_33 : decode cX11_readAll 33 = .ok (.bipush 76, 2) := by decide +kernel
theorem dX11_readAll_35 : decode cX11_readAll 35 = .ok (.invokevirtual 87, 3) := by decide +kernel
theorem dX11_readAll_38 : decode cX11_readAll 38 = .ok (.ifCond .ne 5, 3) := by decide +kernel
theorem dX11_readAll_41 : decode cX11_readAll 41 = .ok (.iconst 0, 1) := by decide +kernel
theorem dX11_readAll_42 : decode cX11_readAll 42 = .ok (.ireturn, 1) := by decide +kernel
theorem dX11_readAll_43 : decode cX11_readAll 43 = .ok (.aload_n 0, 1) := by decide +kernel
theorem dX11_readAll_44 : decode cX11_readAll 44 = .ok (.getfield 13, 3) := by decide +kernel
theorem dX11_readAll_47 : decode cX11_readAll 47 = .ok (.iconst 0, 1) := by decide +kernel
theorem dX11_readAll_48 : decode cX11_readAll 48 = .ok (.aload_n 0, 1) := by decide +kernel
theorem dX11_readAll_49 : decode cX11_readAll 49 = .ok (.iconst 0, 1) := by decide +kernel
theorem dX11_readAll_50 : decode cX11_readAll 50 = .ok (.bipush 9, 2) := by decide +kernel
theorem dX11_readAll_52 : decode cX11_readAll 52 = .ok (.invokevirtual 83, 3) := by decide +kernel
theorem dX11_readAll_55 : decode cX11_readAll 55 = .ok (.iastore, 1) := by decide +kernel
theorem dX11_readAll_56 : decode cX11_readAll 56 = .ok (.aload_n 0, 1) := by decide +kernel
theorem dX11_readAll_57 : decode cX11_readAll 57 = .ok (.getfield 13, 3) := by decide +kernel
theorem dX11_readAll_60 : decode cX11_readAll 60 = .ok (.iconst 0, 1) := by decide +kernel
theorem dX11_readAll_61 : decode cX11_readAll 61 = .ok (.iaload, 1) := by decide +kernel
theorem dX11_readAll_62 : decode cX11_readAll 62 = .ok (.bipush (-9), 2) := by decide +kernel
theorem dX11_readAll_64 : decode cX11_readAll 64 = .ok (.if_icmp .ne 5, 3) := by decide +kernel
theorem dX11_readAll_67 : decode cX11_readAll 67 = .ok (.iconst 0, 1) := by decide +kernel
theorem dX11_readAll_68 : decode cX11_readAll 68 = .ok (.ireturn, 1) := by decide +kernel
theorem dX11_readAll_69 : decode cX11_readAll 69 = .ok (.aload_n 0, 1) := by decide +kernel
theorem dX11_readAll_70 : decode cX11_readAll 70 = .ok (.getfield 80, 3) := by decide +kernel
theorem dX11_readAll_73 : decode cX11_readAll 73 = .ok (.aload_n 0, 1) := by decide +kernel
theorem dX11_readAll_74 : decode cX11_readAll 74 = .ok (.getfield 73, 3) := by decide +kernel
theorem dX11_readAll_77 : decode cX11_readAll 77 = .ok (.if_icmp .ge 12, 3) := by decide +kernel
theorem dX11_readAll_80 : decode cX11_readAll 80 = .ok (.aload_n 0, 1) := by decide +kernel
theorem dX11_readAll_81 : decode cX11_readAll 81 = .ok (.invokevirtual 104, 3) := by decide +kernel
theorem dX11_readAll_84 : decode cX11_readAll 84 = .ok (.ifCond .ne (-15), 3) := by decide +kernel
theorem dX11_readAll_87 : decode cX11_readAll 87 = .ok (.iconst 0, 1) := by decide +kernel
theorem dX11_readAll_88 : decode cX11_readAll 88 = .ok (.ireturn, 1) := by decide +kernel
theorem dX11_readAll_89 : decode cX11_readAll 89 = .ok (.iconst 1, 1) := by decide +kernel
theorem dX11_readAll_90 : decode cX11_readAll 90 = .ok (.ireturn, 1) := by decide +kernel
theorem dX11_errorPosition_0 : decode cX11_errorPosition 0 = .ok (.aload_n 0, 1) := by decide +kernel
theorem dX11_errorPosition_1 : decode cX11_errorPosition 1 = .ok (.iconst 0, 1) := by decide +kernel
theorem dX11_errorPosition_2 : decode cX11_errorPosition 2 = .ok (.putfield 35, 3) := by decide +kernel
theorem dX11_errorPosition_5 : decode cX11_errorPosition 5 = .ok (.aload_n 0, 1) := by decide +kernel
theorem dX11_errorPosition_6 : decode cX11_errorPosition 6 = .ok (.invokevirtual 107, 3) := by decide +kernel
theorem dX11_errorPosition_9 : decode cX11_errorPosition 9 = .ok (.ifCond .eq 8, 3) := by decide +kernel
theorem dX11_errorPosition_12 : decode cX11_errorPosition 12 = .ok (.bipush (-9), 2) := by decide +kernel
theorem dX11_errorPosition_14 : decode cX11_errorPosition 14 = .ok (.goto 7, 3) := by decide +kernel
theorem dX11_errorPosition_17 : decode cX11_errorPosition 17 = .ok (.aload_n 0, 1) := by decide +kernel
theorem dX11_errorPosition_18 : decode cX11_errorPosition 18 = .ok (.getfield 80, 3) := by decide +kernel
theorem dX11_errorPosition_21 : decode cX11_errorPosition 21 = .ok (.ireturn, 1) := by decide +kernel
theorem dX11_load_0 : decode cX11_load 0 = .ok (.aload_n 0, 1) := by decide +kernel
theorem dX11_load_1 : decode cX11_load 1 = .ok (.aload_n 0, 1) := by decide +kernel
theorem dX11_load_2 : decode cX11_load 2 = .ok (.invokevirtual 107, 3) := by decide +kernel
theorem dX11_load_5 : decode cX11_load 5 = .ok (.ifCond .eq 7, 3) := by decide +kernel
theorem dX11_load_8 : decode cX11_load 8 = .ok (.iconst 0, 1) := by decide +kernel
theorem dX11_load_9 : decode cX11_load 9 = .ok (.goto 4, 3) := by decide +kernel
theorem dX11_load_12 : decode cX11_load 12 = .ok (.iconst 1, 1) := by decide +kernel
theorem dX11_load_13 : decode cX11_load 13 = .ok (.invokevirtual 76, 3) := by decide +kernel
theorem dX11_load_16 : decode cX11_load 16 = .ok (.ifCond .eq 5, 3) := by decide +kernel
theorem dX11_load_19 : decode cX11_load 19 = .ok (.iconst 0, 1) := by decide +kernel
theorem dX11_load_20 : decode cX11_load 20 = .ok (.ireturn, 1) := by decide +kernel
theorem dX11_load_21 : decode cX11_load 21 = .ok (.aload_n 0, 1) := by decide +kernel
theorem dX11_load_22 : decode cX11_load 22 = .ok (.getfield 13, 3) := by decide +kernel
theorem dX11_load_25 : decode cX11_load 25 = .ok (.iconst 0, 1) := by decide +kernel
theorem dX11_load_26 : decode cX11_load 26 = .ok (.aload_n 0, 1) := by decide +kernel
theorem dX11_load_27 : decode cX11_load 27 = .ok (.getfield 16, 3) := by decide +kernel
theorem dX11_load_30 : decode cX11_load 30 = .ok (.iconst 0, 1) := by decide +kernel
theorem dX11_load_31 : decode cX11_load 31 = .ok (.invokestatic 110, 3) := by decide +kernel
theorem dX11_load_34 : decode cX11_load 34 = .ok (.aload_n 0, 1) := by decide +kernel
theorem dX11_load_35 : decode cX11_load 35 = .ok (.getfield 16, 3) := by decide +kernel
theorem dX11_load_38 : decode cX11_load 38 = .ok (.iconst 2, 1) := by decide +kernel
theorem dX11_load_39 : decode cX11_load 39 = .ok (.aload_n 0, 1) := by decide +kernel
theorem dX11_load_40 : decode cX11_load 40 = .ok (.getfield 100, 3) := by decide +kernel
theorem dX11_load_43 : decode cX11_load 43 = .ok (.ifCond .eq 7, 3) := by decide +kernel
theorem dX11_load_46 : decode cX11_load 46 = .ok (.iconst 1, 1) := by decide +kernel
theorem dX11_load_47 : decode cX11_load 47 = .ok (.goto 4, 3) := by decide +kernel
theorem dX11_load_50 : decode cX11_load 50 = .ok (.iconst 0, 1) := by decide +kernel
theorem dX11_load_51 : decode cX11_load 51 = .ok (.iastore, 1) := by decide +kernel
theorem dX11_load_52 : decode cX11_load 52 = .ok (.iconst 0, 1) := by decide +kernel
theorem dX11_load_53 : decode cX11_load 53 = .ok (.istore_n 1, 1) := by decide +kernel
theorem dX11_load_54 : decode cX11_load 54 = .ok (.iload_n 1, 1) := by decide +kernel
theorem dX11_load_55 : decode cX11_load 55 = .ok (.aload_n 0, 1) := by decide +kernel
theorem dX11_load_56 : decode cX11_load 56 = .ok (.getfield 16, 3) := by decide +kernel
theorem dX11_load_59 : decode cX11_load 59 = .ok (.bipush 6, 2) := by decide +kernel
theorem dX11_load_61 : decode cX11_load 61 = .ok (.iaload, 1) := by decide +kernel
theorem dX11_load_62 : decode cX11_load 62 = .ok (.if_icmp .ge 30, 3) := by decide +kernel
theorem dX11_load_65 : decode cX11_load 65 = .ok (.aload_n 0, 1) := by decide +kernel
theorem dX11_load_66 : decode cX11_load 66 = .ok (.getfield 100, 3) := by decide +kernel
theorem dX11_load_69 : decode cX11_load 69 = .ok (.ifCond .eq 23, 3) := by decide +kernel
theorem dX11_load_72 : decode cX11_load 72 = .ok (.aload_n 0, 1) := by decide +kernel
theorem dX11_load_73 : decode cX11_load 73 = .ok (.getfield 16, 3) := by decide +kernel
theorem dX11_load_76 : decode cX11_load 76 = .ok (.bipush 26, 2) := by decide +kernel
theorem dX11_load_78 : decode cX11_load 78 = .ok (.iconst 4, 1) := by decide +kernel
theorem dX11_load_79 : decode cX11_load 79 = .ok (.iload_n 1, 1) := by decide +kernel
theorem dX11_load_80 : decode cX11_load 80 = .ok (.imul, 1) := by decide +kernel
theorem dX11_load_81 : decode cX11_load 81 = .ok (.iadd, 1) := by decide +kernel
theorem dX11_load_82 : decode cX11_load 82 = .ok (.iconst 2, 1) := by decide +kernel
theorem dX11_load_83 : decode cX11_load 83 = .ok (.iadd, 1) := by decide +kernel
theorem dX11_load_84 : decode cX11_load 84 = .ok (.iconst 0, 1) := by decide +kernel
theorem dX11_load_85 : decode cX11_load 85 = .ok (.iastore, 1) := by decide +kernel
theorem dX11_load_86 : decode cX11_load 86 = .ok (.iinc 1 1, 3) := by decide +kernel
theorem dX11_load_89 : decode cX11_load 89 = .ok (.goto (-35), 3) := by decide +kernel
theorem dX11_load_92 : decode cX11_load 92 = .ok (.aload_n 0, 1) := by decide +kernel
theorem dX11_load_93 : decode cX11_load 93 = .ok (.iconst 0, 1) := by decide +kernel
theorem dX11_load_94 : decode cX11_load 94 = .ok (.putfield 114, 3) := by decide +kernel
theorem dX11_load_97 : decode cX11_load 97 = .ok (.aload_n 0, 1) := by decide +kernel
theorem dX11_load_98 : decode cX11_load 98 = .ok (.getfield 28, 3) := by decide +kernel
theorem dX11_load_101 : decode cX11_load 101 = .ok (.iconst 0, 1) := by decide +kernel
theorem dX11_load_102 : decode cX11_load 102 = .ok (.iconst 0, 1) := by decide +kernel
theorem dX11_load_103 : decode cX11_load 103 = .ok (.bastore, 1) := by decide +kernel
theorem dX11_load_104 : decode cX11_load 104 = .ok (.aload_n 0, 1) := by decide +kernel
theorem dX11_load_105 : decode cX11_load 105 = .ok (.getfield 28, 3) := by decide +kernel
theorem dX11_load_108 : decode cX11_load 108 = .ok (.iconst 1, 1) := by decide +kernel
theorem dX11_load_109 : decode cX11_load 109 = .ok (.iconst 0, 1) := by decide +kernel
theorem dX11_load_110 : decode cX11_load 110 = .ok (.bastore, 1) := by decide +kernel
theorem dX11_load_111 : decode cX11_load 111 = .ok (.aload_n 0, 1) := by decide +kernel
theorem dX11_load_112 : decode cX11_load 112 = .ok (.getfield 16, 3) := by decide +kernel
theorem dX11_load_115 : decode cX11_load 115 = .ok (.bipush 7, 2) := by decide +kernel
theorem dX11_load_117 : decode cX11_load 117 = .ok (.iaload, 1) := by decide +kernel
theorem dX11_load_118 : decode cX11_load 118 = .ok (.ireturn, 1) := by decide +kernel
theorem dX11_about_0 : decode cX11_about 0 = .ok (.aload_n 0, 1) := by decide +kernel
theorem dX11_about_1 : decode cX11_about 1 = .ok (.iload_n 1, 1) := by decide +kernel
theorem dX11_about_2 : decode cX11_about 2 = .ok (.i2l, 1) := by decide +kernel
theorem dX11_about_3 : decode cX11_about 3 = .ok (.lconst 0, 1) := by decide +kernel
theorem dX11_about_4 : decode cX11_about 4 = .ok (.ldc2_w 117, 3) := by decide +kernel
theorem dX11_about_7 : decode cX11_about 7 = .ok (.invokestatic 39, 3) := by decide +kernel
theorem dX11_about_10 : decode cX11_about 10 = .ok (.ifCond .eq 7, 3) := by decide +kernel
theorem dX11_about_13 : decode cX11_about 13 = .ok (.iconst 0, 1) := by decide +kernel
theorem dX11_about_14 : decode cX11_about 14 = .ok (.goto 4, 3) := by decide +kernel
theorem dX11_about_17 : decode cX11_about 17 = .ok (.iconst 1, 1) := by decide +kernel
theorem dX11_about_18 : decode cX11_about 18 = .ok (.invokevirtual 76, 3) := by decide +kernel
theorem dX11_about_21 : decode cX11_about 21 = .ok (.ifCond .eq 5, 3) := by decide +kernel
theorem dX11_about_24 : decode cX11_about 24 = .ok (.iconst 0, 1) := by decide +kernel
theorem dX11_about_25 : decode cX11_about 25 = .ok (.ireturn, 1) := by decide +kernel
theorem dX11_about_26 : decode cX11_about 26 = .ok (.iload_n 1, 1) := by decide +kernel
theorem dX11_about_27 : decode cX11_about 27 = .ok (.tableswitch 175 0 10 #[57, 64, 72, 80, 87, 94, 101, 142, 151, 160, 168], 57) := by decide +kernel
theorem dX11_about_84 : decode cX11_about 84 = .ok (.aload_n 0, 1) := by decide +kernel
theorem dX11_about_85 : decode cX11_about 85 = .ok (.getfield 16, 3) := by decide +kernel
theorem dX11_about_88 : decode cX11_about 88 = .ok (.iconst 5, 1) := by decide +kernel
theorem dX11_about_89 : decode cX11_about 89 = .ok (.iaload, 1) := by decide +kernel
theorem dX11_about_90 : decode cX11_about 90 = .ok (.ireturn, 1) := by decide +kernel
theorem dX11_about_91 : decode cX11_about 91 = .ok (.aload_n 0, 1) := by decide +kernel
theorem dX11_about_92 : decode cX11_about 92 = .ok (.getfield 16, 3) := by decide +kernel
theorem dX11_about_95 : decode cX11_about 95 = .ok (.bipush 6, 2) := by decide +kernel
theorem dX11_about_97 : decode cX11_about 97 = .ok (.iaload, 1) := by decide +kernel
theorem dX11_about_98 : decode cX11_about 98 = .ok (.ireturn, 1) := by decide +kernel
theorem dX11_about_99 : decode cX11_about 99 = .ok (.aload_n 0, 1) := by decide +kernel
theorem dX11_about_100 : decode cX11_about 100 = .ok (.getfield 16, 3) := by decide +kernel
theorem dX11_about_103 : decode cX11_about 103 = .ok (.bipush 7, 2) := by decide +kernel
theorem dX11_about_105 : decode cX11_about 105 = .ok (.iaload, 1) := by decide +kernel
theorem dX11_about_106 : decode cX11_about 106 = .ok (.ireturn, 1) := by decide +kernel
theorem dX11_about_107 : decode cX11_about 107 = .ok (.aload_n 0, 1) := by decide +kernel
theorem dX11_about_108 : decode cX11_about 108 = .ok (.getfield 16, 3) := by decide +kernel
theorem dX11_about_111 : decode cX11_about 111 = .ok (.iconst 1, 1) := by decide +kernel
theorem dX11_about_112 : decode cX11_about 112 = .ok (.iaload, 1) := by decide +kernel
theorem dX11_about_113 : decode cX11_about 113 = .ok (.ireturn, 1) := by decide +kernel
theorem dX11_about_114 : decode cX11_about 114 = .ok (.aload_n 0, 1) := by decide +kernel
theorem dX11_about_115 : decode cX11_about 115 = .ok (.getfield 16, 3) := by decide +kernel
theorem dX11_about_118 : decode cX11_about 118 = .ok (.iconst 2, 1) := by decide +kernel
theorem dX11_about_119 : decode cX11_about 119 = .ok (.iaload, 1) := by decide +kernel
theorem dX11_about_120 : decode cX11_about 120 = .ok (.ireturn, 1) := by decide +kernel
theorem dX11_about_121 : decode cX11_about 121 = .ok (.aload_n 0, 1) := by decide +kernel
theorem dX11_about_122 : decode cX11_about 122 = .ok (.getfield 16, 3) := by decide +kernel
theorem dX11_about_125 : decode cX11_about 125 = .ok (.iconst 0, 1) := by decide +kernel
theorem dX11_about_126 : decode cX11_about 126 = .ok (.iaload, 1) := by decide +kernel
theorem dX11_about_127 : decode cX11_about 127 = .ok (.ireturn, 1) := by decide +kernel
theorem dX11_about_128 : decode cX11_about 128 = .ok (.iconst 0, 1) := by decide +kernel
theorem dX11_about_129 : decode cX11_about 129 = .ok (.istore_n 2, 1) := by decide +kernel
theorem dX11_about_130 : decode cX11_about 130 = .ok (.iconst 0, 1) := by decide +kernel
theorem dX11_about_131 : decode cX11_about 131 = .ok (.istore_n 3, 1) := by decide +kernel
theorem dX11_about_132 : decode cX11_about 132 = .ok (.iload_n 3, 1) := by decide +kernel
theorem dX11_about_133 : decode cX11_about 133 = .ok (.aload_n 0, 1) := by decide +kernel
theorem dX11_about_134 : decode cX11_about 134 = .ok (.getfield 16, 3) := by decide +kernel
theorem dX11_about_137 : decode cX11_about 137 = .ok (.iconst 5, 1) := by decide +kernel
theorem dX11_about_138 : decode cX11_about 138 = .ok (.iaload, 1) := by decide +kernel
theorem dX11_about_139 : decode cX11_about 139 = .ok (.if_icmp .ge 28, 3) := by decide +kernel
theorem dX11_about_142 : decode cX11_about 142 = .ok (.iload_n 2, 1) := by decide +kernel
theorem dX11_about_143 : decode cX11_about 143 = .ok (.aload_n 0, 1) := by decide +kernel
theorem dX11_about_144 : decode cX11_about 144 = .ok (.getfield 16, 3) := by decide +kernel
theorem dX11_about_147 : decode cX11_about 147 = .ok (.iload_n 3, 1) := by decide +kernel
theorem dX11_about_148 : decode cX11_about 148 = .ok (.invokestatic 64, 3) := by decide +kernel
theorem dX11_about_151 : decode cX11_about 151 = .ok (.ifCond .eq 7, 3) := by decide +kernel
theorem dX11_about_154 : decode cX11_about 154 = .ok (.iconst 1, 1) := by decide +kernel
theorem dX11_about_155 : decode cX11_about 155 = .ok (.goto 4, 3) := by decide +kernel
theorem dX11_about_158 : decode cX11_about 158 = .ok (.iconst 0, 1) := by decide +kernel
theorem dX11_about_159 : decode cX11_about 159 = .ok (.iadd, 1) := by decide +kernel
theorem dX11_about_160 : decode cX11_about 160 = .ok (.istore_n 2, 1) := by decide +kernel
theorem dX11_about_161 : decode cX11_about 161 = .ok (.iinc 3 1, 3) := by decide +kernel
theorem dX11_about_164 : decode cX11_about 164 = .ok (.goto (-32), 3) := by decide +kernel
theorem dX11_about_167 : decode cX11_about 167 = .ok (.iload_n 2, 1) := by decide +kernel
theorem dX11_about_168 : decode cX11_about 168 = .ok (.ireturn, 1) := by decide +kernel
theorem dX11_about_169 : decode cX11_about 169 = .ok (.aload_n 0, 1) := by decide +kernel
theorem dX11_about_170 : decode cX11_about 170 = .ok (.getfield 16, 3) := by decide +kernel
theorem dX11_about_173 : decode cX11_about 173 = .ok (.iconst 3, 1) := by decide +kernel
theorem dX11_about_174 : decode cX11_about 174 = .ok (.invokestatic 119, 3) := by decide +kernel
theorem dX11_about_177 : decode cX11_about 177 = .ok (.ireturn, 1) := by decide +kernel
theorem dX11_about_178 : decode cX11_about 178 = .ok (.aload_n 0, 1) := by decide +kernel
theorem dX11_about_179 : decode cX11_about 179 = .ok (.getfield 16, 3) := by decide +kernel
theorem dX11_about_182 : decode cX11_about 182 = .ok (.iconst 4, 1) := by decide +kernel
theorem dX11_about_183 : decode cX11_about 183 = .ok (.invokestatic 119, 3) := by decide +kernel
theorem dX11_about_186 : decode cX11_about 186 = .ok (.ireturn, 1) := by decide +kernel
theorem dX11_about_187 : decode cX11_about 187 = .ok (.aload_n 0, 1) := by decide +kernel
theorem dX11_about_188 : decode cX11_about 188 = .ok (.getfield 16, 3) := by decide +kernel
theorem dX11_about_191 : decode cX11_about 191 = .ok (.invokestatic 122, 3) := by decide +kernel
theorem dX11_about_194 : decode cX11_about 194 = .ok (.ireturn, 1) := by decide +kernel
theorem dX11_about_195 : decode cX11_about 195 = .ok (.aload_n 0, 1) := by decide +kernel
theorem dX11_about_196 : decode cX11_about 196 = .ok (.getfield 16, 3) := by decide +kernel
theorem dX11_about_199 : decode cX11_about 199 = .ok (.iconst 3, 1) := by decide +kernel
theorem dX11_about_200 : decode cX11_about 200 = .ok (.iaload, 1) := by decide +kernel
theorem dX11_about_201 : decode cX11_about 201 = .ok (.ireturn, 1) := by decide +kernel
theorem dX11_about_202 : decode cX11_about 202 = .ok (.aload_n 0, 1) := by decide +kernel
theorem dX11_about_203 : decode cX11_about 203 = .ok (.getfield 16, 3) := by decide +kernel
theorem dX11_about_206 : decode cX11_about 206 = .ok (.iconst 4, 1) := by decide +kernel
theorem dX11_about_207 : decode cX11_about 207 = .ok (.iaload, 1) := by decide +kernel
theorem dX11_about_208 : decode cX11_about 208 = .ok (.ireturn, 1) := by decide +kernel
theorem dX11_course_0 : decode cX11_course 0 = .ok (.aload_n 0, 1) := by decide +kernel
theorem dX11_course_1 : decode cX11_course 1 = .ok (.aload_n 0, 1) := by decide +kernel
theorem dX11_course_2 : decode cX11_course 2 = .ok (.getfield 16, 3) := by decide +kernel
theorem dX11_course_5 : decode cX11_course 5 = .ok (.iload_n 1, 1) := by decide +kernel
theorem dX11_course_6 : decode cX11_course 6 = .ok (.invokestatic 126, 3) := by decide +kernel
theorem dX11_course_9 : decode cX11_course 9 = .ok (.ifCond .ne 7, 3) := by decide +kernel
theorem dX11_course_12 : decode cX11_course 12 = .ok (.iconst 1, 1) := by decide +kernel
theorem dX11_course_13 : decode cX11_course 13 = .ok (.goto 20, 3) := by decide +kernel
theorem dX11_course_16 : decode cX11_course 16 = .ok (.iload_n 2, 1) := by decide +kernel
theorem dX11_course_17 : decode cX11_course 17 = .ok (.i2l, 1) := by decide +kernel
theorem dX11_course_18 : decode cX11_course 18 = .ok (.lconst 0, 1) := by decide +kernel
theorem dX11_course_19 : decode cX11_course 19 = .ok (.ldc2_w 129, 3) := by decide +kernel
theorem dX11_course_22 : decode cX11_course 22 = .ok (.invokestatic 39, 3) := by decide +kernel
theorem dX11_course_25 : decode cX11_course 25 = .ok (.ifCond .ne 7, 3) := by decide +kernel
theorem dX11_course_28 : decode cX11_course 28 = .ok (.iconst 2, 1) := by decide +kernel
theorem dX11_course_29 : decode cX11_course 29 = .ok (.goto 4, 3) := by decide +kernel
theorem dX11_course_32 : decode cX11_course 32 = .ok (.iconst 0, 1) := by decide +kernel
theorem dX11_course_33 : decode cX11_course 33 = .ok (.invokevirtual 76, 3) := by decide +kernel
theorem dX11_course_36 : decode cX11_course 36 = .ok (.ifCond .eq 5, 3) := by decide +kernel
theorem dX11_course_39 : decode cX11_course 39 = .ok (.iconst 0, 1) := by decide +kernel
theorem dX11_course_40 : decode cX11_course 40 = .ok (.ireturn, 1) := by decide +kernel
theorem dX11_course_41 : decode cX11_course 41 = .ok (.iload_n 2, 1) := by decide +kernel
theorem dX11_course_42 : decode cX11_course 42 = .ok (.tableswitch 69 3 6 #[30, 40, 49, 59], 30) := by decide +kernel
theorem dX11_course_72 : decode cX11_course 72 = .ok (.aload_n 0, 1) := by decide +kernel
theorem dX11_course_73 : decode cX11_course 73 = .ok (.getfield 16, 3) := by decide +kernel
theorem dX11_course_76 : decode cX11_course 76 = .ok (.iload_n 1, 1) := by decide +kernel
theorem dX11_course_77 : decode cX11_course 77 = .ok (.iconst 3, 1) := by decide +kernel
theorem dX11_course_78 : decode cX11_course 78 = .ok (.invokestatic 43, 3) := by decide +kernel
theorem dX11_course_81 : decode cX11_course 81 = .ok (.ireturn, 1) := by decide +kernel
theorem dX11_course_82 : decode cX11_course 82 = .ok (.aload_n 0, 1) := by decide +kernel
theorem dX11_course_83 : decode cX11_course 83 = .ok (.getfield 16, 3) := by decide +kernel
theorem dX11_course_86 : decode cX11_course 86 = .ok (.iload_n 1, 1) := by decide +kernel
theorem dX11_course_87 : decode cX11_course 87 = .ok (.invokestatic 68, 3) := by decide +kernel
theorem dX11_course_90 : decode cX11_course 90 = .ok (.ireturn, 1) := by decide +kernel
theorem dX11_course_91 : decode cX11_course 91 = .ok (.aload_n 0, 1) := by decide +kernel
theorem dX11_course_92 : decode cX11_course 92 = .ok (.getfield 16, 3) := by decide +kernel
theorem dX11_course_95 : decode cX11_course 95 = .ok (.iload_n 1, 1) := by decide +kernel
theorem dX11_course_96 : decode cX11_course 96 = .ok (.iconst 0, 1) := by decide +kernel
theorem dX11_course_97 : decode cX11_course 97 = .ok (.invokestatic 43, 3) := by decide +kernel
theorem dX11_course_100 : decode cX11_course 100 = .ok (.ireturn, 1) := by decide +kernel
theorem dX11_course_101 : decode cX11_course 101 = .ok (.aload_n 0, 1) := by decide +kernel
theorem dX11_course_102 : decode cX11_course 102 = .ok (.getfield 16, 3) := by decide +kernel
theorem dX11_course_105 : decode cX11_course 105 = .ok (.iload_n 1, 1) := by decide +kernel
theorem dX11_course_106 : decode cX11_course 106 = .ok (.iconst 2, 1) := by decide +kernel
theorem dX11_course_107 : decode cX11_course 107 = .ok (.invokestatic 43, 3) := by decide +kernel
theorem dX11_course_110 : decode cX11_course 110 = .ok (.ireturn, 1) := by decide +kernel
theorem dX11_course_111 : decode cX11_course 111 = .ok (.aload_n 0, 1) := by decide +kernel
theorem dX11_course_112 : decode cX11_course 112 = .ok (.getfield 16, 3) := by decide +kernel
theorem dX11_course_115 : decode cX11_course 115 = .ok (.bipush 8, 2) := by decide +kernel
theorem dX11_course_117 : decode cX11_course 117 = .ok (.iconst 3, 1) := by decide +kernel
theorem dX11_course_118 : decode cX11_course 118 = .ok (.iload_n 1, 1) := by decide +kernel
theorem dX11_course_119 : decode cX11_course 119 = .ok (.imul, 1) := by decide +kernel
theorem dX11_course_120 : decode cX11_course 120 = .ok (.iadd, 1) := by decide +kernel
theorem dX11_course_121 : decode cX11_course 121 = .ok (.iload_n 2, 1) := by decide +kernel
theorem dX11_course_122 : decode cX11_course 122 = .ok (.iadd, 1) := by decide +kernel
theorem dX11_course_123 : decode cX11_course 123 = .ok (.iaload, 1) := by decide +kernel
theorem dX11_course_124 : decode cX11_course 124 = .ok (.ireturn, 1) := by decide +kernel
theorem dX11_mason_0 : decode cX11_mason 0 = .ok (.aload_n 0, 1) := by decide +kernel
theorem dX11_mason_1 : decode cX11_mason 1 = .ok (.aload_n 0, 1) := by decide +kernel
theorem dX11_mason_2 : decode cX11_mason 2 = .ok (.getfield 16, 3) := by decide +kernel
theorem dX11_mason_5 : decode cX11_mason 5 = .ok (.iload_n 1, 1) := by decide +kernel
theorem dX11_mason_6 : decode cX11_mason 6 = .ok (.invokestatic 131, 3) := by decide +kernel
theorem dX11_mason_9 : decode cX11_mason 9 = .ok (.ifCond .ne 7, 3) := by decide +kernel
theorem dX11_mason_12 : decode cX11_mason 12 = .ok (.iconst 1, 1) := by decide +kernel
theorem dX11_mason_13 : decode cX11_mason 13 = .ok (.goto 20, 3) := by decide +kernel
theorem dX11_mason_16 : decode cX11_mason 16 = .ok (.iload_n 2, 1) := by decide +kernel
theorem dX11_mason_17 : decode cX11_mason 17 = .ok (.i2l, 1) := by decide +kernel
theorem dX11_mason_18 : decode cX11_mason 18 = .ok (.lconst 0, 1) := by decide +kernel
theorem dX11_mason_19 : decode cX11_mason 19 = .ok (.ldc2_w 134, 3) := by decide +kernel
theorem dX11_mason_22 : decode cX11_mason 22 = .ok (.invokestatic 39, 3) := by decide +kernel
theorem dX11_mason_25 : decode cX11_mason 25 = .ok (.ifCond .ne 7, 3) := by decide +kernel
theorem dX11_mason_28 : decode cX11_mason 28 = .ok (.iconst 2, 1) := by decide +kernel
theorem dX11_mason_29 : decode cX11_mason 29 = .ok (.goto 4, 3) := by decide +kernel
theorem dX11_mason_32 : decode cX11_mason 32 = .ok (.iconst 0, 1) := by decide +kernel
theorem dX11_mason_33 : decode cX11_mason 33 = .ok (.invokevirtual 76, 3) := by decide +kernel
theorem dX11_mason_36 : decode cX11_mason 36 = .ok (.ifCond .eq 5, 3) := by decide +kernel
theorem dX11_mason_39 : decode cX11_mason 39 = .ok (.iconst 0, 1) := by decide +kernel
theorem dX11_mason_40 : decode cX11_mason 40 = .ok (.ireturn, 1) := by decide +kernel
theorem dX11_mason_41 : decode cX11_mason 41 = .ok (.iload_n 2, 1) := by decide +kernel
theorem dX11_mason_42 : decode cX11_mason 42 = .ok (.iconst 4, 1) := by decide +kernel
theorem dX11_mason_43 : decode cX11_mason 43 = .ok (.if_icmp .ge 17, 3) := by decide +kernel
theorem dX11_mason_46 : decode cX11_mason 46 = .ok (.aload_n 0, 1) := by decide +kernel
theorem dX11_mason_47 : decode cX11_mason 47 = .ok (.getfield 16, 3) := by decide +kernel
theorem dX11_mason_50 : decode cX11_mason 50 = .ok (.bipush 26, 2) := by decide +kernel
theorem dX11_mason_52 : decode cX11_mason 52 = .ok (.iconst 4, 1) := by decide +kernel
theorem dX11_mason_53 : decode cX11_mason 53 = .ok (.iload_n 1, 1) := by decide +kernel
theorem dX11_mason_54 : decode cX11_mason 54 = .ok (.imul, 1) := by decide +kernel
theorem dX11_mason_55 : decode cX11_mason 55 = .ok (.iadd, 1) := by decide +kernel
theorem dX11_mason_56 : decode cX11_mason 56 = .ok (.iload_n 2, 1) := by decide +kernel
theorem dX11_mason_57 : decode cX11_mason 57 = .ok (.iadd, 1) := by decide +kernel
theorem dX11_mason_58 : decode cX11_mason 58 = .ok (.iaload, 1) := by decide +kernel
theorem dX11_mason_59 : decode cX11_mason 59 = .ok (.ireturn, 1) := by decide +kernel
theorem dX11_mason_60 : decode cX11_mason 60 = .ok (.iload_n 2, 1) := by decide +kernel
theorem dX11_mason_61 : decode cX11_mason 61 = .ok (.iconst 4, 1) := by decide +kernel
theorem dX11_mason_62 : decode cX11_mason 62 = .ok (.if_icmp .ne 15, 3) := by decide +kernel
theorem dX11_mason_65 : decode cX11_mason 65 = .ok (.aload_n 0, 1) := by decide +kernel
theorem dX11_mason_66 : decode cX11_mason 66 = .ok (.getfield 16, 3) := by decide +kernel
theorem dX11_mason_69 : decode cX11_mason 69 = .ok (.iload_n 1, 1) := by decide +kernel
theorem dX11_mason_70 : decode cX11_mason 70 = .ok (.iconst 3, 1) := by decide +kernel
theorem dX11_mason_71 : decode cX11_mason 71 = .ok (.invokestatic 136, 3) := by decide +kernel
theorem dX11_mason_74 : decode cX11_mason 74 = .ok (.goto 22, 3) := by decide +kernel
theorem dX11_mason_77 : decode cX11_mason 77 = .ok (.aload_n 0, 1) := by decide +kernel
theorem dX11_mason_78 : decode cX11_mason 78 = .ok (.getfield 16, 3) := by decide +kernel
theorem dX11_mason_81 : decode cX11_mason 81 = .ok (.iload_n 1, 1) := by decide +kernel
theorem dX11_mason_82 : decode cX11_mason 82 = .ok (.iconst 2, 1) := by decide +kernel
theorem dX11_mason_83 : decode cX11_mason 83 = .ok (.invokestatic 136, 3) := by decide +kernel
theorem dX11_mason_86 : decode cX11_mason 86 = .ok (.aload_n 0, 1) := by decide +kernel
theorem dX11_mason_87 : decode cX11_mason 87 = .ok (.getfield 16, 3) := by decide +kernel
theorem dX11_mason_90 : decode cX11_mason 90 = .ok (.iload_n 1, 1) := by decide +kernel
theorem dX11_mason_91 : decode cX11_mason 91 = .ok (.iconst 4, 1) := by decide +kernel
theorem dX11_mason_92 : decode cX11_mason 92 = .ok (.invokestatic 136, 3) := by decide +kernel
theorem dX11_mason_95 : decode cX11_mason 95 = .ok (.iadd, 1) := by decide +kernel
theorem dX11_mason_96 : decode cX11_mason 96 = .ok (.ireturn, 1) := by decide +kernel
theorem dX11_stone_0 : decode cX11_stone 0 = .ok (.aload_n 0, 1) := by decide +kernel
theorem dX11_stone_1 : decode cX11_stone 1 = .ok (.aload_n 0, 1) := by decide +kernel
theorem dX11_stone_2 : decode cX11_stone 2 = .ok (.getfield 16, 3) := by decide +kernel
theorem dX11_stone_5 : decode cX11_stone 5 = .ok (.iload_n 1, 1) := by decide +kernel
theorem dX11_stone_6 : decode cX11_stone 6 = .ok (.invokestatic 139, 3) := by decide +kernel
theorem dX11_stone_9 : decode cX11_stone 9 = .ok (.ifCond .ne 7, 3) := by decide +kernel
theorem dX11_stone_12 : decode cX11_stone 12 = .ok (.iconst 1, 1) := by decide +kernel
theorem dX11_stone_13 : decode cX11_stone 13 = .ok (.goto 20, 3) := by decide +kernel
theorem dX11_stone_16 : decode cX11_stone 16 = .ok (.iload_n 2, 1) := by decide +kernel
theorem dX11_stone_17 : decode cX11_stone 17 = .ok (.i2l, 1) := by decide +kernel
theorem dX11_stone_18 : decode cX11_stone 18 = .ok (.lconst 0, 1) := by decide +kernel
theorem dX11_stone_19 : decode cX11_stone 19 = .ok (.ldc2_w 134, 3) := by decide +kernel
theorem dX11_stone_22 : decode cX11_stone 22 = .ok (.invokestatic 39, 3) := by decide +kernel
theorem dX11_stone_25 : decode cX11_stone 25 = .ok (.ifCond .ne 7, 3) := by decide +kernel
theorem dX11_stone_28 : decode cX11_stone 28 = .ok (.iconst 2, 1) := by decide +kernel
theorem dX11_stone_29 : decode cX11_stone 29 = .ok (.goto 4, 3) := by decide +kernel
theorem dX11_stone_32 : decode cX11_stone 32 = .ok (.iconst 0, 1) := by decide +kernel
theorem dX11_stone_33 : decode cX11_stone 33 = .ok (.invokevirtual 76, 3) := by decide +kernel
theorem dX11_stone_36 : decode cX11_stone 36 = .ok (.ifCond .eq 7, 3) := by decide +kernel
theorem dX11_stone_39 : decode cX11_stone 39 = .ok (.iconst 0, 1) := by decide +kernel
theorem dX11_stone_40 : decode cX11_stone 40 = .ok (.goto 17, 3) := by decide +kernel
theorem dX11_stone_43 : decode cX11_stone 43 = .ok (.aload_n 0, 1) := by decide +kernel
theorem dX11_stone_44 : decode cX11_stone 44 = .ok (.getfield 16, 3) := by decide +kernel
theorem dX11_stone_47 : decode cX11_stone 47 = .ok (.bipush 50, 2) := by decide +kernel
theorem dX11_stone_49 : decode cX11_stone 49 = .ok (.bipush 6, 2) := by decide +kernel
theorem dX11_stone_51 : decode cX11_stone 51 = .ok (.iload_n 1, 1) := by decide +kernel
theorem dX11_stone_52 : decode cX11_stone 52 = .ok (.imul, 1) := by decide +kernel
theorem dX11_stone_53 : decode cX11_stone 53 = .ok (.iadd, 1) := by decide +kernel
theorem dX11_stone_54 : decode cX11_stone 54 = .ok (.iload_n 2, 1) := by decide +kernel
theorem dX11_stone_55 : decode cX11_stone 55 = .ok (.iadd, 1) := by decide +kernel
theorem dX11_stone_56 : decode cX11_stone 56 = .ok (.iaload, 1) := by decide +kernel
theorem dX11_stone_57 : decode cX11_stone 57 = .ok (.ireturn, 1) := by decide +kernel
theorem dX11_whyNotSet_0 : decode cX11_whyNotSet 0 = .ok (.aload_n 0, 1) := by decide +kernel
theorem dX11_whyNotSet_1 : decode cX11_whyNotSet 1 = .ok (.aload_n 0, 1) := by decide +kernel
theorem dX11_whyNotSet_2 : decode cX11_whyNotSet 2 = .ok (.getfield 16, 3) := by decide +kernel
theorem dX11_whyNotSet_5 : decode cX11_whyNotSet 5 = .ok (.iload_n 1, 1) := by decide +kernel
theorem dX11_whyNotSet_6 : decode cX11_whyNotSet 6 = .ok (.invokestatic 139, 3) := by decide +kernel
theorem dX11_whyNotSet_9 : decode cX11_whyNotSet 9 = .ok (.ifCond .eq 7, 3) := by decide +kernel
theorem dX11_whyNotSet_12 : decode cX11_whyNotSet 12 = .ok (.iconst 0, 1) := by decide +kernel
theorem dX11_whyNotSet_13 : decode cX11_whyNotSet 13 = .ok (.goto 4, 3) := by decide +kernel
theorem dX11_whyNotSet_16 : decode cX11_whyNotSet 16 = .ok (.iconst 1, 1) := by decide +kernel
theorem dX11_whyNotSet_17 : decode cX11_whyNotSet 17 = .ok (.invokevirtual 76, 3) := by decide +kernel
theorem dX11_whyNotSet_20 : decode cX11_whyNotSet 20 = .ok (.ifCond .eq 7, 3) := by decide +kernel
theorem dX11_whyNotSet_23 : decode cX11_whyNotSet 23 = .ok (.iconst 0, 1) := by decide +kernel
theorem dX11_whyNotSet_24 : decode cX11_whyNotSet 24 = .ok (.goto 11, 3) := by decide +kernel
theorem dX11_whyNotSet_27 : decode cX11_whyNotSet 27 = .ok (.aload_n 0, 1) := by decide +kernel
theorem dX11_whyNotSet_28 : decode cX11_whyNotSet 28 = .ok (.getfield 16, 3) := by decide +kernel
theorem dX11_whyNotSet_31 : decode cX11_whyNotSet 31 = .ok (.iload_n 1, 1) := by decide +kernel
theorem dX11_whyNotSet_32 : decode cX11_whyNotSet 32 = .ok (.invokestatic 142, 3) := by decide +kernel
theorem dX11_whyNotSet_35 : decode cX11_whyNotSet 35 = .ok (.ireturn, 1) := by decide +kernel
theorem dX11_note_0 : decode cX11_note 0 = .ok (.aload_n 0, 1) := by decide +kernel
theorem dX11_note_1 : decode cX11_note 1 = .ok (.getfield 114, 3) := by decide +kernel
theorem dX11_note_4 : decode cX11_note 4 = .ok (.bipush 14, 2) := by decide +kernel
theorem dX11_note_6 : decode cX11_note 6 = .ok (.if_icmp .ne 44, 3) := by decide +kernel
theorem dX11_note_9 : decode cX11_note 9 = .ok (.iconst 0, 1) := by decide +kernel
theorem dX11_note_10 : decode cX11_note 10 = .ok (.istore_n 1, 1) := by decide +kernel
theorem dX11_note_11 : decode cX11_note 11 = .ok (.iload_n 1, 1) := by decide +kernel
theorem dX11_note_12 : decode cX11_note 12 = .ok (.sipush 2522, 3) := by decide +kernel
theorem dX11_note_15 : decode cX11_note 15 = .ok (.if_icmp .ge 25, 3) := by decide +kernel
theorem dX11_note_18 : decode cX11_note 18 = .ok (.aload_n 0, 1) := by decide +kernel
theorem dX11_note_19 : decode cX11_note 19 = .ok (.getfield 22, 3) := by decide +kernel
theorem dX11_note_22 : decode cX11_note 22 = .ok (.iload_n 1, 1) := by decide +kernel
theorem dX11_note_23 : decode cX11_note 23 = .ok (.aload_n 0, 1) := by decide +kernel
theorem dX11_note_24 : decode cX11_note 24 = .ok (.getfield 22, 3) := by decide +kernel
theorem dX11_note_27 : decode cX11_note 27 = .ok (.iload_n 1, 1) := by decide +kernel
theorem dX11_note_28 : decode cX11_note 28 = .ok (.sipush 194, 3) := by decide +kernel
theorem dX11_note_31 : decode cX11_note 31 = .ok (.iadd, 1) := by decide +kernel
theorem dX11_note_32 : decode cX11_note 32 = .ok (.iaload, 1) := by decide +kernel
theorem dX11_note_33 : decode cX11_note 33 = .ok (.iastore, 1) := by decide +kernel
theorem dX11_note_34 : decode cX11_note 34 = .ok (.iinc 1 1, 3) := by decide +kernel
theorem dX11_note_37 : decode cX11_note 37 = .ok (.goto (-26), 3) := by decide +kernel
theorem dX11_note_40 : decode cX11_note 40 = .ok (.aload_n 0, 1) := by decide +kernel
theorem dX11_note_41 : decode cX11_note 41 = .ok (.dup, 1) := by decide +kernel
theorem dX11_note_42 : decode cX11_note 42 = .ok (.getfield 114, 3) := by decide +kernel
theorem dX11_note_45 : decode cX11_note 45 = .ok (.iconst 1, 1) := by decide +kernel
theorem dX11_note_46 : decode cX11_note 46 = .ok (.isub, 1) := by decide +kernel
theorem dX11_note_47 : decode cX11_note 47 = .ok (.putfield 114, 3) := by decide +kernel
theorem dX11_note_50 : decode cX11_note 50 = .ok (.aload_n 0, 1) := by decide +kernel
theorem dX11_note_51 : decode cX11_note 51 = .ok (.getfield 16, 3) := by decide +kernel
theorem dX11_note_54 : decode cX11_note 54 = .ok (.iconst 0, 1) := by decide +kernel
theorem dX11_note_55 : decode cX11_note 55 = .ok (.aload_n 0, 1) := by decide +kernel
theorem dX11_note_56 : decode cX11_note 56 = .ok (.getfield 22, 3) := by decide +kernel
theorem dX11_note_59 : decode cX11_note 59 = .ok (.sipush 194, 3) := by decide +kernel
theorem dX11_note_62 : decode cX11_note 62 = .ok (.aload_n 0, 1) := by decide +kernel
theorem dX11_note_63 : decode cX11_note 63 = .ok (.getfield 114, 3) := by decide +kernel
theorem dX11_note_66 : decode cX11_note 66 = .ok (.imul, 1) := by decide +kernel
theorem dX11_note_67 : decode cX11_note 67 = .ok (.invokestatic 110, 3) := by decide +kernel
theorem dX11_note_70 : decode cX11_note 70 = .ok (.aload_n 0, 1) := by decide +kernel
theorem dX11_note_71 : decode cX11_note 71 = .ok (.dup, 1) := by decide +kernel
theorem dX11_note_72 : decode cX11_note 72 = .ok (.getfield 114, 3) := by decide +kernel
theorem dX11_note_75 : decode cX11_note 75 = .ok (.iconst 1, 1) := by decide +kernel
theorem dX11_note_76 : decode cX11_note 76 = .ok (.iadd, 1) := by decide +kernel
theorem dX11_note_77 : decode cX11_note 77 = .ok (.putfield 114, 3) := by decide +kernel
theorem dX11_note_80 : decode cX11_note 80 = .ok (.return_, 1) := by decide +kernel
theorem dX11_addCourse_0 : decode cX11_addCourse 0 = .ok (.iload_n 1, 1) := by decide +kernel
theorem dX11_addCourse_1 : decode cX11_addCourse 1 = .ok (.i2l, 1) := by decide +kernel
theorem dX11_addCourse_2 : decode cX11_addCourse 2 = .ok (.lconst 1, 1) := by decide +kernel
theorem dX11_addCourse_3 : decode cX11_addCourse 3 = .ok (.ldc2_w 145, 3) := by decide +kernel
theorem dX11_addCourse_6 : decode cX11_addCourse 6 = .ok (.invokestatic 39, 3) := by decide +kernel
theorem dX11_addCourse_9 : decode cX11_addCourse 9 = .ok (.ifCond .eq 31, 3) := by decide +kernel
theorem dX11_addCourse_12 : decode cX11_addCourse 12 = .ok (.iload_n 2, 1) := by decide +kernel
theorem dX11_addCourse_13 : decode cX11_addCourse 13 = .ok (.i2l, 1) := by decide +kernel
theorem dX11_addCourse_14 : decode cX11_addCourse 14 = .ok (.lconst 1, 1) := by decide +kernel
theorem dX11_addCourse_15 : decode cX11_addCourse 15 = .ok (.ldc2_w 129, 3) := by decide +kernel
theorem dX11_addCourse_18 : decode cX11_addCourse 18 = .ok (.invokestatic 39, 3) := by decide +kernel
theorem dX11_addCourse_21 : decode cX11_addCourse 21 = .ok (.ifCond .eq 19, 3) := by decide +kernel
theorem dX11_addCourse_24 : decode cX11_addCourse 24 = .ok (.iload_n 3, 1) := by decide +kernel
theorem dX11_addCourse_25 : decode cX11_addCourse 25 = .ok (.i2l, 1) := by decide +kernel
theorem dX11_addCourse_26 : decode cX11_addCourse 26 = .ok (.lconst 1, 1) := by decide +kernel
theorem dX11_addCourse_27 : decode cX11_addCourse 27 = .ok (.ldc2_w 145, 3) := by decide +kernel
theorem dX11_addCourse_30 : decode cX11_addCourse 30 = .ok (.invokestatic 39, 3) := by decide +kernel
theorem dX11_addCourse_33 : decode cX11_addCourse 33 = .ok (.ifCond .eq 7, 3) := by decide +kernel
theorem dX11_addCourse_36 : decode cX11_addCourse 36 = .ok (.iconst 1, 1) := by decide +kernel
theorem dX11_addCourse_37 : decode cX11_addCourse 37 = .ok (.goto 4, 3) := by decide +kernel
theorem dX11_addCourse_40 : decode cX11_addCourse 40 = .ok (.iconst 0, 1) := by decide +kernel
theorem dX11_addCourse_41 : decode cX11_addCourse 41 = .ok (.istore 4, 2) := by decide +kernel
theorem dX11_addCourse_43 : decode cX11_addCourse 43 = .ok (.aload_n 0, 1) := by decide +kernel
theorem dX11_addCourse_44 : decode cX11_addCourse 44 = .ok (.iload 4, 2) := by decide +kernel
theorem dX11_addCourse_46 : decode cX11_addCourse 46 = .ok (.ifCond .ne 7, 3) := by decide +kernel
theorem dX11_addCourse_49 : decode cX11_addCourse 49 = .ok (.iconst 1, 1) := by decide +kernel
theorem dX11_addCourse_50 : decode cX11_addCourse 50 = .ok (.goto 19, 3) := by decide +kernel
theorem dX11_addCourse_53 : decode cX11_addCourse 53 = .ok (.aload_n 0, 1) := by decide +kernel
theorem dX11_addCourse_54 : decode cX11_addCourse 54 = .ok (.getfield 16, 3) := by decide +kernel
theorem dX11_addCourse_57 : decode cX11_addCourse 57 = .ok (.iconst 5, 1) := by decide +kernel
theorem dX11_addCourse_58 : decode cX11_addCourse 58 = .ok (.iaload, 1) := by decide +kernel
theorem dX11_addCourse_59 : decode cX11_addCourse 59 = .ok (.bipush 6, 2) := by decide +kernel
theorem dX11_addCourse_61 : decode cX11_addCourse 61 = .ok (.if_icmp .ne 7, 3) := by decide +kernel
theorem dX11_addCourse_64 : decode cX11_addCourse 64 = .ok (.iconst 2, 1) := by decide +kernel
theorem dX11_addCourse_65 : decode cX11_addCourse 65 = .ok (.goto 4, 3) := by decide +kernel
theorem dX11_addCourse_68 : decode cX11_addCourse 68 = .ok (.iconst 0, 1) := by decide +kernel
theorem dX11_addCourse_69 : decode cX11_addCourse 69 = .ok (.invokevirtual 76, 3) := by decide +kernel
theorem dX11_addCourse_72 : decode cX11_addCourse 72 = .ok (.ifCond .eq 5, 3) := by decide +kernel
theorem dX11_addCourse_75 : decode cX11_addCourse 75 = .ok (.iconst 0, 1) := by decide +kernel
theorem dX11_addCourse_76 : decode cX11_addCourse 76 = .ok (.ireturn, 1) := by decide +kernel
theorem dX11_addCourse_77 : decode cX11_addCourse 77 = .ok (.aload_n 0, 1) := by decide +kernel
theorem dX11_addCourse_78 : decode cX11_addCourse 78 = .ok (.invokevirtual 147, 3) := by decide +kernel
theorem dX11_addCourse_81 : decode cX11_addCourse 81 = .ok (.bipush 8, 2) := by decide +kernel
theorem dX11_addCourse_83 : decode cX11_addCourse 83 = .ok (.iconst 3, 1) := by decide +kernel
theorem dX11_addCourse_84 : decode cX11_addCourse 84 = .ok (.aload_n 0, 1) := by decide +kernel
theorem dX11_addCourse_85 : decode cX11_addCourse 85 = .ok (.getfield 16, 3) := by decide +kernel
theorem dX11_addCourse_88 : decode cX11_addCourse 88 = .ok (.iconst 5, 1) := by decide +kernel
theorem dX11_addCourse_89 : decode cX11_addCourse 89 = .ok (.iaload, 1) := by decide +kernel
theorem dX11_addCourse_90 : decode cX11_addCourse 90 = .ok (.imul, 1) := by decide +kernel
theorem dX11_addCourse_91 : decode cX11_addCourse 91 = .ok (.iadd, 1) := by decide +kernel
theorem dX11_addCourse_92 : decode cX11_addCourse 92 = .ok (.istore 5, 2) := by decide +kernel
theorem dX11_addCourse_94 : decode cX11_addCourse 94 = .ok (.aload_n 0, 1) := by decide +kernel
theorem dX11_addCourse_95 : decode cX11_addCourse 95 = .ok (.getfield 16, 3) := by decide +kernel
theorem dX11_addCourse_98 : decode cX11_addCourse 98 = .ok (.iload 5, 2) := by decide +kernel
theorem dX11_addCourse_100 : decode cX11_addCourse 100 = .ok (.iload_n 1, 1) := by decide +kernel
theorem dX11_addCourse_101 : decode cX11_addCourse 101 = .ok (.iastore, 1) := by decide +kernel
theorem dX11_addCourse_102 : decode cX11_addCourse 102 = .ok (.aload_n 0, 1) := by decide +kernel
theorem dX11_addCourse_103 : decode cX11_addCourse 103 = .ok (.getfield 16, 3) := by decide +kernel
theorem dX11_addCourse_106 : decode cX11_addCourse 106 = .ok (.iload 5, 2) := by decide +kernel
theorem dX11_addCourse_108 : decode cX11_addCourse 108 = .ok (.iconst 1, 1) := by decide +kernel
theorem dX11_addCourse_109 : decode cX11_addCourse 109 = .ok (.iadd, 1) := by decide +kernel
theorem dX11_addCourse_110 : decode cX11_addCourse 110 = .ok (.iload_n 2, 1) := by decide +kernel
theorem dX11_addCourse_111 : decode cX11_addCourse 111 = .ok (.iastore, 1) := by decide +kernel
theorem dX11_addCourse_112 : decode cX11_addCourse 112 = .ok (.aload_n 0, 1) := by decide +kernel
theorem dX11_addCourse_113 : decode cX11_addCourse 113 = .ok (.getfield 16, 3) := by decide +kernel
theorem dX11_addCourse_116 : decode cX11_addCourse 116 = .ok (.iload 5, 2) := by decide +kernel
theorem dX11_addCourse_118 : decode cX11_addCourse 118 = .ok (.iconst 2, 1) := by decide +kernel
theorem dX11_addCourse_119 : decode cX11_addCourse 119 = .ok (.iadd, 1) := by decide +kernel
theorem dX11_addCourse_120 : decode cX11_addCourse 120 = .ok (.iload_n 3, 1) := by decide +kernel
theorem dX11_addCourse_121 : decode cX11_addCourse 121 = .ok (.iastore, 1) := by decide +kernel
theorem dX11_addCourse_122 : decode cX11_addCourse 122 = .ok (.aload_n 0, 1) := by decide +kernel
theorem dX11_addCourse_123 : decode cX11_addCourse 123 = .ok (.getfield 16, 3) := by decide +kernel
theorem dX11_addCourse_126 : decode cX11_addCourse 126 = .ok (.iconst 5, 1) := by decide +kernel
theorem dX11_addCourse_127 : decode cX11_addCourse 127 = .ok (.dup2, 1) := by decide +kernel
theorem dX11_addCourse_128 : decode cX11_addCourse 128 = .ok (.iaload, 1) := by decide +kernel
theorem dX11_addCourse_129 : decode cX11_addCourse 129 = .ok (.iconst 1, 1) := by decide +kernel
theorem dX11_addCourse_130 : decode cX11_addCourse 130 = .ok (.iadd, 1) := by decide +kernel
theorem dX11_addCourse_131 : decode cX11_addCourse 131 = .ok (.iastore, 1) := by decide +kernel
theorem dX11_addCourse_132 : decode cX11_addCourse 132 = .ok (.aload_n 0, 1) := by decide +kernel
theorem dX11_addCourse_133 : decode cX11_addCourse 133 = .ok (.getfield 16, 3) := by decide +kernel
theorem dX11_addCourse_136 : decode cX11_addCourse 136 = .ok (.iconst 5, 1) := by decide +kernel
theorem dX11_addCourse_137 : decode cX11_addCourse 137 = .ok (.iaload, 1) := by decide +kernel
theorem dX11_addCourse_138 : decode cX11_addCourse 138 = .ok (.iconst 1, 1) := by decide +kernel
theorem dX11_addCourse_139 : decode cX11_addCourse 139 = .ok (.isub, 1) := by decide +kernel
theorem dX11_addCourse_140 : decode cX11_addCourse 140 = .ok (.ireturn, 1) := by decide +kernel
theorem dX11_addMason_0 : decode cX11_addMason 0 = .ok (.aload_n 0, 1) := by decide +kernel
theorem dX11_addMason_1 : decode cX11_addMason 1 = .ok (.iload_n 1, 1) := by decide +kernel
theorem dX11_addMason_2 : decode cX11_addMason 2 = .ok (.i2l, 1) := by decide +kernel
theorem dX11_addMason_3 : decode cX11_addMason 3 = .ok (.lconst 1, 1) := by decide +kernel
theorem dX11_addMason_4 : decode cX11_addMason 4 = .ok (.ldc2_w 145, 3) := by decide +kernel
theorem dX11_addMason_7 : decode cX11_addMason 7 = .ok (.invokestatic 39, 3) := by decide +kernel
theorem dX11_addMason_10 : decode cX11_addMason 10 = .ok (.ifCond .eq 15, 3) := by decide +kernel
theorem dX11_addMason_13 : decode cX11_addMason 13 = .ok (.iload_n 2, 1) := by decide +kernel
theorem dX11_addMason_14 : decode cX11_addMason 14 = .ok (.i2l, 1) := by decide +kernel
theorem dX11_addMason_15 : decode cX11_addMason 15 = .ok (.lconst 1, 1) := by decide +kernel
theorem dX11_addMason_16 : decode cX11_addMason 16 = .ok (.ldc2_w 150, 3) := by decide +kernel
theorem dX11_addMason_19 : decode cX11_addMason 19 = .ok (.invokestatic 39, 3) := by decide +kernel
theorem dX11_addMason_22 : decode cX11_addMason 22 = .ok (.ifCond .ne 7, 3) := by decide +kernel
theorem dX11_addMason_25 : decode cX11_addMason 25 = .ok (.iconst 1, 1) := by decide +kernel
theorem dX11_addMason_26 : decode cX11_addMason 26 = .ok (.goto 20, 3) := by decide +kernel
theorem dX11_addMason_29 : decode cX11_addMason 29 = .ok (.aload_n 0, 1) := by decide +kernel
theorem dX11_addMason_30 : decode cX11_addMason 30 = .ok (.getfield 16, 3) := by decide +kernel
theorem dX11_addMason_33 : decode cX11_addMason 33 = .ok (.bipush 6, 2) := by decide +kernel
theorem dX11_addMason_35 : decode cX11_addMason 35 = .ok (.iaload, 1) := by decide +kernel
theorem dX11_addMason_36 : decode cX11_addMason 36 = .ok (.bipush 6, 2) := by decide +kernel
theorem dX11_addMason_38 : decode cX11_addMason 38 = .ok (.if_icmp .ne 7, 3) := by decide +kernel
theorem dX11_addMason_41 : decode cX11_addMason 41 = .ok (.iconst 2, 1) := by decide +kernel
theorem dX11_addMason_42 : decode cX11_addMason 42 = .ok (.goto 4, 3) := by decide +kernel
theorem dX11_addMason_45 : decode cX11_addMason 45 = .ok (.iconst 0, 1) := by decide +kernel
theorem dX11_addMason_46 : decode cX11_addMason 46 = .ok (.invokevirtual 76, 3) := by decide +kernel
theorem dX11_addMason_49 : decode cX11_addMason 49 = .ok (.ifCond .eq 5, 3) := by decide +kernel
theorem dX11_addMason_52 : decode cX11_addMason 52 = .ok (.iconst 0, 1) := by decide +kernel
theorem dX11_addMason_53 : decode cX11_addMason 53 = .ok (.ireturn, 1) := by decide +kernel
theorem dX11_addMason_54 : decode cX11_addMason 54 = .ok (.aload_n 0, 1) := by decide +kernel
theorem dX11_addMason_55 : decode cX11_addMason 55 = .ok (.invokevirtual 147, 3) := by decide +kernel
theorem dX11_addMason_58 : decode cX11_addMason 58 = .ok (.bipush 26, 2) := by decide +kernel
theorem dX11_addMason_60 : decode cX11_addMason 60 = .ok (.iconst 4, 1) := by decide +kernel
theorem dX11_addMason_61 : decode cX11_addMason 61 = .ok (.aload_n 0, 1) := by decide +kernel
theorem dX11_addMason_62 : decode cX11_addMason 62 = .ok (.getfield 16, 3) := by decide +kernel
theorem dX11_addMason_65 : decode cX11_addMason 65 = .ok (.bipush 6, 2) := by decide +kernel
theorem dX11_addMason_67 : decode cX11_addMason 67 = .ok (.iaload, 1) := by decide +kernel
theorem dX11_addMason_68 : decode cX11_addMason 68 = .ok (.imul, 1) := by decide +kernel
theorem dX11_addMason_69 : decode cX11_addMason 69 = .ok (.iadd, 1) := by decide +kernel
theorem dX11_addMason_70 : decode cX11_addMason 70 = .ok (.istore_n 3, 1) := by decide +kernel
theorem dX11_addMason_71 : decode cX11_addMason 71 = .ok (.aload_n 0, 1) := by decide +kernel
theorem dX11_addMason_72 : decode cX11_addMason 72 = .ok (.getfield 16, 3) := by decide +kernel
theorem dX11_addMason_75 : decode cX11_addMason 75 = .ok (.iload_n 3, 1) := by decide +kernel
theorem dX11_addMason_76 : decode cX11_addMason 76 = .ok (.iload_n 1, 1) := by decide +kernel
theorem dX11_addMason_77 : decode cX11_addMason 77 = .ok (.iastore, 1) := by decide +kernel
theorem dX11_addMason_78 : decode cX11_addMason 78 = .ok (.aload_n 0, 1) := by decide +kernel
theorem dX11_addMason_79 : decode cX11_addMason 79 = .ok (.getfield 16, 3) := by decide +kernel
theorem dX11_addMason_82 : decode cX11_addMason 82 = .ok (.iload_n 3, 1) := by decide +kernel
theorem dX11_addMason_83 : decode cX11_addMason 83 = .ok (.iconst 1, 1) := by decide +kernel
theorem dX11_addMason_84 : decode cX11_addMason 84 = .ok (.iadd, 1) := by decide +kernel
theorem dX11_addMason_85 : decode cX11_addMason 85 = .ok (.iload_n 2, 1) := by decide +kernel
theorem dX11_addMason_86 : decode cX11_addMason 86 = .ok (.iastore, 1) := by decide +kernel
theorem dX11_addMason_87 : decode cX11_addMason 87 = .ok (.aload_n 0, 1) := by decide +kernel
theorem dX11_addMason_88 : decode cX11_addMason 88 = .ok (.getfield 16, 3) := by decide +kernel
theorem dX11_addMason_91 : decode cX11_addMason 91 = .ok (.iload_n 3, 1) := by decide +kernel
theorem dX11_addMason_92 : decode cX11_addMason 92 = .ok (.iconst 2, 1) := by decide +kernel
theorem dX11_addMason_93 : decode cX11_addMason 93 = .ok (.iadd, 1) := by decide +kernel
theorem dX11_addMason_94 : decode cX11_addMason 94 = .ok (.iconst 0, 1) := by decide +kernel
theorem dX11_addMason_95 : decode cX11_addMason 95 = .ok (.iastore, 1) := by decide +kernel
theorem dX11_addMason_96 : decode cX11_addMason 96 = .ok (.aload_n 0, 1) := by decide +kernel
theorem dX11_addMason_97 : decode cX11_addMason 97 = .ok (.getfield 16, 3) := by decide +kernel
theorem dX11_addMason_100 : decode cX11_addMason 100 = .ok (.iload_n 3, 1) := by decide +kernel
theorem dX11_addMason_101 : decode cX11_addMason 101 = .ok (.iconst 3, 1) := by decide +kernel
theorem dX11_addMason_102 : decode cX11_addMason 102 = .ok (.iadd, 1) := by decide +kernel
theorem dX11_addMason_103 : decode cX11_addMason 103 = .ok (.iconst 0, 1) := by decide +kernel
theorem dX11_addMason_104 : decode cX11_addMason 104 = .ok (.iastore, 1) := by decide +kernel
theorem dX11_addMason_105 : decode cX11_addMason 105 = .ok (.aload_n 0, 1) := by decide +kernel
theorem dX11_addMason_106 : decode cX11_addMason 106 = .ok (.getfield 16, 3) := by decide +kernel
theorem dX11_addMason_109 : decode cX11_addMason 109 = .ok (.bipush 6, 2) := by decide +kernel
theorem dX11_addMason_111 : decode cX11_addMason 111 = .ok (.dup2, 1) := by decide +kernel
theorem dX11_addMason_112 : decode cX11_addMason 112 = .ok (.iaload, 1) := by decide +kernel
theorem dX11_addMason_113 : decode cX11_addMason 113 = .ok (.iconst 1, 1) := by decide +kernel
theorem dX11_addMason_114 : decode cX11_addMason 114 = .ok (.iadd, 1) := by decide +kernel
theorem dX11_addMason_115 : decode cX11_addMason 115 = .ok (.iastore, 1) := by decide +kernel
theorem dX11_addMason_116 : decode cX11_addMason 116 = .ok (.aload_n 0, 1) := by decide +kernel
theorem dX11_addMason_117 : decode cX11_addMason 117 = .ok (.getfield 16, 3) := by decide +kernel
theorem dX11_addMason_120 : decode cX11_addMason 120 = .ok (.bipush 6, 2) := by decide +kernel
theorem dX11_addMason_122 : decode cX11_addMason 122 = .ok (.iaload, 1) := by decide +kernel
theorem dX11_addMason_123 : decode cX11_addMason 123 = .ok (.iconst 1, 1) := by decide +kernel
theorem dX11_addMason_124 : decode cX11_addMason 124 = .ok (.isub, 1) := by decide +kernel
theorem dX11_addMason_125 : decode cX11_addMason 125 = .ok (.ireturn, 1) := by decide +kernel
theorem dX11_setRate_0 : decode cX11_setRate 0 = .ok (.aload_n 0, 1) := by decide +kernel
theorem dX11_setRate_1 : decode cX11_setRate 1 = .ok (.aload_n 0, 1) := by decide +kernel
theorem dX11_setRate_2 : decode cX11_setRate 2 = .ok (.getfield 16, 3) := by decide +kernel
theorem dX11_setRate_5 : decode cX11_setRate 5 = .ok (.iload_n 1, 1) := by decide +kernel
theorem dX11_setRate_6 : decode cX11_setRate 6 = .ok (.invokestatic 131, 3) := by decide +kernel
theorem dX11_setRate_9 : decode cX11_setRate 9 = .ok (.ifCond .ne 7, 3) := by decide +kernel
theorem dX11_setRate_12 : decode cX11_setRate 12 = .ok (.iconst 1, 1) := by decide +kernel
theorem dX11_setRate_13 : decode cX11_setRate 13 = .ok (.goto 20, 3) := by decide +kernel
theorem dX11_setRate_16 : decode cX11_setRate 16 = .ok (.iload_n 2, 1) := by decide +kernel
theorem dX11_setRate_17 : decode cX11_setRate 17 = .ok (.i2l, 1) := by decide +kernel
theorem dX11_setRate_18 : decode cX11_setRate 18 = .ok (.lconst 1, 1) := by decide +kernel
theorem dX11_setRate_19 : decode cX11_setRate 19 = .ok (.ldc2_w 145, 3) := by decide +kernel
theorem dX11_setRate_22 : decode cX11_setRate 22 = .ok (.invokestatic 39, 3) := by decide +kernel
theorem dX11_setRate_25 : decode cX11_setRate 25 = .ok (.ifCond .ne 7, 3) := by decide +kernel
theorem dX11_setRate_28 : decode cX11_setRate 28 = .ok (.iconst 2, 1) := by decide +kernel
theorem dX11_setRate_29 : decode cX11_setRate 29 = .ok (.goto 4, 3) := by decide +kernel
theorem dX11_setRate_32 : decode cX11_setRate 32 = .ok (.iconst 0, 1) := by decide +kernel
theorem dX11_setRate_33 : decode cX11_setRate 33 = .ok (.invokevirtual 76, 3) := by decide +kernel
theorem dX11_setRate_36 : decode cX11_setRate 36 = .ok (.ifCond .eq 5, 3) := by decide +kernel
theorem dX11_setRate_39 : decode cX11_setRate 39 = .ok (.iconst 0, 1) := by decide +kernel
theorem dX11_setRate_40 : decode cX11_setRate 40 = .ok (.ireturn, 1) := by decide +kernel
theorem dX11_setRate_41 : decode cX11_setRate 41 = .ok (.aload_n 0, 1) := by decide +kernel
theorem dX11_setRate_42 : decode cX11_setRate 42 = .ok (.invokevirtual 147, 3) := by decide +kernel
theorem dX11_setRate_45 : decode cX11_setRate 45 = .ok (.aload_n 0, 1) := by decide +kernel
theorem dX11_setRate_46 : decode cX11_setRate 46 = .ok (.getfield 16, 3) := by decide +kernel
theorem dX11_setRate_49 : decode cX11_setRate 49 = .ok (.bipush 26, 2) := by decide +kernel
theorem dX11_setRate_51 : decode cX11_setRate 51 = .ok (.iconst 4, 1) := by decide +kernel
theorem dX11_setRate_52 : decode cX11_setRate 52 = .ok (.iload_n 1, 1) := by decide +kernel
theorem dX11_setRate_53 : decode cX11_setRate 53 = .ok (.imul, 1) := by decide +kernel
theorem dX11_setRate_54 : decode cX11_setRate 54 = .ok (.iadd, 1) := by decide +kernel
theorem dX11_setRate_55 : decode cX11_setRate 55 = .ok (.iaload, 1) := by decide +kernel
theorem dX11_setRate_56 : decode cX11_setRate 56 = .ok (.istore_n 3, 1) := by decide +kernel
theorem dX11_setRate_57 : decode cX11_setRate 57 = .ok (.aload_n 0, 1) := by decide +kernel
theorem dX11_setRate_58 : decode cX11_setRate 58 = .ok (.getfield 16, 3) := by decide +kernel
theorem dX11_setRate_61 : decode cX11_setRate 61 = .ok (.bipush 26, 2) := by decide +kernel
theorem dX11_setRate_63 : decode cX11_setRate 63 = .ok (.iconst 4, 1) := by decide +kernel
theorem dX11_setRate_64 : decode cX11_setRate 64 = .ok (.iload_n 1, 1) := by decide +kernel
theorem dX11_setRate_65 : decode cX11_setRate 65 = .ok (.imul, 1) := by decide +kernel
theorem dX11_setRate_66 : decode cX11_setRate 66 = .ok (.iadd, 1) := by decide +kernel
theorem dX11_setRate_67 : decode cX11_setRate 67 = .ok (.iload_n 2, 1) := by decide +kernel
theorem dX11_setRate_68 : decode cX11_setRate 68 = .ok (.iastore, 1) := by decide +kernel
theorem dX11_setRate_69 : decode cX11_setRate 69 = .ok (.iload_n 3, 1) := by decide +kernel
theorem dX11_setRate_70 : decode cX11_setRate 70 = .ok (.ireturn, 1) := by decide +kernel
theorem dX11_setBound_0 : decode cX11_setBound 0 = .ok (.aload_n 0, 1) := by decide +kernel
theorem dX11_setBound_1 : decode cX11_setBound 1 = .ok (.iload_n 1, 1) := by decide +kernel
theorem dX11_setBound_2 : decode cX11_setBound 2 = .ok (.i2l, 1) := by decide +kernel
theorem dX11_setBound_3 : decode cX11_setBound 3 = .ok (.lconst 0, 1) := by decide +kernel
theorem dX11_setBound_4 : decode cX11_setBound 4 = .ok (.ldc2_w 145, 3) := by decide +kernel
theorem dX11_setBound_7 : decode cX11_setBound 7 = .ok (.invokestatic 39, 3) := by decide +kernel
theorem dX11_setBound_10 : decode cX11_setBound 10 = .ok (.ifCond .eq 7, 3) := by decide +kernel
theorem dX11_setBound_13 : decode cX11_setBound 13 = .ok (.iconst 0, 1) := by decide +kernel
theorem dX11_setBound_14 : decode cX11_setBound 14 = .ok (.goto 4, 3) := by decide +kernel
theorem dX11_setBound_17 : decode cX11_setBound 17 = .ok (.iconst 1, 1) := by decide +kernel
theorem dX11_setBound_18 : decode cX11_setBound 18 = .ok (.invokevirtual 76, 3) := by decide +kernel
theorem dX11_setBound_21 : decode cX11_setBound 21 = .ok (.ifCond .eq 5, 3) := by decide +kernel
theorem dX11_setBound_24 : decode cX11_setBound 24 = .ok (.iconst 0, 1) := by decide +kernel
theorem dX11_setBound_25 : decode cX11_setBound 25 = .ok (.ireturn, 1) := by decide +kernel
theorem dX11_setBound_26 : decode cX11_setBound 26 = .ok (.aload_n 0, 1) := by decide +kernel
theorem dX11_setBound_27 : decode cX11_setBound 27 = .ok (.invokevirtual 147, 3) := by decide +kernel
theorem dX11_setBound_30 : decode cX11_setBound 30 = .ok (.aload_n 0, 1) := by decide +kernel
theorem dX11_setBound_31 : decode cX11_setBound 31 = .ok (.getfield 16, 3) := by decide +kernel
theorem dX11_setBound_34 : decode cX11_setBound 34 = .ok (.iconst 0, 1) := by decide +kernel
theorem dX11_setBound_35 : decode cX11_setBound 35 = .ok (.iaload, 1) := by decide +kernel
theorem dX11_setBound_36 : decode cX11_setBound 36 = .ok (.istore_n 2, 1) := by decide +kernel
theorem dX11_setBound_37 : decode cX11_setBound 37 = .ok (.aload_n 0, 1) := by decide +kernel
theorem dX11_setBound_38 : decode cX11_setBound 38 = .ok (.getfield 16, 3) := by decide +kernel
theorem dX11_setBound_41 : decode cX11_setBound 41 = .ok (.iconst 0, 1) := by decide +kernel
theorem dX11_setBound_42 : decode cX11_setBound 42 = .ok (.iload_n 1, 1) := by decide +kernel
theorem dX11_setBound_43 : decode cX11_setBound 43 = .ok (.iastore, 1) := by decide +kernel
theorem dX11_setBound_44 : decode cX11_setBound 44 = .ok (.iload_n 2, 1) := by decide +kernel
theorem dX11_setBound_45 : decode cX11_setBound 45 = .ok (.ireturn, 1) := by decide +kernel
theorem dX11_cut_0 : decode cX11_cut 0 = .ok (.aload_n 0, 1) := by decide +kernel
theorem dX11_cut_1 : decode cX11_cut 1 = .ok (.getfield 16, 3) := by decide +kernel
theorem dX11_cut_4 : decode cX11_cut 4 = .ok (.iload_n 1, 1) := by decide +kernel
theorem dX11_cut_5 : decode cX11_cut 5 = .ok (.invokestatic 131, 3) := by decide +kernel
theorem dX11_cut_8 : decode cX11_cut 8 = .ok (.ifCond .eq 18, 3) := by decide +kernel
theorem dX11_cut_11 : decode cX11_cut 11 = .ok (.aload_n 0, 1) := by decide +kernel
theorem dX11_cut_12 : decode cX11_cut 12 = .ok (.getfield 16, 3) := by decide +kernel
theorem dX11_cut_15 : decode cX11_cut 15 = .ok (.iload_n 2, 1) := by decide +kernel
theorem dX11_cut_16 : decode cX11_cut 16 = .ok (.invokestatic 126, 3) := by decide +kernel
theorem dX11_cut_19 : decode cX11_cut 19 = .ok (.ifCond .eq 7, 3) := by decide +kernel
theorem dX11_cut_22 : decode cX11_cut 22 = .ok (.iconst 1, 1) := by decide +kernel
theorem dX11_cut_23 : decode cX11_cut 23 = .ok (.goto 4, 3) := by decide +kernel
theorem dX11_cut_26 : decode cX11_cut 26 = .ok (.iconst 0, 1) := by decide +kernel
theorem dX11_cut_27 : decode cX11_cut 27 = .ok (.istore 4, 2) := by decide +kernel
theorem dX11_cut_29 : decode cX11_cut 29 = .ok (.aload_n 0, 1) := by decide +kernel
theorem dX11_cut_30 : decode cX11_cut 30 = .ok (.iload 4, 2) := by decide +kernel
theorem dX11_cut_32 : decode cX11_cut 32 = .ok (.ifCond .ne 7, 3) := by decide +kernel
theorem dX11_cut_35 : decode cX11_cut 35 = .ok (.iconst 1, 1) := by decide +kernel
theorem dX11_cut_36 : decode cX11_cut 36 = .ok (.goto 36, 3) := by decide +kernel
theorem dX11_cut_39 : decode cX11_cut 39 = .ok (.iload_n 3, 1) := by decide +kernel
theorem dX11_cut_40 : decode cX11_cut 40 = .ok (.i2l, 1) := by decide +kernel
theorem dX11_cut_41 : decode cX11_cut 41 = .ok (.lconst 0, 1) := by decide +kernel
theorem dX11_cut_42 : decode cX11_cut 42 = .ok (.ldc2_w 145, 3) := by decide +kernel
theorem dX11_cut_45 : decode cX11_cut 45 = .ok (.invokestatic 39, 3) := by decide +kernel
theorem dX11_cut_48 : decode cX11_cut 48 = .ok (.ifCond .ne 7, 3) := by decide +kernel
theorem dX11_cut_51 : decode cX11_cut 51 = .ok (.iconst 2, 1) := by decide +kernel
theorem dX11_cut_52 : decode cX11_cut 52 = .ok (.goto 20, 3) := by decide +kernel
theorem dX11_cut_55 : decode cX11_cut 55 = .ok (.aload_n 0, 1) := by decide +kernel
theorem dX11_cut_56 : decode cX11_cut 56 = .ok (.getfield 16, 3) := by decide +kernel
theorem dX11_cut_59 : decode cX11_cut 59 = .ok (.iload_n 1, 1) := by decide +kernel
theorem dX11_cut_60 : decode cX11_cut 60 = .ok (.iload_n 2, 1) := by decide +kernel
theorem dX11_cut_61 : decode cX11_cut 61 = .ok (.invokestatic 152, 3) := by decide +kernel
theorem dX11_cut_64 : decode cX11_cut 64 = .ok (.ifCond .ne 7, 3) := by decide +kernel
theorem dX11_cut_67 : decode cX11_cut 67 = .ok (.iconst 3, 1) := by decide +kernel
theorem dX11_cut_68 : decode cX11_cut 68 = .ok (.goto 4, 3) := by decide +kernel
theorem dX11_cut_71 : decode cX11_cut 71 = .ok (.iconst 0, 1) := by decide +kernel
theorem dX11_cut_72 : decode cX11_cut 72 = .ok (.invokevirtual 76, 3) := by decide +kernel
theorem dX11_cut_75 : decode cX11_cut 75 = .ok (.ifCond .eq 5, 3) := by decide +kernel
theorem dX11_cut_78 : decode cX11_cut 78 = .ok (.iconst 0, 1) := by decide +kernel
theorem dX11_cut_79 : decode cX11_cut 79 = .ok (.ireturn, 1) := by decide +kernel
theorem dX11_cut_80 : decode cX11_cut 80 = .ok (.aload_n 0, 1) := by decide +kernel
theorem dX11_cut_81 : decode cX11_cut 81 = .ok (.invokevirtual 147, 3) := by decide +kernel
theorem dX11_cut_84 : decode cX11_cut 84 = .ok (.aload_n 0, 1) := by decide +kernel
theorem dX11_cut_85 : decode cX11_cut 85 = .ok (.getfield 16, 3) := by decide +kernel
theorem dX11_cut_88 : decode cX11_cut 88 = .ok (.iload_n 1, 1) := by decide +kernel
theorem dX11_cut_89 : decode cX11_cut 89 = .ok (.iload_n 2, 1) := by decide +kernel
theorem dX11_cut_90 : decode cX11_cut 90 = .ok (.iload_n 3, 1) := by decide +kernel
theorem dX11_cut_91 : decode cX11_cut 91 = .ok (.invokestatic 156, 3) := by decide +kernel
theorem dX11_cut_94 : decode cX11_cut 94 = .ok (.ireturn, 1) := by decide +kernel
theorem dX11_inspect_0 : decode cX11_inspect 0 = .ok (.aload_n 0, 1) := by decide +kernel
theorem dX11_inspect_1 : decode cX11_inspect 1 = .ok (.aload_n 0, 1) := by decide +kernel
theorem dX11_inspect_2 : decode cX11_inspect 2 = .ok (.getfield 16, 3) := by decide +kernel
theorem dX11_inspect_5 : decode cX11_inspect 5 = .ok (.iload_n 1, 1) := by decide +kernel
theorem dX11_inspect_6 : decode cX11_inspect 6 = .ok (.invokestatic 139, 3) := by decide +kernel
theorem dX11_inspect_9 : decode cX11_inspect 9 = .ok (.ifCond .ne 7, 3) := by decide +kernel
theorem dX11_inspect_12 : decode cX11_inspect 12 = .ok (.iconst 1, 1) := by decide +kernel
theorem dX11_inspect_13 : decode cX11_inspect 13 = .ok (.goto 25, 3) := by decide +kernel
theorem dX11_inspect_16 : decode cX11_inspect 16 = .ok (.aload_n 0, 1) := by decide +kernel
theorem dX11_inspect_17 : decode cX11_inspect 17 = .ok (.getfield 16, 3) := by decide +kernel
theorem dX11_inspect_20 : decode cX11_inspect 20 = .ok (.bipush 50, 2) := by decide +kernel
theorem dX11_inspect_22 : decode cX11_inspect 22 = .ok (.bipush 6, 2) := by decide +kernel
theorem dX11_inspect_24 : decode cX11_inspect 24 = .ok (.iload_n 1, 1) := by decide +kernel
theorem dX11_inspect_25 : decode cX11_inspect 25 = .ok (.imul, 1) := by decide +kernel
theorem dX11_inspect_26 : decode cX11_inspect 26 = .ok (.iadd, 1) := by decide +kernel
theorem dX11_inspect_27 : decode cX11_inspect 27 = .ok (.iconst 3, 1) := by decide +kernel
theorem dX11_inspect_28 : decode cX11_inspect 28 = .ok (.iadd, 1) := by decide +kernel
theorem dX11_inspect_29 : decode cX11_inspect 29 = .ok (.iaload, 1) := by decide +kernel
theorem dX11_inspect_30 : decode cX11_inspect 30 = .ok (.ifCond .eq 7, 3) := by decide +kernel
theorem dX11_inspect_33 : decode cX11_inspect 33 = .ok (.iconst 2, 1) := by decide +kernel
theorem dX11_inspect_34 : decode cX11_inspect 34 = .ok (.goto 4, 3) := by decide +kernel
theorem dX11_inspect_37 : decode cX11_inspect 37 = .ok (.iconst 0, 1) := by decide +kernel
theorem dX11_inspect_38 : decode cX11_inspect 38 = .ok (.invokevirtual 76, 3) := by decide +kernel
theorem dX11_inspect_41 : decode cX11_inspect 41 = .ok (.ifCond .eq 5, 3) := by decide +kernel
theorem dX11_inspect_44 : decode cX11_inspect 44 = .ok (.iconst 0, 1) := by decide +kernel
theorem dX11_inspect_45 : decode cX11_inspect 45 = .ok (.ireturn, 1) := by decide +kernel
theorem dX11_inspect_46 : decode cX11_inspect 46 = .ok (.aload_n 0, 1) := by decide +kernel
theorem dX11_inspect_47 : decode cX11_inspect 47 = .ok (.invokevirtual 147, 3) := by decide +kernel
theorem dX11_inspect_50 : decode cX11_inspect 50 = .ok (.aload_n 0, 1) := by decide +kernel
theorem dX11_inspect_51 : decode cX11_inspect 51 = .ok (.getfield 16, 3) := by decide +kernel
theorem dX11_inspect_54 : decode cX11_inspect 54 = .ok (.iload_n 1, 1) := by decide +kernel
theorem dX11_inspect_55 : decode cX11_inspect 55 = .ok (.invokestatic 159, 3) := by decide +kernel
theorem dX11_inspect_58 : decode cX11_inspect 58 = .ok (.ireturn, 1) := by decide +kernel
theorem dX11_recut_0 : decode cX11_recut 0 = .ok (.aload_n 0, 1) := by decide +kernel
theorem dX11_recut_1 : decode cX11_recut 1 = .ok (.getfield 16, 3) := by decide +kernel
theorem dX11_recut_4 : decode cX11_recut 4 = .ok (.iload_n 1, 1) := by decide +kernel
theorem dX11_recut_5 : decode cX11_recut 5 = .ok (.invokestatic 131, 3) := by decide +kernel
theorem dX11_recut_8 : decode cX11_recut 8 = .ok (.ifCond .eq 29, 3) := by decide +kernel
theorem dX11_recut_11 : decode cX11_recut 11 = .ok (.aload_n 0, 1) := by decide +kernel
theorem dX11_recut_12 : decode cX11_recut 12 = .ok (.getfield 16, 3) := by decide +kernel
theorem dX11_recut_15 : decode cX11_recut 15 = .ok (.iload_n 2, 1) := by decide +kernel
theorem dX11_recut_16 : decode cX11_recut 16 = .ok (.invokestatic 139, 3) := by decide +kernel
theorem dX11_recut_19 : decode cX11_recut 19 = .ok (.ifCond .eq 18, 3) := by decide +kernel
theorem dX11_recut_22 : decode cX11_recut 22 = .ok (.aload_n 0, 1) := by decide +kernel
theorem dX11_recut_23 : decode cX11_recut 23 = .ok (.getfield 16, 3) := by decide +kernel
theorem dX11_recut_26 : decode cX11_recut 26 = .ok (.iload_n 3, 1) := by decide +kernel
theorem dX11_recut_27 : decode cX11_recut 27 = .ok (.invokestatic 126, 3) := by decide +kernel
theorem dX11_recut_30 : decode cX11_recut 30 = .ok (.ifCond .eq 7, 3) := by decide +kernel
theorem dX11_recut_33 : decode cX11_recut 33 = .ok (.iconst 1, 1) := by decide +kernel
theorem dX11_recut_34 : decode cX11_recut 34 = .ok (.goto 4, 3) := by decide +kernel
theorem dX11_recut_37 : decode cX11_recut 37 = .ok (.iconst 0, 1) := by decide +kernel
theorem dX11_recut_38 : decode cX11_recut 38 = .ok (.istore 4, 2) := by decide +kernel
theorem dX11_recut_40 : decode cX11_recut 40 = .ok (.aload_n 0, 1) := by decide +kernel
theorem dX11_recut_41 : decode cX11_recut 41 = .ok (.iload 4, 2) := by decide +kernel
theorem dX11_recut_43 : decode cX11_recut 43 = .ok (.ifCond .ne 7, 3) := by decide +kernel
theorem dX11_recut_46 : decode cX11_recut 46 = .ok (.iconst 1, 1) := by decide +kernel
theorem dX11_recut_47 : decode cX11_recut 47 = .ok (.goto 21, 3) := by decide +kernel
theorem dX11_recut_50 : decode cX11_recut 50 = .ok (.aload_n 0, 1) := by decide +kernel
theorem dX11_recut_51 : decode cX11_recut 51 = .ok (.getfield 16, 3) := by decide +kernel
theorem dX11_recut_54 : decode cX11_recut 54 = .ok (.iload_n 1, 1) := by decide +kernel
theorem dX11_recut_55 : decode cX11_recut 55 = .ok (.iload_n 2, 1) := by decide +kernel
theorem dX11_recut_56 : decode cX11_recut 56 = .ok (.iload_n 3, 1) := by decide +kernel
theorem dX11_recut_57 : decode cX11_recut 57 = .ok (.invokestatic 162, 3) := by decide +kernel
theorem dX11_recut_60 : decode cX11_recut 60 = .ok (.ifCond .ne 7, 3) := by decide +kernel
theorem dX11_recut_63 : decode cX11_recut 63 = .ok (.iconst 2, 1) := by decide +kernel
theorem dX11_recut_64 : decode cX11_recut 64 = .ok (.goto 4, 3) := by decide +kernel
theorem dX11_recut_67 : decode cX11_recut 67 = .ok (.iconst 0, 1) := by decide +kernel
theorem dX11_recut_68 : decode cX11_recut 68 = .ok (.invokevirtual 76, 3) := by decide +kernel
theorem dX11_recut_71 : decode cX11_recut 71 = .ok (.ifCond .eq 5, 3) := by decide +kernel
theorem dX11_recut_74 : decode cX11_recut 74 = .ok (.iconst 0, 1) := by decide +kernel
theorem dX11_recut_75 : decode cX11_recut 75 = .ok (.ireturn, 1) := by decide +kernel
theorem dX11_recut_76 : decode cX11_recut 76 = .ok (.aload_n 0, 1) := by decide +kernel
theorem dX11_recut_77 : decode cX11_recut 77 = .ok (.invokevirtual 147, 3) := by decide +kernel
theorem dX11_recut_80 : decode cX11_recut 80 = .ok (.aload_n 0, 1) := by decide +kernel
theorem dX11_recut_81 : decode cX11_recut 81 = .ok (.getfield 16, 3) := by decide +kernel
theorem dX11_recut_84 : decode cX11_recut 84 = .ok (.iload_n 1, 1) := by decide +kernel
theorem dX11_recut_85 : decode cX11_recut 85 = .ok (.iload_n 2, 1) := by decide +kernel
theorem dX11_recut_86 : decode cX11_recut 86 = .ok (.iload_n 3, 1) := by decide +kernel
theorem dX11_recut_87 : decode cX11_recut 87 = .ok (.invokestatic 166, 3) := by decide +kernel
theorem dX11_recut_90 : decode cX11_recut 90 = .ok (.ireturn, 1) := by decide +kernel
theorem dX11_scrap_0 : decode cX11_scrap 0 = .ok (.aload_n 0, 1) := by decide +kernel
theorem dX11_scrap_1 : decode cX11_scrap 1 = .ok (.aload_n 0, 1) := by decide +kernel
theorem dX11_scrap_2 : decode cX11_scrap 2 = .ok (.getfield 16, 3) := by decide +kernel
theorem dX11_scrap_5 : decode cX11_scrap 5 = .ok (.iload_n 1, 1) := by decide +kernel
theorem dX11_scrap_6 : decode cX11_scrap 6 = .ok (.invokestatic 139, 3) := by decide +kernel
theorem dX11_scrap_9 : decode cX11_scrap 9 = .ok (.ifCond .ne 7, 3) := by decide +kernel
theorem dX11_scrap_12 : decode cX11_scrap 12 = .ok (.iconst 1, 1) := by decide +kernel
theorem dX11_scrap_13 : decode cX11_scrap 13 = .ok (.goto 26, 3) := by decide +kernel
theorem dX11_scrap_16 : decode cX11_scrap 16 = .ok (.aload_n 0, 1) := by decide +kernel
theorem dX11_scrap_17 : decode cX11_scrap 17 = .ok (.getfield 16, 3) := by decide +kernel
theorem dX11_scrap_20 : decode cX11_scrap 20 = .ok (.bipush 50, 2) := by decide +kernel
theorem dX11_scrap_22 : decode cX11_scrap 22 = .ok (.bipush 6, 2) := by decide +kernel
theorem dX11_scrap_24 : decode cX11_scrap 24 = .ok (.iload_n 1, 1) := by decide +kernel
theorem dX11_scrap_25 : decode cX11_scrap 25 = .ok (.imul, 1) := by decide +kernel
theorem dX11_scrap_26 : decode cX11_scrap 26 = .ok (.iadd, 1) := by decide +kernel
theorem dX11_scrap_27 : decode cX11_scrap 27 = .ok (.iconst 3, 1) := by decide +kernel
theorem dX11_scrap_28 : decode cX11_scrap 28 = .ok (.iadd, 1) := by decide +kernel
theorem dX11_scrap_29 : decode cX11_scrap 29 = .ok (.iaload, 1) := by decide +kernel
theorem dX11_scrap_30 : decode cX11_scrap 30 = .ok (.iconst 2, 1) := by decide +kernel
theorem dX11_scrap_31 : decode cX11_scrap 31 = .ok (.if_icmp .eq 7, 3) := by decide +kernel
theorem dX11_scrap_34 : decode cX11_scrap 34 = .ok (.iconst 2, 1) := by decide +kernel
theorem dX11_scrap_35 : decode cX11_scrap 35 = .ok (.goto 4, 3) := by decide +kernel
theorem dX11_scrap_38 : decode cX11_scrap 38 = .ok (.iconst 0, 1) := by decide +kernel
theorem dX11_scrap_39 : decode cX11_scrap 39 = .ok (.invokevirtual 76, 3) := by decide +kernel
theorem dX11_scrap_42 : decode cX11_scrap 42 = .ok (.ifCond .eq 5, 3) := by decide +kernel
theorem dX11_scrap_45 : decode cX11_scrap 45 = .ok (.iconst 0, 1) := by decide +kernel
theorem dX11_scrap_46 : decode cX11_scrap 46 = .ok (.ireturn, 1) := by decide +kernel
theorem dX11_scrap_47 : decode cX11_scrap 47 = .ok (.aload_n 0, 1) := by decide +kernel
theorem dX11_scrap_48 : decode cX11_scrap 48 = .ok (.invokevirtual 147, 3) := by decide +kernel
theorem dX11_scrap_51 : decode cX11_scrap 51 = .ok (.aload_n 0, 1) := by decide +kernel
theorem dX11_scrap_52 : decode cX11_scrap 52 = .ok (.getfield 16, 3) := by decide +kernel
theorem dX11_scrap_55 : decode cX11_scrap 55 = .ok (.bipush 50, 2) := by decide +kernel
theorem dX11_scrap_57 : decode cX11_scrap 57 = .ok (.bipush 6, 2) := by decide +kernel
theorem dX11_scrap_59 : decode cX11_scrap 59 = .ok (.iload_n 1, 1) := by decide +kernel
theorem dX11_scrap_60 : decode cX11_scrap 60 = .ok (.imul, 1) := by decide +kernel
theorem dX11_scrap_61 : decode cX11_scrap 61 = .ok (.iadd, 1) := by decide +kernel
theorem dX11_scrap_62 : decode cX11_scrap 62 = .ok (.iconst 3, 1) := by decide +kernel
theorem dX11_scrap_63 : decode cX11_scrap 63 = .ok (.iadd, 1) := by decide +kernel
theorem dX11_scrap_64 : decode cX11_scrap 64 = .ok (.iconst 4, 1) := by decide +kernel
theorem dX11_scrap_65 : decode cX11_scrap 65 = .ok (.iastore, 1) := by decide +kernel
theorem dX11_scrap_66 : decode cX11_scrap 66 = .ok (.aload_n 0, 1) := by decide +kernel
theorem dX11_scrap_67 : decode cX11_scrap 67 = .ok (.getfield 16, 3) := by decide +kernel
theorem dX11_scrap_70 : decode cX11_scrap 70 = .ok (.iconst 4, 1) := by decide +kernel
theorem dX11_scrap_71 : decode cX11_scrap 71 = .ok (.invokestatic 119, 3) := by decide +kernel
theorem dX11_scrap_74 : decode cX11_scrap 74 = .ok (.ireturn, 1) := by decide +kernel
theorem dX11_set_0 : decode cX11_set 0 = .ok (.aload_n 0, 1) := by decide +kernel
theorem dX11_set_1 : decode cX11_set 1 = .ok (.aload_n 0, 1) := by decide +kernel
theorem dX11_set_2 : decode cX11_set 2 = .ok (.getfield 16, 3) := by decide +kernel
theorem dX11_set_5 : decode cX11_set 5 = .ok (.iload_n 1, 1) := by decide +kernel
theorem dX11_set_6 : decode cX11_set 6 = .ok (.invokestatic 139, 3) := by decide +kernel
theorem dX11_set_9 : decode cX11_set 9 = .ok (.ifCond .ne 7, 3) := by decide +kernel
theorem dX11_set_12 : decode cX11_set 12 = .ok (.iconst 1, 1) := by decide +kernel
theorem dX11_set_13 : decode cX11_set 13 = .ok (.goto 19, 3) := by decide +kernel
theorem dX11_set_16 : decode cX11_set 16 = .ok (.aload_n 0, 1) := by decide +kernel
theorem dX11_set_17 : decode cX11_set 17 = .ok (.getfield 16, 3) := by decide +kernel
theorem dX11_set_20 : decode cX11_set 20 = .ok (.iload_n 1, 1) := by decide +kernel
theorem dX11_set_21 : decode cX11_set 21 = .ok (.invokestatic 142, 3) := by decide +kernel
theorem dX11_set_24 : decode cX11_set 24 = .ok (.ifCond .eq 7, 3) := by decide +kernel
theorem dX11_set_27 : decode cX11_set 27 = .ok (.iconst 2, 1) := by decide +kernel
theorem dX11_set_28 : decode cX11_set 28 = .ok (.goto 4, 3) := by decide +kernel
theorem dX11_set_31 : decode cX11_set 31 = .ok (.iconst 0, 1) := by decide +kernel
theorem dX11_set_32 : decode cX11_set 32 = .ok (.invokevirtual 76, 3) := by decide +kernel
theorem dX11_set_35 : decode cX11_set 35 = .ok (.ifCond .eq 5, 3) := by decide +kernel
theorem dX11_set_38 : decode cX11_set 38 = .ok (.iconst 0, 1) := by decide +kernel
theorem dX11_set_39 : decode cX11_set 39 = .ok (.ireturn, 1) := by decide +kernel
theorem dX11_set_40 : decode cX11_set 40 = .ok (.aload_n 0, 1) := by decide +kernel
theorem dX11_set_41 : decode cX11_set 41 = .ok (.invokevirtual 147, 3) := by decide +kernel
theorem dX11_set_44 : decode cX11_set 44 = .ok (.aload_n 0, 1) := by decide +kernel
theorem dX11_set_45 : decode cX11_set 45 = .ok (.getfield 16, 3) := by decide +kernel
theorem dX11_set_48 : decode cX11_set 48 = .ok (.bipush 50, 2) := by decide +kernel
theorem dX11_set_50 : decode cX11_set 50 = .ok (.bipush 6, 2) := by decide +kernel
theorem dX11_set_52 : decode cX11_set 52 = .ok (.iload_n 1, 1) := by decide +kernel
theorem dX11_set_53 : decode cX11_set 53 = .ok (.imul, 1) := by decide +kernel
theorem dX11_set_54 : decode cX11_set 54 = .ok (.iadd, 1) := by decide +kernel
theorem dX11_set_55 : decode cX11_set 55 = .ok (.iconst 3, 1) := by decide +kernel
theorem dX11_set_56 : decode cX11_set 56 = .ok (.iadd, 1) := by decide +kernel
theorem dX11_set_57 : decode cX11_set 57 = .ok (.iconst 3, 1) := by decide +kernel
theorem dX11_set_58 : decode cX11_set 58 = .ok (.iastore, 1) := by decide +kernel
theorem dX11_set_59 : decode cX11_set 59 = .ok (.aload_n 0, 1) := by decide +kernel
theorem dX11_set_60 : decode cX11_set 60 = .ok (.getfield 16, 3) := by decide +kernel
theorem dX11_set_63 : decode cX11_set 63 = .ok (.aload_n 0, 1) := by decide +kernel
theorem dX11_set_64 : decode cX11_set 64 = .ok (.getfield 16, 3) := by decide +kernel
theorem dX11_set_67 : decode cX11_set 67 = .ok (.bipush 50, 2) := by decide +kernel
theorem dX11_set_69 : decode cX11_set 69 = .ok (.bipush 6, 2) := by decide +kernel
theorem dX11_set_71 : decode cX11_set 71 = .ok (.iload_n 1, 1) := by decide +kernel
theorem dX11_set_72 : decode cX11_set 72 = .ok (.imul, 1) := by decide +kernel
theorem dX11_set_73 : decode cX11_set 73 = .ok (.iadd, 1) := by decide +kernel
theorem dX11_set_74 : decode cX11_set 74 = .ok (.iaload, 1) := by decide +kernel
theorem dX11_set_75 : decode cX11_set 75 = .ok (.iconst 3, 1) := by decide +kernel
theorem dX11_set_76 : decode cX11_set 76 = .ok (.invokestatic 43, 3) := by decide +kernel
theorem dX11_set_79 : decode cX11_set 79 = .ok (.ireturn, 1) := by decide +kernel
theorem dX11_pay_0 : decode cX11_pay 0 = .ok (.aload_n 0, 1) := by decide +kernel
theorem dX11_pay_1 : decode cX11_pay 1 = .ok (.iconst 0, 1) := by decide +kernel
theorem dX11_pay_2 : decode cX11_pay 2 = .ok (.putfield 35, 3) := by decide +kernel
theorem dX11_pay_5 : decode cX11_pay 5 = .ok (.aload_n 0, 1) := by decide +kernel
theorem dX11_pay_6 : decode cX11_pay 6 = .ok (.invokevirtual 147, 3) := by decide +kernel
theorem dX11_pay_9 : decode cX11_pay 9 = .ok (.aload_n 0, 1) := by decide +kernel
theorem dX11_pay_10 : decode cX11_pay 10 = .ok (.getfield 16, 3) := by decide +kernel
theorem dX11_pay_13 : decode cX11_pay 13 = .ok (.invokestatic 122, 3) := by decide +kernel
theorem dX11_pay_16 : decode cX11_pay 16 = .ok (.istore_n 1, 1) := by decide +kernel
theorem dX11_pay_17 : decode cX11_pay 17 = .ok (.iconst 0, 1) := by decide +kernel
theorem dX11_pay_18 : decode cX11_pay 18 = .ok (.istore_n 2, 1) := by decide +kernel
theorem dX11_pay_19 : decode cX11_pay 19 = .ok (.iload_n 2, 1) := by decide +kernel
theorem dX11_pay_20 : decode cX11_pay 20 = .ok (.aload_n 0, 1) := by decide +kernel
theorem dX11_pay_21 : decode cX11_pay 21 = .ok (.getfield 16, 3) := by decide +kernel
theorem dX11_pay_24 : decode cX11_pay 24 = .ok (.bipush 6, 2) := by decide +kernel
theorem dX11_pay_26 : decode cX11_pay 26 = .ok (.iaload, 1) := by decide +kernel
theorem dX11_pay_27 : decode cX11_pay 27 = .ok (.if_icmp .ge 23, 3) := by decide +kernel
theorem dX11_pay_30 : decode cX11_pay 30 = .ok (.aload_n 0, 1) := by decide +kernel
theorem dX11_pay_31 : decode cX11_pay 31 = .ok (.getfield 16, 3) := by decide +kernel
theorem dX11_pay_34 : decode cX11_pay 34 = .ok (.bipush 26, 2) := by decide +kernel
theorem dX11_pay_36 : decode cX11_pay 36 = .ok (.iconst 4, 1) := by decide +kernel
theorem dX11_pay_37 : decode cX11_pay 37 = .ok (.iload_n 2, 1) := by decide +kernel
theorem dX11_pay_38 : decode cX11_pay 38 = .ok (.imul, 1) := by decide +kernel
theorem dX11_pay_39 : decode cX11_pay 39 = .ok (.iadd, 1) := by decide +kernel
theorem dX11_pay_40 : decode cX11_pay 40 = .ok (.iconst 3, 1) := by decide +kernel
theorem dX11_pay_41 : decode cX11_pay 41 = .ok (.iadd, 1) := by decide +kernel
theorem dX11_pay_42 : decode cX11_pay 42 = .ok (.iconst 0, 1) := by decide +kernel
theorem dX11_pay_43 : decode cX11_pay 43 = .ok (.iastore, 1) := by decide +kernel
theorem dX11_pay_44 : decode cX11_pay 44 = .ok (.iinc 2 1, 3) := by decide +kernel
theorem dX11_pay_47 : decode cX11_pay 47 = .ok (.goto (-28), 3) := by decide +kernel
theorem dX11_pay_50 : decode cX11_pay 50 = .ok (.aload_n 0, 1) := by decide +kernel
theorem dX11_pay_51 : decode cX11_pay 51 = .ok (.getfield 16, 3) := by decide +kernel
theorem dX11_pay_54 : decode cX11_pay 54 = .ok (.iconst 3, 1) := by decide +kernel
theorem dX11_pay_55 : decode cX11_pay 55 = .ok (.dup2, 1) := by decide +kernel
theorem dX11_pay_56 : decode cX11_pay 56 = .ok (.iaload, 1) := by decide +kernel
theorem dX11_pay_57 : decode cX11_pay 57 = .ok (.iload_n 1, 1) := by decide +kernel
theorem dX11_pay_58 : decode cX11_pay 58 = .ok (.iadd, 1) := by decide +kernel
theorem dX11_pay_59 : decode cX11_pay 59 = .ok (.iastore, 1) := by decide +kernel
theorem dX11_pay_60 : decode cX11_pay 60 = .ok (.iload_n 1, 1) := by decide +kernel
theorem dX11_pay_61 : decode cX11_pay 61 = .ok (.ireturn, 1) := by decide +kernel
theorem dX11_nextDay_0 : decode cX11_nextDay 0 = .ok (.aload_n 0, 1) := by decide +kernel
theorem dX11_nextDay_1 : decode cX11_nextDay 1 = .ok (.iconst 0, 1) := by decide +kernel
theorem dX11_nextDay_2 : decode cX11_nextDay 2 = .ok (.putfield 35, 3) := by decide +kernel
theorem dX11_nextDay_5 : decode cX11_nextDay 5 = .ok (.aload_n 0, 1) := by decide +kernel
theorem dX11_nextDay_6 : decode cX11_nextDay 6 = .ok (.invokevirtual 147, 3) := by decide +kernel
theorem dX11_nextDay_9 : decode cX11_nextDay 9 = .ok (.aload_n 0, 1) := by decide +kernel
theorem dX11_nextDay_10 : decode cX11_nextDay 10 = .ok (.getfield 16, 3) := by decide +kernel
theorem dX11_nextDay_13 : decode cX11_nextDay 13 = .ok (.iload_n 1, 1) := by decide +kernel
theorem dX11_nextDay_14 : decode cX11_nextDay 14 = .ok (.ifCond .eq 7, 3) := by decide +kernel
theorem dX11_nextDay_17 : decode cX11_nextDay 17 = .ok (.iconst 1, 1) := by decide +kernel
theorem dX11_nextDay_18 : decode cX11_nextDay 18 = .ok (.goto 4, 3) := by decide +kernel
theorem dX11_nextDay_21 : decode cX11_nextDay 21 = .ok (.iconst 0, 1) := by decide +kernel
theorem dX11_nextDay_22 : decode cX11_nextDay 22 = .ok (.invokestatic 169, 3) := by decide +kernel
theorem dX11_nextDay_25 : decode cX11_nextDay 25 = .ok (.ireturn, 1) := by decide +kernel
theorem dX11_undo_0 : decode cX11_undo 0 = .ok (.aload_n 0, 1) := by decide +kernel
theorem dX11_undo_1 : decode cX11_undo 1 = .ok (.aload_n 0, 1) := by decide +kernel
theorem dX11_undo_2 : decode cX11_undo 2 = .ok (.getfield 114, 3) := by decide +kernel
theorem dX11_undo_5 : decode cX11_undo 5 = .ok (.ifCond .ne 7, 3) := by decide +kernel
theorem dX11_undo_8 : decode cX11_undo 8 = .ok (.iconst 1, 1) := by decide +kernel
theorem dX11_undo_9 : decode cX11_undo 9 = .ok (.goto 4, 3) := by decide +kernel
theorem dX11_undo_12 : decode cX11_undo 12 = .ok (.iconst 0, 1) := by decide +kernel
theorem dX11_undo_13 : decode cX11_undo 13 = .ok (.invokevirtual 76, 3) := by decide +kernel
theorem dX11_undo_16 : decode cX11_undo 16 = .ok (.ifCond .eq 5, 3) := by decide +kernel
theorem dX11_undo_19 : decode cX11_undo 19 = .ok (.iconst 0, 1) := by decide +kernel
theorem dX11_undo_20 : decode cX11_undo 20 = .ok (.ireturn, 1) := by decide +kernel
theorem dX11_undo_21 : decode cX11_undo 21 = .ok (.aload_n 0, 1) := by decide +kernel
theorem dX11_undo_22 : decode cX11_undo 22 = .ok (.dup, 1) := by decide +kernel
theorem dX11_undo_23 : decode cX11_undo 23 = .ok (.getfield 114, 3) := by decide +kernel
theorem dX11_undo_26 : decode cX11_undo 26 = .ok (.iconst 1, 1) := by decide +kernel
theorem dX11_undo_27 : decode cX11_undo 27 = .ok (.isub, 1) := by decide +kernel
theorem dX11_undo_28 : decode cX11_undo 28 = .ok (.putfield 114, 3) := by decide +kernel
theorem dX11_undo_31 : decode cX11_undo 31 = .ok (.aload_n 0, 1) := by decide +kernel
theorem dX11_undo_32 : decode cX11_undo 32 = .ok (.getfield 22, 3) := by decide +kernel
theorem dX11_undo_35 : decode cX11_undo 35 = .ok (.sipush 194, 3) := by decide +kernel
theorem dX11_undo_38 : decode cX11_undo 38 = .ok (.aload_n 0, 1) := by decide +kernel
theorem dX11_undo_39 : decode cX11_undo 39 = .ok (.getfield 114, 3) := by decide +kernel
theorem dX11_undo_42 : decode cX11_undo 42 = .ok (.imul, 1) := by decide +kernel
theorem dX11_undo_43 : decode cX11_undo 43 = .ok (.aload_n 0, 1) := by decide +kernel
theorem dX11_undo_44 : decode cX11_undo 44 = .ok (.getfield 16, 3) := by decide +kernel
theorem dX11_undo_47 : decode cX11_undo 47 = .ok (.iconst 0, 1) := by decide +kernel
theorem dX11_undo_48 : decode cX11_undo 48 = .ok (.invokestatic 110, 3) := by decide +kernel
theorem dX11_undo_51 : decode cX11_undo 51 = .ok (.aload_n 0, 1) := by decide +kernel
theorem dX11_undo_52 : decode cX11_undo 52 = .ok (.getfield 114, 3) := by decide +kernel
theorem dX11_undo_55 : decode cX11_undo 55 = .ok (.ireturn, 1) := by decide +kernel
theorem dX11_recutFor_0 : decode cX11_recutFor 0 = .ok (.aload_n 0, 1) := by decide +kernel
theorem dX11_recutFor_1 : decode cX11_recutFor 1 = .ok (.aload_n 0, 1) := by decide +kernel
theorem dX11_recutFor_2 : decode cX11_recutFor 2 = .ok (.getfield 16, 3) := by decide +kernel
theorem dX11_recutFor_5 : decode cX11_recutFor 5 = .ok (.iload_n 1, 1) := by decide +kernel
theorem dX11_recutFor_6 : decode cX11_recutFor 6 = .ok (.invokestatic 139, 3) := by decide +kernel
theorem dX11_recutFor_9 : decode cX11_recutFor 9 = .ok (.ifCond .eq 7, 3) := by decide +kernel
theorem dX11_recutFor_12 : decode cX11_recutFor 12 = .ok (.iconst 0, 1) := by decide +kernel
theorem dX11_recutFor_13 : decode cX11_recutFor 13 = .ok (.goto 4, 3) := by decide +kernel
theorem dX11_recutFor_16 : decode cX11_recutFor 16 = .ok (.iconst 1, 1) := by decide +kernel
theorem dX11_recutFor_17 : decode cX11_recutFor 17 = .ok (.invokevirtual 76, 3) := by decide +kernel
theorem dX11_recutFor_20 : decode cX11_recutFor 20 = .ok (.ifCond .eq 7, 3) := by decide +kernel
theorem dX11_recutFor_23 : decode cX11_recutFor 23 = .ok (.iconst 0, 1) := by decide +kernel
theorem dX11_recutFor_24 : decode cX11_recutFor 24 = .ok (.goto 11, 3) := by decide +kernel
theorem dX11_recutFor_27 : decode cX11_recutFor 27 = .ok (.aload_n 0, 1) := by decide +kernel
theorem dX11_recutFor_28 : decode cX11_recutFor 28 = .ok (.getfield 16, 3) := by decide +kernel
theorem dX11_recutFor_31 : decode cX11_recutFor 31 = .ok (.iload_n 1, 1) := by decide +kernel
theorem dX11_recutFor_32 : decode cX11_recutFor 32 = .ok (.invokestatic 172, 3) := by decide +kernel
theorem dX11_recutFor_35 : decode cX11_recutFor 35 = .ok (.ireturn, 1) := by decide +kernel
theorem dX11_cheapest_0 : decode cX11_cheapest 0 = .ok (.aload_n 0, 1) := by decide +kernel
theorem dX11_cheapest_1 : decode cX11_cheapest 1 = .ok (.aload_n 0, 1) := by decide +kernel
theorem dX11_cheapest_2 : decode cX11_cheapest 2 = .ok (.getfield 16, 3) := by decide +kernel
theorem dX11_cheapest_5 : decode cX11_cheapest 5 = .ok (.iload_n 1, 1) := by decide +kernel
theorem dX11_cheapest_6 : decode cX11_cheapest 6 = .ok (.invokestatic 126, 3) := by decide +kernel
theorem dX11_cheapest_9 : decode cX11_cheapest 9 = .ok (.ifCond .eq 7, 3) := by decide +kernel
theorem dX11_cheapest_12 : decode cX11_cheapest 12 = .ok (.iconst 0, 1) := by decide +kernel
theorem dX11_cheapest_13 : decode cX11_cheapest 13 = .ok (.goto 4, 3) := by decide +kernel
theorem dX11_cheapest_16 : decode cX11_cheapest 16 = .ok (.iconst 1, 1) := by decide +kernel
theorem dX11_cheapest_17 : decode cX11_cheapest 17 = .ok (.invokevirtual 76, 3) := by decide +kernel
theorem dX11_cheapest_20 : decode cX11_cheapest 20 = .ok (.ifCond .eq 5, 3) := by decide +kernel
theorem dX11_cheapest_23 : decode cX11_cheapest 23 = .ok (.iconst 0, 1) := by decide +kernel
theorem dX11_cheapest_24 : decode cX11_cheapest 24 = .ok (.ireturn, 1) := by decide +kernel
theorem dX11_cheapest_25 : decode cX11_cheapest 25 = .ok (.bipush (-9), 2) := by decide +kernel
theorem dX11_cheapest_27 : decode cX11_cheapest 27 = .ok (.istore_n 2, 1) := by decide +kernel
theorem dX11_cheapest_28 : decode cX11_cheapest 28 = .ok (.iconst 0, 1) := by decide +kernel
theorem dX11_cheapest_29 : decode cX11_cheapest 29 = .ok (.istore_n 3, 1) := by decide +kernel
theorem dX11_cheapest_30 : decode cX11_cheapest 30 = .ok (.iload_n 3, 1) := by decide +kernel
theorem dX11_cheapest_31 : decode cX11_cheapest 31 = .ok (.aload_n 0, 1) := by decide +kernel
theorem dX11_cheapest_32 : decode cX11_cheapest 32 = .ok (.getfield 16, 3) := by decide +kernel
theorem dX11_cheapest_35 : decode cX11_cheapest 35 = .ok (.bipush 6, 2) := by decide +kernel
theorem dX11_cheapest_37 : decode cX11_cheapest 37 = .ok (.iaload, 1) := by decide +kernel
theorem dX11_cheapest_38 : decode cX11_cheapest 38 = .ok (.if_icmp .ge 82, 3) := by decide +kernel
theorem dX11_cheapest_41 : decode cX11_cheapest 41 = .ok (.aload_n 0, 1) := by decide +kernel
theorem dX11_cheapest_42 : decode cX11_cheapest 42 = .ok (.getfield 16, 3) := by decide +kernel
theorem dX11_cheapest_45 : decode cX11_cheapest 45 = .ok (.bipush 26, 2) := by decide +kernel
theorem dX11_cheapest_47 : decode cX11_cheapest 47 = .ok (.iconst 4, 1) := by decide +kernel
theorem dX11_cheapest_48 : decode cX11_cheapest 48 = .ok (.iload_n 3, 1) := by decide +kernel
theorem dX11_cheapest_49 : decode cX11_cheapest 49 = .ok (.imul, 1) := by decide +kernel
theorem dX11_cheapest_50 : decode cX11_cheapest 50 = .ok (.iadd, 1) := by decide +kernel
theorem dX11_cheapest_51 : decode cX11_cheapest 51 = .ok (.iconst 2, 1) := by decide +kernel
theorem dX11_cheapest_52 : decode cX11_cheapest 52 = .ok (.iadd, 1) := by decide +kernel
theorem dX11_cheapest_53 : decode cX11_cheapest 53 = .ok (.iaload, 1) := by decide +kernel
theorem dX11_cheapest_54 : decode cX11_cheapest 54 = .ok (.aload_n 0, 1) := by decide +kernel
theorem dX11_cheapest_55 : decode cX11_cheapest 55 = .ok (.getfield 16, 3) := by decide +kernel
theorem dX11_cheapest_58 : decode cX11_cheapest 58 = .ok (.iload_n 1, 1) := by decide +kernel
theorem dX11_cheapest_59 : decode cX11_cheapest 59 = .ok (.invokestatic 51, 3) := by decide +kernel
theorem dX11_cheapest_62 : decode cX11_cheapest 62 = .ok (.if_icmp .lt 7, 3) := by decide +kernel
theorem dX11_cheapest_65 : decode cX11_cheapest 65 = .ok (.iconst 1, 1) := by decide +kernel
theorem dX11_cheapest_66 : decode cX11_cheapest 66 = .ok (.goto 4, 3) := by decide +kernel
theorem dX11_cheapest_69 : decode cX11_cheapest 69 = .ok (.iconst 0, 1) := by decide +kernel
theorem dX11_cheapest_70 : decode cX11_cheapest 70 = .ok (.istore 4, 2) := by decide +kernel
theorem dX11_cheapest_72 : decode cX11_cheapest 72 = .ok (.iload 4, 2) := by decide +kernel
theorem dX11_cheapest_74 : decode cX11_cheapest 74 = .ok (.ifCond .eq 38, 3) := by decide +kernel
theorem dX11_cheapest_77 : decode cX11_cheapest 77 = .ok (.iload_n 2, 1) := by decide +kernel
theorem dX11_cheapest_78 : decode cX11_cheapest 78 = .ok (.bipush (-9), 2) := by decide +kernel
theorem dX11_cheapest_80 : decode cX11_cheapest 80 = .ok (.if_icmp .eq 28, 3) := by decide +kernel
theorem dX11_cheapest_83 : decode cX11_cheapest 83 = .ok (.aload_n 0, 1) := by decide +kernel
theorem dX11_cheapest_84 : decode cX11_cheapest 84 = .ok (.getfield 16, 3) := by decide +kernel
theorem dX11_cheapest_87 : decode cX11_cheapest 87 = .ok (.bipush 26, 2) := by decide +kernel
theorem dX11_cheapest_89 : decode cX11_cheapest 89 = .ok (.iconst 4, 1) := by decide +kernel
theorem dX11_cheapest_90 : decode cX11_cheapest 90 = .ok (.iload_n 3, 1) := by decide +kernel
theorem dX11_cheapest_91 : decode cX11_cheapest 91 = .ok (.imul, 1) := by decide +kernel
theorem dX11_cheapest_92 : decode cX11_cheapest 92 = .ok (.iadd, 1) := by decide +kernel
theorem dX11_cheapest_93 : decode cX11_cheapest 93 = .ok (.iaload, 1) := by decide +kernel
theorem dX11_cheapest_94 : decode cX11_cheapest 94 = .ok (.aload_n 0, 1) := by decide +kernel
theorem dX11_cheapest_95 : decode cX11_cheapest 95 = .ok (.getfield 16, 3) := by decide +kernel
theorem dX11_cheapest_98 : decode cX11_cheapest 98 = .ok (.bipush 26, 2) := by decide +kernel
theorem dX11_cheapest_100 : decode cX11_cheapest 100 = .ok (.iconst 4, 1) := by decide +kernel
theorem dX11_cheapest_101 : decode cX11_cheapest 101 = .ok (.iload_n 2, 1) := by decide +kernel
theorem dX11_cheapest_102 : decode cX11_cheapest 102 = .ok (.imul, 1) := by decide +kernel
theorem dX11_cheapest_103 : decode cX11_cheapest 103 = .ok (.iadd, 1) := by decide +kernel
theorem dX11_cheapest_104 : decode cX11_cheapest 104 = .ok (.iaload, 1) := by decide +kernel
theorem dX11_cheapest_105 : decode cX11_cheapest 105 = .ok (.if_icmp .ge 7, 3) := by decide +kernel
theorem dX11_cheapest_108 : decode cX11_cheapest 108 = .ok (.iload_n 3, 1) := by decide +kernel
theorem dX11_cheapest_109 : decode cX11_cheapest 109 = .ok (.goto 4, 3) := by decide +kernel
theorem dX11_cheapest_112 : decode cX11_cheapest 112 = .ok (.iload_n 2, 1) := by decide +kernel
theorem dX11_cheapest_113 : decode cX11_cheapest 113 = .ok (.istore_n 2, 1) := by decide +kernel
theorem dX11_cheapest_114 : decode cX11_cheapest 114 = .ok (.iinc 3 1, 3) := by decide +kernel
theorem dX11_cheapest_117 : decode cX11_cheapest 117 = .ok (.goto (-87), 3) := by decide +kernel
theorem dX11_cheapest_120 : decode cX11_cheapest 120 = .ok (.iload_n 2, 1) := by decide +kernel
theorem dX11_cheapest_121 : decode cX11_cheapest 121 = .ok (.ireturn, 1) := by decide +kernel
theorem dX11_layLacking_0 : decode cX11_layLacking 0 = .ok (.iconst 0, 1) := by decide +kernel
theorem dX11_layLacking_1 : decode cX11_layLacking 1 = .ok (.istore_n 1, 1) := by decide +kernel
theorem dX11_layLacking_2 : decode cX11_layLacking 2 = .ok (.iconst 0, 1) := by decide +kernel
theorem dX11_layLacking_3 : decode cX11_layLacking 3 = .ok (.istore_n 2, 1) := by decide +kernel
theorem dX11_layLacking_4 : decode cX11_layLacking 4 = .ok (.iload_n 2, 1) := by decide +kernel
theorem dX11_layLacking_5 : decode cX11_layLacking 5 = .ok (.aload_n 0, 1) := by decide +kernel
theorem dX11_layLacking_6 : decode cX11_layLacking 6 = .ok (.getfield 16, 3) := by decide +kernel
theorem dX11_layLacking_9 : decode cX11_layLacking 9 = .ok (.iconst 5, 1) := by decide +kernel
theorem dX11_layLacking_10 : decode cX11_layLacking 10 = .ok (.iaload, 1) := by decide +kernel
theorem dX11_layLacking_11 : decode cX11_layLacking 11 = .ok (.if_icmp .ge 32, 3) := by decide +kernel
theorem dX11_layLacking_14 : decode cX11_layLacking 14 = .ok (.aload_n 0, 1) := by decide +kernel
theorem dX11_layLacking_15 : decode cX11_layLacking 15 = .ok (.getfield 32, 3) := by decide +kernel
theorem dX11_layLacking_18 : decode cX11_layLacking 18 = .ok (.iload_n 2, 1) := by decide +kernel
theorem dX11_layLacking_19 : decode cX11_layLacking 19 = .ok (.aload_n 0, 1) := by decide +kernel
theorem dX11_layLacking_20 : decode cX11_layLacking 20 = .ok (.getfield 16, 3) := by decide +kernel
theorem dX11_layLacking_23 : decode cX11_layLacking 23 = .ok (.iload_n 2, 1) := by decide +kernel
theorem dX11_layLacking_24 : decode cX11_layLacking 24 = .ok (.invokestatic 68, 3) := by decide +kernel
theorem dX11_layLacking_27 : decode cX11_layLacking 27 = .ok (.iastore, 1) := by decide +kernel
theorem dX11_layLacking_28 : decode cX11_layLacking 28 = .ok (.iload_n 1, 1) := by decide +kernel
theorem dX11_layLacking_29 : decode cX11_layLacking 29 = .ok (.aload_n 0, 1) := by decide +kernel
theorem dX11_layLacking_30 : decode cX11_layLacking 30 = .ok (.getfield 32, 3) := by decide +kernel
theorem dX11_layLacking_33 : decode cX11_layLacking 33 = .ok (.iload_n 2, 1) := by decide +kernel
theorem dX11_layLacking_34 : decode cX11_layLacking 34 = .ok (.iaload, 1) := by decide +kernel
theorem dX11_layLacking_35 : decode cX11_layLacking 35 = .ok (.iadd, 1) := by decide +kernel
theorem dX11_layLacking_36 : decode cX11_layLacking 36 = .ok (.istore_n 1, 1) := by decide +kernel
theorem dX11_layLacking_37 : decode cX11_layLacking 37 = .ok (.iinc 2 1, 3) := by decide +kernel
theorem dX11_layLacking_40 : decode cX11_layLacking 40 = .ok (.goto (-36), 3) := by decide +kernel
theorem dX11_layLacking_43 : decode cX11_layLacking 43 = .ok (.iload_n 1, 1) := by decide +kernel
theorem dX11_layLacking_44 : decode cX11_layLacking 44 = .ok (.ireturn, 1) := by decide +kernel
theorem dX11_costLeft_0 : decode cX11_costLeft 0 = .ok (.aload_n 0, 1) := by decide +kernel
theorem dX11_costLeft_1 : decode cX11_costLeft 1 = .ok (.iconst 0, 1) := by decide +kernel
theorem dX11_costLeft_2 : decode cX11_costLeft 2 = .ok (.putfield 35, 3) := by decide +kernel
theorem dX11_costLeft_5 : decode cX11_costLeft 5 = .ok (.aload_n 0, 1) := by decide +kernel
theorem dX11_costLeft_6 : decode cX11_costLeft 6 = .ok (.invokevirtual 175, 3) := by decide +kernel
theorem dX11_costLeft_9 : decode cX11_costLeft 9 = .ok (.istore_n 1, 1) := by decide +kernel
theorem dX11_costLeft_10 : decode cX11_costLeft 10 = .ok (.bipush 10, 2) := by decide +kernel
theorem dX11_costLeft_12 : decode cX11_costLeft 12 = .ok (.istore_n 2, 1) := by decide +kernel
theorem dX11_costLeft_13 : decode cX11_costLeft 13 = .ok (.iconst 0, 1) := by decide +kernel
theorem dX11_costLeft_14 : decode cX11_costLeft 14 = .ok (.istore_n 3, 1) := by decide +kernel
theorem dX11_costLeft_15 : decode cX11_costLeft 15 = .ok (.iload_n 3, 1) := by decide +kernel
theorem dX11_costLeft_16 : decode cX11_costLeft 16 = .ok (.aload_n 0, 1) := by decide +kernel
theorem dX11_costLeft_17 : decode cX11_costLeft 17 = .ok (.getfield 16, 3) := by decide +kernel
theorem dX11_costLeft_20 : decode cX11_costLeft 20 = .ok (.bipush 6, 2) := by decide +kernel
theorem dX11_costLeft_22 : decode cX11_costLeft 22 = .ok (.iaload, 1) := by decide +kernel
theorem dX11_costLeft_23 : decode cX11_costLeft 23 = .ok (.if_icmp .ge 40, 3) := by decide +kernel
theorem dX11_costLeft_26 : decode cX11_costLeft 26 = .ok (.aload_n 0, 1) := by decide +kernel
theorem dX11_costLeft_27 : decode cX11_costLeft 27 = .ok (.getfield 16, 3) := by decide +kernel
theorem dX11_costLeft_30 : decode cX11_costLeft 30 = .ok (.bipush 26, 2) := by decide +kernel
theorem dX11_costLeft_32 : decode cX11_costLeft 32 = .ok (.iconst 4, 1) := by decide +kernel
theorem dX11_costLeft_33 : decode cX11_costLeft 33 = .ok (.iload_n 3, 1) := by decide +kernel
theorem dX11_costLeft_34 : decode cX11_costLeft 34 = .ok (.imul, 1) := by decide +kernel
theorem dX11_costLeft_35 : decode cX11_costLeft 35 = .ok (.iadd, 1) := by decide +kernel
theorem dX11_costLeft_36 : decode cX11_costLeft 36 = .ok (.iaload, 1) := by decide +kernel
theorem dX11_costLeft_37 : decode cX11_costLeft 37 = .ok (.iload_n 2, 1) := by decide +kernel
theorem dX11_costLeft_38 : decode cX11_costLeft 38 = .ok (.if_icmp .ge 17, 3) := by decide +kernel
theorem dX11_costLeft_41 : decode cX11_costLeft 41 = .ok (.aload_n 0, 1) := by decide +kernel
theorem dX11_costLeft_42 : decode cX11_costLeft 42 = .ok (.getfield 16, 3) := by decide +kernel
theorem dX11_costLeft_45 : decode cX11_costLeft 45 = .ok (.bipush 26, 2) := by decide +kernel
theorem dX11_costLeft_47 : decode cX11_costLeft 47 = .ok (.iconst 4, 1) := by decide +kernel
theorem dX11_costLeft_48 : decode cX11_costLeft 48 = .ok (.iload_n 3, 1) := by decide +kernel
theorem dX11_costLeft_49 : decode cX11_costLeft 49 = .ok (.imul, 1) := by decide +kernel
theorem dX11_costLeft_50 : decode cX11_costLeft 50 = .ok (.iadd, 1) := by decide +kernel
theorem dX11_costLeft_51 : decode cX11_costLeft 51 = .ok (.iaload, 1) := by decide +kernel
theorem dX11_costLeft_52 : decode cX11_costLeft 52 = .ok (.goto 4, 3) := by decide +kernel
theorem dX11_costLeft_55 : decode cX11_costLeft 55 = .ok (.iload_n 2, 1) := by decide +kernel
theorem dX11_costLeft_56 : decode cX11_costLeft 56 = .ok (.istore_n 2, 1) := by decide +kernel
theorem dX11_costLeft_57 : decode cX11_costLeft 57 = .ok (.iinc 3 1, 3) := by decide +kernel
theorem dX11_costLeft_60 : decode cX11_costLeft 60 = .ok (.goto (-45), 3) := by decide +kernel
theorem dX11_costLeft_63 : decode cX11_costLeft 63 = .ok (.iconst 0, 1) := by decide +kernel
theorem dX11_costLeft_64 : decode cX11_costLeft 64 = .ok (.istore_n 3, 1) := by decide +kernel
theorem dX11_costLeft_65 : decode cX11_costLeft 65 = .ok (.iconst 0, 1) := by decide +kernel
theorem dX11_costLeft_66 : decode cX11_costLeft 66 = .ok (.istore 4, 2) := by decide +kernel
theorem dX11_costLeft_68 : decode cX11_costLeft 68 = .ok (.iload 4, 2) := by decide +kernel
theorem dX11_costLeft_70 : decode cX11_costLeft 70 = .ok (.aload_n 0, 1) := by decide +kernel
theorem dX11_costLeft_71 : decode cX11_costLeft 71 = .ok (.getfield 16, 3) := by decide +kernel
theorem dX11_costLeft_74 : decode cX11_costLeft 74 = .ok (.iconst 5, 1) := by decide +kernel
theorem dX11_costLeft_75 : decode cX11_costLeft 75 = .ok (.iaload, 1) := by decide +kernel
theorem dX11_costLeft_76 : decode cX11_costLeft 76 = .ok (.if_icmp .ge 31, 3) := by decide +kernel
theorem dX11_costLeft_79 : decode cX11_costLeft 79 = .ok (.iload_n 3, 1) := by decide +kernel
theorem dX11_costLeft_80 : decode cX11_costLeft 80 = .ok (.aload_n 0, 1) := by decide +kernel
theorem dX11_costLeft_81 : decode cX11_costLeft 81 = .ok (.getfield 32, 3) := by decide +kernel
theorem dX11_costLeft_84 : decode cX11_costLeft 84 = .ok (.iload 4, 2) := by decide +kernel
theorem dX11_costLeft_86 : decode cX11_costLeft 86 = .ok (.iaload, 1) := by decide +kernel
theorem dX11_costLeft_87 : decode cX11_costLeft 87 = .ok (.aload_n 0, 1) := by decide +kernel
theorem dX11_costLeft_88 : decode cX11_costLeft 88 = .ok (.getfield 16, 3) := by decide +kernel
theorem dX11_costLeft_91 : decode cX11_costLeft 91 = .ok (.iload 4, 2) := by decide +kernel
theorem dX11_costLeft_93 : decode cX11_costLeft 93 = .ok (.invokestatic 51, 3) := by decide +kernel
theorem dX11_costLeft_96 : decode cX11_costLeft 96 = .ok (.imul, 1) := by decide +kernel
theorem dX11_costLeft_97 : decode cX11_costLeft 97 = .ok (.iload_n 2, 1) := by decide +kernel
theorem dX11_costLeft_98 : decode cX11_costLeft 98 = .ok (.imul, 1) := by decide +kernel
theorem dX11_costLeft_99 : decode cX11_costLeft 99 = .ok (.iadd, 1) := by decide +kernel
theorem dX11_costLeft_100 : decode cX11_costLeft 100 = .ok (.istore_n 3, 1) := by decide +kernel
theorem dX11_costLeft_101 : decode cX11_costLeft 101 = .ok (.iinc 4 1, 3) := by decide +kernel
theorem dX11_costLeft_104 : decode cX11_costLeft 104 = .ok (.goto (-36), 3) := by decide +kernel
theorem dX11_costLeft_107 : decode cX11_costLeft 107 = .ok (.iload_n 1, 1) := by decide +kernel
theorem dX11_costLeft_108 : decode cX11_costLeft 108 = .ok (.ifCond .ne 7, 3) := by decide +kernel
theorem dX11_costLeft_111 : decode cX11_costLeft 111 = .ok (.iconst 0, 1) := by decide +kernel
theorem dX11_costLeft_112 : decode cX11_costLeft 112 = .ok (.goto 19, 3) := by decide +kernel
theorem dX11_costLeft_115 : decode cX11_costLeft 115 = .ok (.aload_n 0, 1) := by decide +kernel
theorem dX11_costLeft_116 : decode cX11_costLeft 116 = .ok (.getfield 16, 3) := by decide +kernel
theorem dX11_costLeft_119 : decode cX11_costLeft 119 = .ok (.bipush 6, 2) := by decide +kernel
theorem dX11_costLeft_121 : decode cX11_costLeft 121 = .ok (.iaload, 1) := by decide +kernel
theorem dX11_costLeft_122 : decode cX11_costLeft 122 = .ok (.ifCond .ne 8, 3) := by decide +kernel
theorem dX11_costLeft_125 : decode cX11_costLeft 125 = .ok (.bipush (-9), 2) := by decide +kernel
theorem dX11_costLeft_127 : decode cX11_costLeft 127 = .ok (.goto 4, 3) := by decide +kernel
theorem dX11_costLeft_130 : decode cX11_costLeft 130 = .ok (.iload_n 3, 1) := by decide +kernel
theorem dX11_costLeft_131 : decode cX11_costLeft 131 = .ok (.ireturn, 1) := by decide +kernel
theorem dX11_workOf_0 : decode cX11_workOf 0 = .ok (.iload_n 1, 1) := by decide +kernel
theorem dX11_workOf_1 : decode cX11_workOf 1 = .ok (.istore_n 2, 1) := by decide +kernel
theorem dX11_workOf_2 : decode cX11_workOf 2 = .ok (.iconst 0, 1) := by decide +kernel
theorem dX11_workOf_3 : decode cX11_workOf 3 = .ok (.istore_n 3, 1) := by decide +kernel
theorem dX11_workOf_4 : decode cX11_workOf 4 = .ok (.iconst 0, 1) := by decide +kernel
theorem dX11_workOf_5 : decode cX11_workOf 5 = .ok (.istore 4, 2) := by decide +kernel
theorem dX11_workOf_7 : decode cX11_workOf 7 = .ok (.iload 4, 2) := by decide +kernel
theorem dX11_workOf_9 : decode cX11_workOf 9 = .ok (.aload_n 0, 1) := by decide +kernel
theorem dX11_workOf_10 : decode cX11_workOf 10 = .ok (.getfield 16, 3) := by decide +kernel
theorem dX11_workOf_13 : decode cX11_workOf 13 = .ok (.iconst 5, 1) := by decide +kernel
theorem dX11_workOf_14 : decode cX11_workOf 14 = .ok (.iaload, 1) := by decide +kernel
theorem dX11_workOf_15 : decode cX11_workOf 15 = .ok (.if_icmp .ge 61, 3) := by decide +kernel
theorem dX11_workOf_18 : decode cX11_workOf 18 = .ok (.aload_n 0, 1) := by decide +kernel
theorem dX11_workOf_19 : decode cX11_workOf 19 = .ok (.getfield 32, 3) := by decide +kernel
theorem dX11_workOf_22 : decode cX11_workOf 22 = .ok (.iload 4, 2) := by decide +kernel
theorem dX11_workOf_24 : decode cX11_workOf 24 = .ok (.iaload, 1) := by decide +kernel
theorem dX11_workOf_25 : decode cX11_workOf 25 = .ok (.ifCond .le 45, 3) := by decide +kernel
theorem dX11_workOf_28 : decode cX11_workOf 28 = .ok (.aload_n 0, 1) := by decide +kernel
theorem dX11_workOf_29 : decode cX11_workOf 29 = .ok (.getfield 16, 3) := by decide +kernel
theorem dX11_workOf_32 : decode cX11_workOf 32 = .ok (.iload 4, 2) := by decide +kernel
theorem dX11_workOf_34 : decode cX11_workOf 34 = .ok (.invokestatic 51, 3) := by decide +kernel
theorem dX11_workOf_37 : decode cX11_workOf 37 = .ok (.iload_n 2, 1) := by decide +kernel
theorem dX11_workOf_38 : decode cX11_workOf 38 = .ok (.if_icmp .gt 32, 3) := by decide +kernel
theorem dX11_workOf_41 : decode cX11_workOf 41 = .ok (.iload_n 2, 1) := by decide +kernel
theorem dX11_workOf_42 : decode cX11_workOf 42 = .ok (.aload_n 0, 1) := by decide +kernel
theorem dX11_workOf_43 : decode cX11_workOf 43 = .ok (.getfield 16, 3) := by decide +kernel
theorem dX11_workOf_46 : decode cX11_workOf 46 = .ok (.iload 4, 2) := by decide +kernel
theorem dX11_workOf_48 : decode cX11_workOf 48 = .ok (.invokestatic 51, 3) := by decide +kernel
theorem dX11_workOf_51 : decode cX11_workOf 51 = .ok (.isub, 1) := by decide +kernel
theorem dX11_workOf_52 : decode cX11_workOf 52 = .ok (.istore_n 2, 1) := by decide +kernel
theorem dX11_workOf_53 : decode cX11_workOf 53 = .ok (.aload_n 0, 1) := by decide +kernel
theorem dX11_workOf_54 : decode cX11_workOf 54 = .ok (.getfield 32, 3) := by decide +kernel
theorem dX11_workOf_57 : decode cX11_workOf 57 = .ok (.iload 4, 2) := by decide +kernel
theorem dX11_workOf_59 : decode cX11_workOf 59 = .ok (.dup2, 1) := by decide +kernel
theorem dX11_workOf_60 : decode cX11_workOf 60 = .ok (.iaload, 1) := by decide +kernel
theorem dX11_workOf_61 : decode cX11_workOf 61 = .ok (.iconst 1, 1) := by decide +kernel
theorem dX11_workOf_62 : decode cX11_workOf 62 = .ok (.isub, 1) := by decide +kernel
theorem dX11_workOf_63 : decode cX11_workOf 63 = .ok (.iastore, 1) := by decide +kernel
theorem dX11_workOf_64 : decode cX11_workOf 64 = .ok (.iinc 3 1, 3) := by decide +kernel
theorem dX11_workOf_67 : decode cX11_workOf 67 = .ok (.goto (-60), 3) := by decide +kernel
theorem dX11_workOf_70 : decode cX11_workOf 70 = .ok (.iinc 4 1, 3) := by decide +kernel
theorem dX11_workOf_73 : decode cX11_workOf 73 = .ok (.goto (-66), 3) := by decide +kernel
theorem dX11_workOf_76 : decode cX11_workOf 76 = .ok (.iload_n 3, 1) := by decide +kernel
theorem dX11_workOf_77 : decode cX11_workOf 77 = .ok (.ireturn, 1) := by decide +kernel
theorem dX11_daysLeft_0 : decode cX11_daysLeft 0 = .ok (.aload_n 0, 1) := by decide +kernel
theorem dX11_daysLeft_1 : decode cX11_daysLeft 1 = .ok (.iconst 0, 1) := by decide +kernel
theorem dX11_daysLeft_2 : decode cX11_daysLeft 2 = .ok (.putfield 35, 3) := by decide +kernel
theorem dX11_daysLeft_5 : decode cX11_daysLeft 5 = .ok (.aload_n 0, 1) := by decide +kernel
theorem dX11_daysLeft_6 : decode cX11_daysLeft 6 = .ok (.invokevirtual 175, 3) := by decide +kernel
theorem dX11_daysLeft_9 : decode cX11_daysLeft 9 = .ok (.istore_n 1, 1) := by decide +kernel
theorem dX11_daysLeft_10 : decode cX11_daysLeft 10 = .ok (.iload_n 1, 1) := by decide +kernel
theorem dX11_daysLeft_11 : decode cX11_daysLeft 11 = .ok (.ifCond .ne 5, 3) := by decide +kernel
theorem dX11_daysLeft_14 : decode cX11_daysLeft 14 = .ok (.iconst 0, 1) := by decide +kernel
theorem dX11_daysLeft_15 : decode cX11_daysLeft 15 = .ok (.ireturn, 1) := by decide +kernel
theorem dX11_daysLeft_16 : decode cX11_daysLeft 16 = .ok (.iconst 1, 1) := by decide +kernel
theorem dX11_daysLeft_17 : decode cX11_daysLeft 17 = .ok (.istore_n 2, 1) := by decide +kernel
theorem dX11_daysLeft_18 : decode cX11_daysLeft 18 = .ok (.iload_n 2, 1) := by decide +kernel
theorem dX11_daysLeft_19 : decode cX11_daysLeft 19 = .ok (.bipush 99, 2) := by decide +kernel
theorem dX11_daysLeft_21 : decode cX11_daysLeft 21 = .ok (.if_icmp .gt 63, 3) := by decide +kernel
theorem dX11_daysLeft_24 : decode cX11_daysLeft 24 = .ok (.iconst 0, 1) := by decide +kernel
theorem dX11_daysLeft_25 : decode cX11_daysLeft 25 = .ok (.istore_n 3, 1) := by decide +kernel
theorem dX11_daysLeft_26 : decode cX11_daysLeft 26 = .ok (.iload_n 3, 1) := by decide +kernel
theorem dX11_daysLeft_27 : decode cX11_daysLeft 27 = .ok (.aload_n 0, 1) := by decide +kernel
theorem dX11_daysLeft_28 : decode cX11_daysLeft 28 = .ok (.getfield 16, 3) := by decide +kernel
theorem dX11_daysLeft_31 : decode cX11_daysLeft 31 = .ok (.bipush 6, 2) := by decide +kernel
theorem dX11_daysLeft_33 : decode cX11_daysLeft 33 = .ok (.iaload, 1) := by decide +kernel
theorem dX11_daysLeft_34 : decode cX11_daysLeft 34 = .ok (.if_icmp .ge 38, 3) := by decide +kernel
theorem dX11_daysLeft_37 : decode cX11_daysLeft 37 = .ok (.iload_n 1, 1) := by decide +kernel
theorem dX11_daysLeft_38 : decode cX11_daysLeft 38 = .ok (.aload_n 0, 1) := by decide +kernel
theorem dX11_daysLeft_39 : decode cX11_daysLeft 39 = .ok (.aload_n 0, 1) := by decide +kernel
theorem dX11_daysLeft_40 : decode cX11_daysLeft 40 = .ok (.getfield 16, 3) := by decide +kernel
theorem dX11_daysLeft_43 : decode cX11_daysLeft 43 = .ok (.bipush 26, 2) := by decide +kernel
theorem dX11_daysLeft_45 : decode cX11_daysLeft 45 = .ok (.iconst 4, 1) := by decide +kernel
theorem dX11_daysLeft_46 : decode cX11_daysLeft 46 = .ok (.iload_n 3, 1) := by decide +kernel
theorem dX11_daysLeft_47 : decode cX11_daysLeft 47 = .ok (.imul, 1) := by decide +kernel
theorem dX11_daysLeft_48 : decode cX11_daysLeft 48 = .ok (.iadd, 1) := by decide +kernel
theorem dX11_daysLeft_49 : decode cX11_daysLeft 49 = .ok (.iload_n 2, 1) := by decide +kernel
theorem dX11_daysLeft_50 : decode cX11_daysLeft 50 = .ok (.iconst 1, 1) := by decide +kernel
theorem dX11_daysLeft_51 : decode cX11_daysLeft 51 = .ok (.if_icmp .ne 7, 3) := by decide +kernel
theorem dX11_daysLeft_54 : decode cX11_daysLeft 54 = .ok (.iconst 2, 1) := by decide +kernel
theorem dX11_daysLeft_55 : decode cX11_daysLeft 55 = .ok (.goto 4, 3) := by decide +kernel
theorem dX11_daysLeft_58 : decode cX11_daysLeft 58 = .ok (.iconst 1, 1) := by decide +kernel
theorem dX11_daysLeft_59 : decode cX11_daysLeft 59 = .ok (.iadd, 1) := by decide +kernel
theorem dX11_daysLeft_60 : decode cX11_daysLeft 60 = .ok (.iaload, 1) := by decide +kernel
theorem dX11_daysLeft_61 : decode cX11_daysLeft 61 = .ok (.invokevirtual 179, 3) := by decide +kernel
theorem dX11_daysLeft_64 : decode cX11_daysLeft 64 = .ok (.isub, 1) := by decide +kernel
theorem dX11_daysLeft_65 : decode cX11_daysLeft 65 = .ok (.istore_n 1, 1) := by decide +kernel
theorem dX11_daysLeft_66 : decode cX11_daysLeft 66 = .ok (.iinc 3 1, 3) := by decide +kernel
theorem dX11_daysLeft_69 : decode cX11_daysLeft 69 = .ok (.goto (-43), 3) := by decide +kernel
theorem dX11_daysLeft_72 : decode cX11_daysLeft 72 = .ok (.iload_n 1, 1) := by decide +kernel
theorem dX11_daysLeft_73 : decode cX11_daysLeft 73 = .ok (.ifCond .ne 5, 3) := by decide +kernel
theorem dX11_daysLeft_76 : decode cX11_daysLeft 76 = .ok (.iload_n 2, 1) := by decide +kernel
theorem dX11_daysLeft_77 : decode cX11_daysLeft 77 = .ok (.ireturn, 1) := by decide +kernel
theorem dX11_daysLeft_78 : decode cX11_daysLeft 78 = .ok (.iinc 2 1, 3) := by decide +kernel
theorem dX11_daysLeft_81 : decode cX11_daysLeft 81 = .ok (.goto (-63), 3) := by decide +kernel
theorem dX11_daysLeft_84 : decode cX11_daysLeft 84 = .ok (.bipush (-9), 2) := by decide +kernel
theorem dX11_daysLeft_86 : decode cX11_daysLeft 86 = .ok (.ireturn, 1) := by decide +kernel
theorem dX11_canSet_0 : decode cX11_canSet 0 = .ok (.aload_n 0, 1) := by decide +kernel
theorem dX11_canSet_1 : decode cX11_canSet 1 = .ok (.iconst 0, 1) := by decide +kernel
theorem dX11_canSet_2 : decode cX11_canSet 2 = .ok (.putfield 35, 3) := by decide +kernel
theorem dX11_canSet_5 : decode cX11_canSet 5 = .ok (.iconst 0, 1) := by decide +kernel
theorem dX11_canSet_6 : decode cX11_canSet 6 = .ok (.istore_n 1, 1) := by decide +kernel
theorem dX11_canSet_7 : decode cX11_canSet 7 = .ok (.aload_n 0, 1) := by decide +kernel
theorem dX11_canSet_8 : decode cX11_canSet 8 = .ok (.getfield 16, 3) := by decide +kernel
theorem dX11_canSet_11 : decode cX11_canSet 11 = .ok (.iconst 2, 1) := by decide +kernel
theorem dX11_canSet_12 : decode cX11_canSet 12 = .ok (.iaload, 1) := by decide +kernel
theorem dX11_canSet_13 : decode cX11_canSet 13 = .ok (.ifCond .ne 7, 3) := by decide +kernel
theorem dX11_canSet_16 : decode cX11_canSet 16 = .ok (.iconst 1, 1) := by decide +kernel
theorem dX11_canSet_17 : decode cX11_canSet 17 = .ok (.goto 4, 3) := by decide +kernel
theorem dX11_canSet_20 : decode cX11_canSet 20 = .ok (.iconst 0, 1) := by decide +kernel
theorem dX11_canSet_21 : decode cX11_canSet 21 = .ok (.istore_n 2, 1) := by decide +kernel
theorem dX11_canSet_22 : decode cX11_canSet 22 = .ok (.iconst 0, 1) := by decide +kernel
theorem dX11_canSet_23 : decode cX11_canSet 23 = .ok (.istore_n 3, 1) := by decide +kernel
theorem dX11_canSet_24 : decode cX11_canSet 24 = .ok (.iload_n 3, 1) := by decide +kernel
theorem dX11_canSet_25 : decode cX11_canSet 25 = .ok (.aload_n 0, 1) := by decide +kernel
theorem dX11_canSet_26 : decode cX11_canSet 26 = .ok (.getfield 16, 3) := by decide +kernel
theorem dX11_canSet_29 : decode cX11_canSet 29 = .ok (.iconst 5, 1) := by decide +kernel
theorem dX11_canSet_30 : decode cX11_canSet 30 = .ok (.iaload, 1) := by decide +kernel
theorem dX11_canSet_31 : decode cX11_canSet 31 = .ok (.if_icmp .ge 74, 3) := by decide +kernel
theorem dX11_canSet_34 : decode cX11_canSet 34 = .ok (.iload_n 2, 1) := by decide +kernel
theorem dX11_canSet_35 : decode cX11_canSet 35 = .ok (.ifCond .eq 70, 3) := by decide +kernel
theorem dX11_canSet_38 : decode cX11_canSet 38 = .ok (.aload_n 0, 1) := by decide +kernel
theorem dX11_canSet_39 : decode cX11_canSet 39 = .ok (.getfield 16, 3) := by decide +kernel
theorem dX11_canSet_42 : decode cX11_canSet 42 = .ok (.iload_n 3, 1) := by decide +kernel
theorem dX11_canSet_43 : decode cX11_canSet 43 = .ok (.invokestatic 47, 3) := by decide +kernel
theorem dX11_canSet_46 : decode cX11_canSet 46 = .ok (.aload_n 0, 1) := by decide +kernel
theorem dX11_canSet_47 : decode cX11_canSet 47 = .ok (.getfield 16, 3) := by decide +kernel
theorem dX11_canSet_50 : decode cX11_canSet 50 = .ok (.iload_n 3, 1) := by decide +kernel
theorem dX11_canSet_51 : decode cX11_canSet 51 = .ok (.iconst 3, 1) := by decide +kernel
theorem dX11_canSet_52 : decode cX11_canSet 52 = .ok (.invokestatic 43, 3) := by decide +kernel
theorem dX11_canSet_55 : decode cX11_canSet 55 = .ok (.isub, 1) := by decide +kernel
theorem dX11_canSet_56 : decode cX11_canSet 56 = .ok (.istore 4, 2) := by decide +kernel
theorem dX11_canSet_58 : decode cX11_canSet 58 = .ok (.aload_n 0, 1) := by decide +kernel
theorem dX11_canSet_59 : decode cX11_canSet 59 = .ok (.getfield 16, 3) := by decide +kernel
theorem dX11_canSet_62 : decode cX11_canSet 62 = .ok (.iload_n 3, 1) := by decide +kernel
theorem dX11_canSet_63 : decode cX11_canSet 63 = .ok (.iconst 1, 1) := by decide +kernel
theorem dX11_canSet_64 : decode cX11_canSet 64 = .ok (.invokestatic 43, 3) := by decide +kernel
theorem dX11_canSet_67 : decode cX11_canSet 67 = .ok (.istore 5, 2) := by decide +kernel
theorem dX11_canSet_69 : decode cX11_canSet 69 = .ok (.iload_n 1, 1) := by decide +kernel
theorem dX11_canSet_70 : decode cX11_canSet 70 = .ok (.iload 5, 2) := by decide +kernel
theorem dX11_canSet_72 : decode cX11_canSet 72 = .ok (.iload 4, 2) := by decide +kernel
theorem dX11_canSet_74 : decode cX11_canSet 74 = .ok (.if_icmp .ge 8, 3) := by decide +kernel
theorem dX11_canSet_77 : decode cX11_canSet 77 = .ok (.iload 5, 2) := by decide +kernel
theorem dX11_canSet_79 : decode cX11_canSet 79 = .ok (.goto 5, 3) := by decide +kernel
theorem dX11_canSet_82 : decode cX11_canSet 82 = .ok (.iload 4, 2) := by decide +kernel
theorem dX11_canSet_84 : decode cX11_canSet 84 = .ok (.iadd, 1) := by decide +kernel
theorem dX11_canSet_85 : decode cX11_canSet 85 = .ok (.istore_n 1, 1) := by decide +kernel
theorem dX11_canSet_86 : decode cX11_canSet 86 = .ok (.iload 5, 2) := by decide +kernel
theorem dX11_canSet_88 : decode cX11_canSet 88 = .ok (.iload 4, 2) := by decide +kernel
theorem dX11_canSet_90 : decode cX11_canSet 90 = .ok (.if_icmp .lt 7, 3) := by decide +kernel
theorem dX11_canSet_93 : decode cX11_canSet 93 = .ok (.iconst 1, 1) := by decide +kernel
theorem dX11_canSet_94 : decode cX11_canSet 94 = .ok (.goto 4, 3) := by decide +kernel
theorem dX11_canSet_97 : decode cX11_canSet 97 = .ok (.iconst 0, 1) := by decide +kernel
theorem dX11_canSet_98 : decode cX11_canSet 98 = .ok (.istore_n 2, 1) := by decide +kernel
theorem dX11_canSet_99 : decode cX11_canSet 99 = .ok (.iinc 3 1, 3) := by decide +kernel
theorem dX11_canSet_102 : decode cX11_canSet 102 = .ok (.goto (-78), 3) := by decide +kernel
theorem dX11_canSet_105 : decode cX11_canSet 105 = .ok (.iload_n 1, 1) := by decide +kernel
theorem dX11_canSet_106 : decode cX11_canSet 106 = .ok (.ireturn, 1) := by decide +kernel
theorem dX11_wouldEarn_0 : decode cX11_wouldEarn 0 = .ok (.aload_n 0, 1) := by decide +kernel
theorem dX11_wouldEarn_1 : decode cX11_wouldEarn 1 = .ok (.iload_n 1, 1) := by decide +kernel
theorem dX11_wouldEarn_2 : decode cX11_wouldEarn 2 = .ok (.i2l, 1) := by decide +kernel
theorem dX11_wouldEarn_3 : decode cX11_wouldEarn 3 = .ok (.lconst 0, 1) := by decide +kernel
theorem dX11_wouldEarn_4 : decode cX11_wouldEarn 4 = .ok (.ldc2_w 145, 3) := by decide +kernel
theorem dX11_wouldEarn_7 : decode cX11_wouldEarn 7 = .ok (.invokestatic 39, 3) := by decide +kernel
theorem dX11_wouldEarn_10 : decode cX11_wouldEarn 10 = .ok (.ifCond .eq 7, 3) := by decide +kernel
theorem dX11_wouldEarn_13 : decode cX11_wouldEarn 13 = .ok (.iconst 0, 1) := by decide +kernel
theorem dX11_wouldEarn_14 : decode cX11_wouldEarn 14 = .ok (.goto 4, 3) := by decide +kernel
theorem dX11_wouldEarn_17 : decode cX11_wouldEarn 17 = .ok (.iconst 1, 1) := by decide +kernel
theorem dX11_wouldEarn_18 : decode cX11_wouldEarn 18 = .ok (.invokevirtual 76, 3) := by decide +kernel
theorem dX11_wouldEarn_21 : decode cX11_wouldEarn 21 = .ok (.ifCond .eq 5, 3) := by decide +kernel
theorem dX11_wouldEarn_24 : decode cX11_wouldEarn 24 = .ok (.iconst 0, 1) := by decide +kernel
theorem dX11_wouldEarn_25 : decode cX11_wouldEarn 25 = .ok (.ireturn, 1) := by decide +kernel
theorem dX11_wouldEarn_26 : decode cX11_wouldEarn 26 = .ok (.iconst 0, 1) := by decide +kernel
theorem dX11_wouldEarn_27 : decode cX11_wouldEarn 27 = .ok (.istore_n 2, 1) := by decide +kernel
theorem dX11_wouldEarn_28 : decode cX11_wouldEarn 28 = .ok (.iconst 0, 1) := by decide +kernel
theorem dX11_wouldEarn_29 : decode cX11_wouldEarn 29 = .ok (.istore_n 3, 1) := by decide +kernel
theorem dX11_wouldEarn_30 : decode cX11_wouldEarn 30 = .ok (.iload_n 3, 1) := by decide +kernel
theorem dX11_wouldEarn_31 : decode cX11_wouldEarn 31 = .ok (.aload_n 0, 1) := by decide +kernel
theorem dX11_wouldEarn_32 : decode cX11_wouldEarn 32 = .ok (.getfield 16, 3) := by decide +kernel
theorem dX11_wouldEarn_35 : decode cX11_wouldEarn 35 = .ok (.bipush 7, 2) := by decide +kernel
theorem dX11_wouldEarn_37 : decode cX11_wouldEarn 37 = .ok (.iaload, 1) := by decide +kernel
theorem dX11_wouldEarn_38 : decode cX11_wouldEarn 38 = .ok (.if_icmp .ge 58, 3) := by decide +kernel
theorem dX11_wouldEarn_41 : decode cX11_wouldEarn 41 = .ok (.bipush 50, 2) := by decide +kernel
theorem dX11_wouldEarn_43 : decode cX11_wouldEarn 43 = .ok (.bipush 6, 2) := by decide +kernel
theorem dX11_wouldEarn_45 : decode cX11_wouldEarn 45 = .ok (.iload_n 3, 1) := by decide +kernel
theorem dX11_wouldEarn_46 : decode cX11_wouldEarn 46 = .ok (.imul, 1) := by decide +kernel
theorem dX11_wouldEarn_47 : decode cX11_wouldEarn 47 = .ok (.iadd, 1) := by decide +kernel
theorem dX11_wouldEarn_48 : decode cX11_wouldEarn 48 = .ok (.istore 4, 2) := by decide +kernel
theorem dX11_wouldEarn_50 : decode cX11_wouldEarn 50 = .ok (.iload_n 2, 1) := by decide +kernel
theorem dX11_wouldEarn_51 : decode cX11_wouldEarn 51 = .ok (.aload_n 0, 1) := by decide +kernel
theorem dX11_wouldEarn_52 : decode cX11_wouldEarn 52 = .ok (.getfield 16, 3) := by decide +kernel
theorem dX11_wouldEarn_55 : decode cX11_wouldEarn 55 = .ok (.iload 4, 2) := by decide +kernel
theorem dX11_wouldEarn_57 : decode cX11_wouldEarn 57 = .ok (.iconst 3, 1) := by decide +kernel
theorem dX11_wouldEarn_58 : decode cX11_wouldEarn 58 = .ok (.iadd, 1) := by decide +kernel
theorem dX11_wouldEarn_59 : decode cX11_wouldEarn 59 = .ok (.iaload, 1) := by decide +kernel
theorem dX11_wouldEarn_60 : decode cX11_wouldEarn 60 = .ok (.ifCond .ne 27, 3) := by decide +kernel
theorem dX11_wouldEarn_63 : decode cX11_wouldEarn 63 = .ok (.aload_n 0, 1) := by decide +kernel
theorem dX11_wouldEarn_64 : decode cX11_wouldEarn 64 = .ok (.getfield 16, 3) := by decide +kernel
theorem dX11_wouldEarn_67 : decode cX11_wouldEarn 67 = .ok (.iload 4, 2) := by decide +kernel
theorem dX11_wouldEarn_69 : decode cX11_wouldEarn 69 = .ok (.iconst 2, 1) := by decide +kernel
theorem dX11_wouldEarn_70 : decode cX11_wouldEarn 70 = .ok (.iadd, 1) := by decide +kernel
theorem dX11_wouldEarn_71 : decode cX11_wouldEarn 71 = .ok (.iaload, 1) := by decide +kernel
theorem dX11_wouldEarn_72 : decode cX11_wouldEarn 72 = .ok (.iload_n 1, 1) := by decide +kernel
theorem dX11_wouldEarn_73 : decode cX11_wouldEarn 73 = .ok (.if_icmp .gt 14, 3) := by decide +kernel
theorem dX11_wouldEarn_76 : decode cX11_wouldEarn 76 = .ok (.aload_n 0, 1) := by decide +kernel
theorem dX11_wouldEarn_77 : decode cX11_wouldEarn 77 = .ok (.getfield 16, 3) := by decide +kernel
theorem dX11_wouldEarn_80 : decode cX11_wouldEarn 80 = .ok (.iload_n 3, 1) := by decide +kernel
theorem dX11_wouldEarn_81 : decode cX11_wouldEarn 81 = .ok (.invokestatic 58, 3) := by decide +kernel
theorem dX11_wouldEarn_84 : decode cX11_wouldEarn 84 = .ok (.goto 4, 3) := by decide +kernel
theorem dX11_wouldEarn_87 : decode cX11_wouldEarn 87 = .ok (.iconst 0, 1) := by decide +kernel
theorem dX11_wouldEarn_88 : decode cX11_wouldEarn 88 = .ok (.iadd, 1) := by decide +kernel
theorem dX11_wouldEarn_89 : decode cX11_wouldEarn 89 = .ok (.istore_n 2, 1) := by decide +kernel
theorem dX11_wouldEarn_90 : decode cX11_wouldEarn 90 = .ok (.iinc 3 1, 3) := by decide +kernel
theorem dX11_wouldEarn_93 : decode cX11_wouldEarn 93 = .ok (.goto (-63), 3) := by decide +kernel
theorem dX11_wouldEarn_96 : decode cX11_wouldEarn 96 = .ok (.iload_n 2, 1) := by decide +kernel
theorem dX11_wouldEarn_97 : decode cX11_wouldEarn 97 = .ok (.ireturn, 1) := by decide +kernel
theorem dX11_worstMark_0 : decode cX11_worstMark 0 = .ok (.aload_n 0, 1) := by decide +kernel
theorem dX11_worstMark_1 : decode cX11_worstMark 1 = .ok (.iconst 0, 1) := by decide +kernel
theorem dX11_worstMark_2 : decode cX11_worstMark 2 = .ok (.putfield 35, 3) := by decide +kernel
theorem dX11_worstMark_5 : decode cX11_worstMark 5 = .ok (.bipush (-9), 2) := by decide +kernel
theorem dX11_worstMark_7 : decode cX11_worstMark 7 = .ok (.istore_n 1, 1) := by decide +kernel
theorem dX11_worstMark_8 : decode cX11_worstMark 8 = .ok (.iconst 0, 1) := by decide +kernel
theorem dX11_worstMark_9 : decode cX11_worstMark 9 = .ok (.istore_n 2, 1) := by decide +kernel
theorem dX11_worstMark_10 : decode cX11_worstMark 10 = .ok (.iconst 0, 1) := by decide +kernel
theorem dX11_worstMark_11 : decode cX11_worstMark 11 = .ok (.istore_n 3, 1) := by decide +kernel
theorem dX11_worstMark_12 : decode cX11_worstMark 12 = .ok (.iload_n 3, 1) := by decide +kernel
theorem dX11_worstMark_13 : decode cX11_worstMark 13 = .ok (.aload_n 0, 1) := by decide +kernel
theorem dX11_worstMark_14 : decode cX11_worstMark 14 = .ok (.getfield 16, 3) := by decide +kernel
theorem dX11_worstMark_17 : decode cX11_worstMark 17 = .ok (.bipush 6, 2) := by decide +kernel
theorem dX11_worstMark_19 : decode cX11_worstMark 19 = .ok (.iaload, 1) := by decide +kernel
theorem dX11_worstMark_20 : decode cX11_worstMark 20 = .ok (.if_icmp .ge 55, 3) := by decide +kernel
theorem dX11_worstMark_23 : decode cX11_worstMark 23 = .ok (.aload_n 0, 1) := by decide +kernel
theorem dX11_worstMark_24 : decode cX11_worstMark 24 = .ok (.getfield 16, 3) := by decide +kernel
theorem dX11_worstMark_27 : decode cX11_worstMark 27 = .ok (.iload_n 3, 1) := by decide +kernel
theorem dX11_worstMark_28 : decode cX11_worstMark 28 = .ok (.iconst 2, 1) := by decide +kernel
theorem dX11_worstMark_29 : decode cX11_worstMark 29 = .ok (.invokestatic 136, 3) := by decide +kernel
theorem dX11_worstMark_32 : decode cX11_worstMark 32 = .ok (.aload_n 0, 1) := by decide +kernel
theorem dX11_worstMark_33 : decode cX11_worstMark 33 = .ok (.getfield 16, 3) := by decide +kernel
theorem dX11_worstMark_36 : decode cX11_worstMark 36 = .ok (.iload_n 3, 1) := by decide +kernel
theorem dX11_worstMark_37 : decode cX11_worstMark 37 = .ok (.iconst 4, 1) := by decide +kernel
theorem dX11_worstMark_38 : decode cX11_worstMark 38 = .ok (.invokestatic 136, 3) := by decide +kernel
theorem dX11_worstMark_41 : decode cX11_worstMark 41 = .ok (.iadd, 1) := by decide +kernel
theorem dX11_worstMark_42 : decode cX11_worstMark 42 = .ok (.istore 4, 2) := by decide +kernel
theorem dX11_worstMark_44 : decode cX11_worstMark 44 = .ok (.iload 4, 2) := by decide +kernel
theorem dX11_worstMark_46 : decode cX11_worstMark 46 = .ok (.iload_n 2, 1) := by decide +kernel
theorem dX11_worstMark_47 : decode cX11_worstMark 47 = .ok (.if_icmp .le 7, 3) := by decide +kernel
theorem dX11_worstMark_50 : decode cX11_worstMark 50 = .ok (.iload_n 3, 1) := by decide +kernel
theorem dX11_worstMark_51 : decode cX11_worstMark 51 = .ok (.goto 4, 3) := by decide +kernel
theorem dX11_worstMark_54 : decode cX11_worstMark 54 = .ok (.iload_n 1, 1) := by decide +kernel
theorem dX11_worstMark_55 : decode cX11_worstMark 55 = .ok (.istore_n 1, 1) := by decide +kernel
theorem dX11_worstMark_56 : decode cX11_worstMark 56 = .ok (.iload 4, 2) := by decide +kernel
theorem dX11_worstMark_58 : decode cX11_worstMark 58 = .ok (.iload_n 2, 1) := by decide +kernel
theorem dX11_worstMark_59 : decode cX11_worstMark 59 = .ok (.if_icmp .le 8, 3) := by decide +kernel
theorem dX11_worstMark_62 : decode cX11_worstMark 62 = .ok (.iload 4, 2) := by decide +kernel
theorem dX11_worstMark_64 : decode cX11_worstMark 64 = .ok (.goto 4, 3) := by decide +kernel
theorem dX11_worstMark_67 : decode cX11_worstMark 67 = .ok (.iload_n 2, 1) := by decide +kernel
theorem dX11_worstMark_68 : decode cX11_worstMark 68 = .ok (.istore_n 2, 1) := by decide +kernel
theorem dX11_worstMark_69 : decode cX11_worstMark 69 = .ok (.iinc 3 1, 3) := by decide +kernel
theorem dX11_worstMark_72 : decode cX11_worstMark 72 = .ok (.goto (-60), 3) := by decide +kernel
theorem dX11_worstMark_75 : decode cX11_worstMark 75 = .ok (.iload_n 1, 1) := by decide +kernel
theorem dX11_worstMark_76 : decode cX11_worstMark 76 = .ok (.ireturn, 1) := by decide +kernel
theorem dX11_does_0 : decode cX11_does 0 = .ok (.bipush 10, 2) := by decide +kernel
theorem dX11_does_2 : decode cX11_does 2 = .ok (.iload 4, 2) := by decide +kernel
theorem dX11_does_4 : decode cX11_does 4 = .ok (.imul, 1) := by decide +kernel
theorem dX11_does_5 : decode cX11_does 5 = .ok (.iload 5, 2) := by decide +kernel
theorem dX11_does_7 : decode cX11_does 7 = .ok (.iadd, 1) := by decide +kernel
theorem dX11_does_8 : decode cX11_does 8 = .ok (.istore 6, 2) := by decide +kernel
theorem dX11_does_10 : decode cX11_does 10 = .ok (.aload_n 0, 1) := by decide +kernel
theorem dX11_does_11 : decode cX11_does 11 = .ok (.getfield 19, 3) := by decide +kernel
theorem dX11_does_14 : decode cX11_does 14 = .ok (.iload 6, 2) := by decide +kernel
theorem dX11_does_16 : decode cX11_does 16 = .ok (.invokestatic 139, 3) := by decide +kernel
theorem dX11_does_19 : decode cX11_does 19 = .ok (.istore 7, 2) := by decide +kernel
theorem dX11_does_21 : decode cX11_does 21 = .ok (.iload_n 1, 1) := by decide +kernel
theorem dX11_does_22 : decode cX11_does 22 = .ok (.tableswitch 425 1 9 #[50, 111, 154, 211, 254, 287, 308, 358, 387], 50) := by decide +kernel
theorem dX11_does_72 : decode cX11_does 72 = .ok (.iload 5, 2) := by decide +kernel
theorem dX11_does_74 : decode cX11_does 74 = .ok (.ifCond .ne 37, 3) := by decide +kernel
theorem dX11_does_77 : decode cX11_does 77 = .ok (.aload_n 0, 1) := by decide +kernel
theorem dX11_does_78 : decode cX11_does 78 = .ok (.getfield 19, 3) := by decide +kernel
theorem dX11_does_81 : decode cX11_does 81 = .ok (.iload_n 2, 1) := by decide +kernel
theorem dX11_does_82 : decode cX11_does 82 = .ok (.invokestatic 131, 3) := by decide +kernel
theorem dX11_does_85 : decode cX11_does 85 = .ok (.ifCond .eq 26, 3) := by decide +kernel
theorem dX11_does_88 : decode cX11_does 88 = .ok (.aload_n 0, 1) := by decide +kernel
theorem dX11_does_89 : decode cX11_does 89 = .ok (.getfield 19, 3) := by decide +kernel
theorem dX11_does_92 : decode cX11_does 92 = .ok (.iload_n 3, 1) := by decide +kernel
theorem dX11_does_93 : decode cX11_does 93 = .ok (.invokestatic 126, 3) := by decide +kernel
theorem dX11_does_96 : decode cX11_does 96 = .ok (.ifCond .eq 15, 3) := by decide +kernel
theorem dX11_does_99 : decode cX11_does 99 = .ok (.aload_n 0, 1) := by decide +kernel
theorem dX11_does_100 : decode cX11_does 100 = .ok (.getfield 19, 3) := by decide +kernel
theorem dX11_does_103 : decode cX11_does 103 = .ok (.iload_n 2, 1) := by decide +kernel
theorem dX11_does_104 : decode cX11_does 104 = .ok (.iload_n 3, 1) := by decide +kernel
theorem dX11_does_105 : decode cX11_does 105 = .ok (.invokestatic 152, 3) := by decide +kernel
theorem dX11_does_108 : decode cX11_does 108 = .ok (.ifCond .ne 5, 3) := by decide +kernel
theorem dX11_does_111 : decode cX11_does 111 = .ok (.iconst 0, 1) := by decide +kernel
theorem dX11_does_112 : decode cX11_does 112 = .ok (.ireturn, 1) := by decide +kernel
theorem dX11_does_113 : decode cX11_does 113 = .ok (.aload_n 0, 1) := by decide +kernel
theorem dX11_does_114 : decode cX11_does 114 = .ok (.getfield 19, 3) := by decide +kernel
theorem dX11_does_117 : decode cX11_does 117 = .ok (.iload_n 2, 1) := by decide +kernel
theorem dX11_does_118 : decode cX11_does 118 = .ok (.iload_n 3, 1) := by decide +kernel
theorem dX11_does_119 : decode cX11_does 119 = .ok (.iload 4, 2) := by decide +kernel
theorem dX11_does_121 : decode cX11_does 121 = .ok (.invokestatic 156, 3) := by decide +kernel
theorem dX11_does_124 : decode cX11_does 124 = .ok (.ifCond .lt 7, 3) := by decide +kernel
theorem dX11_does_127 : decode cX11_does 127 = .ok (.iconst 1, 1) := by decide +kernel
theorem dX11_does_128 : decode cX11_does 128 = .ok (.goto 4, 3) := by decide +kernel
theorem dX11_does_131 : decode cX11_does 131 = .ok (.iconst 0, 1) := by decide +kernel
theorem dX11_does_132 : decode cX11_does 132 = .ok (.ireturn, 1) := by decide +kernel
theorem dX11_does_133 : decode cX11_does 133 = .ok (.iload_n 2, 1) := by decide +kernel
theorem dX11_does_134 : decode cX11_does 134 = .ok (.iload_n 3, 1) := by decide +kernel
theorem dX11_does_135 : decode cX11_does 135 = .ok (.iadd, 1) := by decide +kernel
theorem dX11_does_136 : decode cX11_does 136 = .ok (.ifCond .gt 26, 3) := by decide +kernel
theorem dX11_does_139 : decode cX11_does 139 = .ok (.iload 7, 2) := by decide +kernel
theorem dX11_does_141 : decode cX11_does 141 = .ok (.ifCond .eq 21, 3) := by decide +kernel
theorem dX11_does_144 : decode cX11_does 144 = .ok (.aload_n 0, 1) := by decide +kernel
theorem dX11_does_145 : decode cX11_does 145 = .ok (.getfield 19, 3) := by decide +kernel
theorem dX11_does_148 : decode cX11_does 148 = .ok (.bipush 50, 2) := by decide +kernel
theorem dX11_does_150 : decode cX11_does 150 = .ok (.bipush 6, 2) := by decide +kernel
theorem dX11_does_152 : decode cX11_does 152 = .ok (.iload 6, 2) := by decide +kernel
theorem dX11_does_154 : decode cX11_does 154 = .ok (.imul, 1) := by decide +kernel
theorem dX11_does_155 : decode cX11_does 155 = .ok (.iadd, 1) := by decide +kernel
theorem dX11_does_156 : decode cX11_does 156 = .ok (.iconst 3, 1) := by decide +kernel
theorem dX11_does_157 : decode cX11_does 157 = .ok (.iadd, 1) := by decide +kernel
theorem dX11_does_158 : decode cX11_does 158 = .ok (.iaload, 1) := by decide +kernel
theorem dX11_does_159 : decode cX11_does 159 = .ok (.ifCond .eq 5, 3) := by decide +kernel
theorem dX11_does_162 : decode cX11_does 162 = .ok (.iconst 0, 1) := by decide +kernel
theorem dX11_does_163 : decode cX11_does 163 = .ok (.ireturn, 1) := by decide +kernel
theorem dX11_does_164 : decode cX11_does 164 = .ok (.aload_n 0, 1) := by decide +kernel
theorem dX11_does_165 : decode cX11_does 165 = .ok (.getfield 19, 3) := by decide +kernel
theorem dX11_does_168 : decode cX11_does 168 = .ok (.iload 6, 2) := by decide +kernel
theorem dX11_does_170 : decode cX11_does 170 = .ok (.invokestatic 159, 3) := by decide +kernel
theorem dX11_does_173 : decode cX11_does 173 = .ok (.pop, 1) := by decide +kernel
theorem dX11_does_174 : decode cX11_does 174 = .ok (.iconst 1, 1) := by decide +kernel
theorem dX11_does_175 : decode cX11_does 175 = .ok (.ireturn, 1) := by decide +kernel
theorem dX11_does_176 : decode cX11_does 176 = .ok (.iload 7, 2) := by decide +kernel
theorem dX11_does_178 : decode cX11_does 178 = .ok (.ifCond .eq 39, 3) := by decide +kernel
theorem dX11_does_181 : decode cX11_does 181 = .ok (.aload_n 0, 1) := by decide +kernel
theorem dX11_does_182 : decode cX11_does 182 = .ok (.getfield 19, 3) := by decide +kernel
theorem dX11_does_185 : decode cX11_does 185 = .ok (.iload_n 2, 1) := by decide +kernel
theorem dX11_does_186 : decode cX11_does 186 = .ok (.invokestatic 131, 3) := by decide +kernel
theorem dX11_does_189 : decode cX11_does 189 = .ok (.ifCond .eq 28, 3) := by decide +kernel
theorem dX11_does_192 : decode cX11_does 192 = .ok (.aload_n 0, 1) := by decide +kernel
theorem dX11_does_193 : decode cX11_does 193 = .ok (.getfield 19, 3) := by decide +kernel
theorem dX11_does_196 : decode cX11_does 196 = .ok (.iload_n 3, 1) := by decide +kernel
theorem dX11_does_197 : decode cX11_does 197 = .ok (.invokestatic 126, 3) := by decide +kernel
theorem dX11_does_200 : decode cX11_does 200 = .ok (.ifCond .eq 17, 3) := by decide +kernel
theorem dX11_does_203 : decode cX11_does 203 = .ok (.aload_n 0, 1) := by decide +kernel
theorem dX11_does_204 : decode cX11_does 204 = .ok (.getfield 19, 3) := by decide +kernel
theorem dX11_does_207 : decode cX11_does 207 = .ok (.iload_n 2, 1) := by decide +kernel
theorem dX11_does_208 : decode cX11_does 208 = .ok (.iload 6, 2) := by decide +kernel
theorem dX11_does_210 : decode cX11_does 210 = .ok (.iload_n 3, 1) := by decide +kernel
theorem dX11_does_211 : decode cX11_does 211 = .ok (.invokestatic 162, 3) := by decide +kernel
theorem dX11_does_214 : decode cX11_does 214 = .ok (.ifCond .ne 5, 3) := by decide +kernel
theorem dX11_does_217 : decode cX11_does 217 = .ok (.iconst 0, 1) := by decide +kernel
theorem dX11_does_218 : decode cX11_does 218 = .ok (.ireturn, 1) := by decide +kernel
theorem dX11_does_219 : decode cX11_does 219 = .ok (.aload_n 0, 1) := by decide +kernel
theorem dX11_does_220 : decode cX11_does 220 = .ok (.getfield 19, 3) := by decide +kernel
theorem dX11_does_223 : decode cX11_does 223 = .ok (.iload_n 2, 1) := by decide +kernel
theorem dX11_does_224 : decode cX11_does 224 = .ok (.iload 6, 2) := by decide +kernel
theorem dX11_does_226 : decode cX11_does 226 = .ok (.iload_n 3, 1) := by decide +kernel
theorem dX11_does_227 : decode cX11_does 227 = .ok (.invokestatic 166, 3) := by decide +kernel
theorem dX11_does_230 : decode cX11_does 230 = .ok (.pop, 1) := by decide +kernel
theorem dX11_does_231 : decode cX11_does 231 = .ok (.iconst 1, 1) := by decide +kernel
theorem dX11_does_232 : decode cX11_does 232 = .ok (.ireturn, 1) := by decide +kernel
theorem dX11_does_233 : decode cX11_does 233 = .ok (.iload_n 2, 1) := by decide +kernel
theorem dX11_does_234 : decode cX11_does 234 = .ok (.iload_n 3, 1) := by decide +kernel
theorem dX11_does_235 : decode cX11_does 235 = .ok (.iadd, 1) := by decide +kernel
theorem dX11_does_236 : decode cX11_does 236 = .ok (.ifCond .gt 20, 3) := by decide +kernel
theorem dX11_does_239 : decode cX11_does 239 = .ok (.iload 7, 2) := by decide +kernel
theorem dX11_does_241 : decode cX11_does 241 = .ok (.ifCond .eq 15, 3) := by decide +kernel
theorem dX11_does_244 : decode cX11_does 244 = .ok (.aload_n 0, 1) := by decide +kernel
theorem dX11_does_245 : decode cX11_does 245 = .ok (.getfield 19, 3) := by decide +kernel
theorem dX11_does_248 : decode cX11_does 248 = .ok (.iload 6, 2) := by decide +kernel
theorem dX11_does_250 : decode cX11_does 250 = .ok (.invokestatic 142, 3) := by decide +kernel
theorem dX11_does_253 : decode cX11_does 253 = .ok (.ifCond .eq 5, 3) := by decide +kernel
theorem dX11_does_256 : decode cX11_does 256 = .ok (.iconst 0, 1) := by decide +kernel
theorem dX11_does_257 : decode cX11_does 257 = .ok (.ireturn, 1) := by decide +kernel
theorem dX11_does_258 : decode cX11_does 258 = .ok (.aload_n 0, 1) := by decide +kernel
theorem dX11_does_259 : decode cX11_does 259 = .ok (.getfield 19, 3) := by decide +kernel
theorem dX11_does_262 : decode cX11_does 262 = .ok (.bipush 50, 2) := by decide +kernel
theorem dX11_does_264 : decode cX11_does 264 = .ok (.bipush 6, 2) := by decide +kernel
theorem dX11_does_266 : decode cX11_does 266 = .ok (.iload 6, 2) := by decide +kernel
theorem dX11_does_268 : decode cX11_does 268 = .ok (.imul, 1) := by decide +kernel
theorem dX11_does_269 : decode cX11_does 269 = .ok (.iadd, 1) := by decide +kernel
theorem dX11_does_270 : decode cX11_does 270 = .ok (.iconst 3, 1) := by decide +kernel
theorem dX11_does_271 : decode cX11_does 271 = .ok (.iadd, 1) := by decide +kernel
theorem dX11_does_272 : decode cX11_does 272 = .ok (.iconst 3, 1) := by decide +kernel
theorem dX11_does_273 : decode cX11_does 273 = .ok (.iastore, 1) := by decide +kernel
theorem dX11_does_274 : decode cX11_does 274 = .ok (.iconst 1, 1) := by decide +kernel
theorem dX11_does_275 : decode cX11_does 275 = .ok (.ireturn, 1) := by decide +kernel
theorem dX11_does_276 : decode cX11_does 276 = .ok (.iload_n 2, 1) := by decide +kernel
theorem dX11_does_277 : decode cX11_does 277 = .ok (.iload_n 3, 1) := by decide +kernel
theorem dX11_does_278 : decode cX11_does 278 = .ok (.iadd, 1) := by decide +kernel
theorem dX11_does_279 : decode cX11_does 279 = .ok (.iload 4, 2) := by decide +kernel
theorem dX11_does_281 : decode cX11_does 281 = .ok (.iadd, 1) := by decide +kernel
theorem dX11_does_282 : decode cX11_does 282 = .ok (.ifCond .ne 25, 3) := by decide +kernel
theorem dX11_does_285 : decode cX11_does 285 = .ok (.iload 5, 2) := by decide +kernel
theorem dX11_does_287 : decode cX11_does 287 = .ok (.iconst 2, 1) := by decide +kernel
theorem dX11_does_288 : decode cX11_does 288 = .ok (.if_icmp .ge 19, 3) := by decide +kernel
theorem dX11_does_291 : decode cX11_does 291 = .ok (.aload_n 0, 1) := by decide +kernel
theorem dX11_does_292 : decode cX11_does 292 = .ok (.getfield 19, 3) := by decide +kernel
theorem dX11_does_295 : decode cX11_does 295 = .ok (.iload 5, 2) := by decide +kernel
theorem dX11_does_297 : decode cX11_does 297 = .ok (.invokestatic 169, 3) := by decide +kernel
theorem dX11_does_300 : decode cX11_does 300 = .ok (.ifCond .le 7, 3) := by decide +kernel
theorem dX11_does_303 : decode cX11_does 303 = .ok (.iconst 1, 1) := by decide +kernel
theorem dX11_does_304 : decode cX11_does 304 = .ok (.goto 4, 3) := by decide +kernel
theorem dX11_does_307 : decode cX11_does 307 = .ok (.iconst 0, 1) := by decide +kernel
theorem dX11_does_308 : decode cX11_does 308 = .ok (.ireturn, 1) := by decide +kernel
theorem dX11_does_309 : decode cX11_does 309 = .ok (.iload_n 2, 1) := by decide +kernel
theorem dX11_does_310 : decode cX11_does 310 = .ok (.iload_n 3, 1) := by decide +kernel
theorem dX11_does_311 : decode cX11_does 311 = .ok (.iadd, 1) := by decide +kernel
theorem dX11_does_312 : decode cX11_does 312 = .ok (.iload 4, 2) := by decide +kernel
theorem dX11_does_314 : decode cX11_does 314 = .ok (.iadd, 1) := by decide +kernel
theorem dX11_does_315 : decode cX11_does 315 = .ok (.ifCond .le 5, 3) := by decide +kernel
theorem dX11_does_318 : decode cX11_does 318 = .ok (.iconst 0, 1) := by decide +kernel
theorem dX11_does_319 : decode cX11_does 319 = .ok (.ireturn, 1) := by decide +kernel
theorem dX11_does_320 : decode cX11_does 320 = .ok (.aload_n 0, 1) := by decide +kernel
theorem dX11_does_321 : decode cX11_does 321 = .ok (.getfield 19, 3) := by decide +kernel
theorem dX11_does_324 : decode cX11_does 324 = .ok (.iconst 0, 1) := by decide +kernel
theorem dX11_does_325 : decode cX11_does 325 = .ok (.iload 5, 2) := by decide +kernel
theorem dX11_does_327 : decode cX11_does 327 = .ok (.iastore, 1) := by decide +kernel
theorem dX11_does_328 : decode cX11_does 328 = .ok (.iconst 1, 1) := by decide +kernel
theorem dX11_does_329 : decode cX11_does 329 = .ok (.ireturn, 1) := by decide +kernel
theorem dX11_does_330 : decode cX11_does 330 = .ok (.iload_n 2, 1) := by decide +kernel
theorem dX11_does_331 : decode cX11_does 331 = .ok (.iload_n 3, 1) := by decide +kernel
theorem dX11_does_332 : decode cX11_does 332 = .ok (.iadd, 1) := by decide +kernel
theorem dX11_does_333 : decode cX11_does 333 = .ok (.ifCond .gt 27, 3) := by decide +kernel
theorem dX11_does_336 : decode cX11_does 336 = .ok (.iload 7, 2) := by decide +kernel
theorem dX11_does_338 : decode cX11_does 338 = .ok (.ifCond .eq 22, 3) := by decide +kernel
theorem dX11_does_341 : decode cX11_does 341 = .ok (.aload_n 0, 1) := by decide +kernel
theorem dX11_does_342 : decode cX11_does 342 = .ok (.getfield 19, 3) := by decide +kernel
theorem dX11_does_345 : decode cX11_does 345 = .ok (.bipush 50, 2) := by decide +kernel
theorem dX11_does_347 : decode cX11_does 347 = .ok (.bipush 6, 2) := by decide +kernel
theorem dX11_does_349 : decode cX11_does 349 = .ok (.iload 6, 2) := by decide +kernel
theorem dX11_does_351 : decode cX11_does 351 = .ok (.imul, 1) := by decide +kernel
theorem dX11_does_352 : decode cX11_does 352 = .ok (.iadd, 1) := by decide +kernel
theorem dX11_does_353 : decode cX11_does 353 = .ok (.iconst 3, 1) := by decide +kernel
theorem dX11_does_354 : decode cX11_does 354 = .ok (.iadd, 1) := by decide +kernel
theorem dX11_does_355 : decode cX11_does 355 = .ok (.iaload, 1) := by decide +kernel
theorem dX11_does_356 : decode cX11_does 356 = .ok (.iconst 2, 1) := by decide +kernel
theorem dX11_does_357 : decode cX11_does 357 = .ok (.if_icmp .eq 5, 3) := by decide +kernel
theorem dX11_does_360 : decode cX11_does 360 = .ok (.iconst 0, 1) := by decide +kernel
theorem dX11_does_361 : decode cX11_does 361 = .ok (.ireturn, 1) := by decide +kernel
theorem dX11_does_362 : decode cX11_does 362 = .ok (.aload_n 0, 1) := by decide +kernel
theorem dX11_does_363 : decode cX11_does 363 = .ok (.getfield 19, 3) := by decide +kernel
theorem dX11_does_366 : decode cX11_does 366 = .ok (.bipush 50, 2) := by decide +kernel
theorem dX11_does_368 : decode cX11_does 368 = .ok (.bipush 6, 2) := by decide +kernel
theorem dX11_does_370 : decode cX11_does 370 = .ok (.iload 6, 2) := by decide +kernel
theorem dX11_does_372 : decode cX11_does 372 = .ok (.imul, 1) := by decide +kernel
theorem dX11_does_373 : decode cX11_does 373 = .ok (.iadd, 1) := by decide +kernel
theorem dX11_does_374 : decode cX11_does 374 = .ok (.iconst 3, 1) := by decide +kernel
theorem dX11_does_375 : decode cX11_does 375 = .ok (.iadd, 1) := by decide +kernel
theorem dX11_does_376 : decode cX11_does 376 = .ok (.iconst 4, 1) := by decide +kernel
theorem dX11_does_377 : decode cX11_does 377 = .ok (.iastore, 1) := by decide +kernel
theorem dX11_does_378 : decode cX11_does 378 = .ok (.iconst 1, 1) := by decide +kernel
theorem dX11_does_379 : decode cX11_does 379 = .ok (.ireturn, 1) := by decide +kernel
theorem dX11_does_380 : decode cX11_does 380 = .ok (.aload_n 0, 1) := by decide +kernel
theorem dX11_does_381 : decode cX11_does 381 = .ok (.getfield 19, 3) := by decide +kernel
theorem dX11_does_384 : decode cX11_does 384 = .ok (.invokestatic 122, 3) := by decide +kernel
theorem dX11_does_387 : decode cX11_does 387 = .ok (.sipush 1000, 3) := by decide +kernel
theorem dX11_does_390 : decode cX11_does 390 = .ok (.iload_n 2, 1) := by decide +kernel
theorem dX11_does_391 : decode cX11_does 391 = .ok (.imul, 1) := by decide +kernel
theorem dX11_does_392 : decode cX11_does 392 = .ok (.bipush 100, 2) := by decide +kernel
theorem dX11_does_394 : decode cX11_does 394 = .ok (.iload_n 3, 1) := by decide +kernel
theorem dX11_does_395 : decode cX11_does 395 = .ok (.imul, 1) := by decide +kernel
theorem dX11_does_396 : decode cX11_does 396 = .ok (.iadd, 1) := by decide +kernel
theorem dX11_does_397 : decode cX11_does 397 = .ok (.iload 6, 2) := by decide +kernel
theorem dX11_does_399 : decode cX11_does 399 = .ok (.iadd, 1) := by decide +kernel
theorem dX11_does_400 : decode cX11_does 400 = .ok (.if_icmp .lt 7, 3) := by decide +kernel
theorem dX11_does_403 : decode cX11_does 403 = .ok (.iconst 1, 1) := by decide +kernel
theorem dX11_does_404 : decode cX11_does 404 = .ok (.goto 4, 3) := by decide +kernel
theorem dX11_does_407 : decode cX11_does 407 = .ok (.iconst 0, 1) := by decide +kernel
theorem dX11_does_408 : decode cX11_does 408 = .ok (.ireturn, 1) := by decide +kernel
theorem dX11_does_409 : decode cX11_does 409 = .ok (.iload_n 3, 1) := by decide +kernel
theorem dX11_does_410 : decode cX11_does 410 = .ok (.iload 4, 2) := by decide +kernel
theorem dX11_does_412 : decode cX11_does 412 = .ok (.iadd, 1) := by decide +kernel
theorem dX11_does_413 : decode cX11_does 413 = .ok (.ifCond .ne 32, 3) := by decide +kernel
theorem dX11_does_416 : decode cX11_does 416 = .ok (.aload_n 0, 1) := by decide +kernel
theorem dX11_does_417 : decode cX11_does 417 = .ok (.getfield 19, 3) := by decide +kernel
theorem dX11_does_420 : decode cX11_does 420 = .ok (.iload_n 2, 1) := by decide +kernel
theorem dX11_does_421 : decode cX11_does 421 = .ok (.invokestatic 126, 3) := by decide +kernel
theorem dX11_does_424 : decode cX11_does 424 = .ok (.ifCond .eq 21, 3) := by decide +kernel
theorem dX11_does_427 : decode cX11_does 427 = .ok (.aload_n 0, 1) := by decide +kernel
theorem dX11_does_428 : decode cX11_does 428 = .ok (.getfield 19, 3) := by decide +kernel
theorem dX11_does_431 : decode cX11_does 431 = .ok (.iload_n 2, 1) := by decide +kernel
theorem dX11_does_432 : decode cX11_does 432 = .ok (.iconst 3, 1) := by decide +kernel
theorem dX11_does_433 : decode cX11_does 433 = .ok (.invokestatic 43, 3) := by decide +kernel
theorem dX11_does_436 : decode cX11_does 436 = .ok (.iload 5, 2) := by decide +kernel
theorem dX11_does_438 : decode cX11_does 438 = .ok (.if_icmp .ne 7, 3) := by decide +kernel
theorem dX11_does_441 : decode cX11_does 441 = .ok (.iconst 1, 1) := by decide +kernel
theorem dX11_does_442 : decode cX11_does 442 = .ok (.goto 4, 3) := by decide +kernel
theorem dX11_does_445 : decode cX11_does 445 = .ok (.iconst 0, 1) := by decide +kernel
theorem dX11_does_446 : decode cX11_does 446 = .ok (.ireturn, 1) := by decide +kernel
theorem dX11_does_447 : decode cX11_does 447 = .ok (.iconst 0, 1) := by decide +kernel
theorem dX11_does_448 : decode cX11_does 448 = .ok (.ireturn, 1) := by decide +kernel
theorem dX11_runScript_0 : decode cX11_runScript 0 = .ok (.iload_n 1, 1) := by decide +kernel
theorem dX11_runScript_1 : decode cX11_runScript 1 = .ok (.iconst 1, 1) := by decide +kernel
theorem dX11_runScript_2 : decode cX11_runScript 2 = .ok (.if_icmp .ne 9, 3) := by decide +kernel
theorem dX11_runScript_5 : decode cX11_runScript 5 = .ok (.ldc2_w 183, 3) := by decide +kernel
theorem dX11_runScript_8 : decode cX11_runScript 8 = .ok (.goto 17, 3) := by decide +kernel
theorem dX11_runScript_11 : decode cX11_runScript 11 = .ok (.iload_n 1, 1) := by decide +kernel
theorem dX11_runScript_12 : decode cX11_runScript 12 = .ok (.iconst 2, 1) := by decide +kernel
theorem dX11_runScript_13 : decode cX11_runScript 13 = .ok (.if_icmp .ne 9, 3) := by decide +kernel
theorem dX11_runScript_16 : decode cX11_runScript 16 = .ok (.ldc2_w 185, 3) := by decide +kernel
theorem dX11_runScript_19 : decode cX11_runScript 19 = .ok (.goto 6, 3) := by decide +kernel
theorem dX11_runScript_22 : decode cX11_runScript 22 = .ok (.ldc2_w 187, 3) := by decide +kernel
theorem dX11_runScript_25 : decode cX11_runScript 25 = .ok (.lstore 4, 2) := by decide +kernel
theorem dX11_runScript_27 : decode cX11_runScript 27 = .ok (.aload_n 0, 1) := by decide +kernel
theorem dX11_runScript_28 : decode cX11_runScript 28 = .ok (.iload_n 1, 1) := by decide +kernel
theorem dX11_runScript_29 : decode cX11_runScript 29 = .ok (.i2l, 1) := by decide +kernel
theorem dX11_runScript_30 : decode cX11_runScript 30 = .ok (.lconst 1, 1) := by decide +kernel
theorem dX11_runScript_31 : decode cX11_runScript 31 = .ok (.ldc2_w 189, 3) := by decide +kernel
theorem dX11_runScript_34 : decode cX11_runScript 34 = .ok (.invokestatic 39, 3) := by decide +kernel
theorem dX11_runScript_37 : decode cX11_runScript 37 = .ok (.ifCond .eq 19, 3) := by decide +kernel
theorem dX11_runScript_40 : decode cX11_runScript 40 = .ok (.lload_n 2, 1) := by decide +kernel
theorem dX11_runScript_41 : decode cX11_runScript 41 = .ok (.lconst 0, 1) := by decide +kernel
theorem dX11_runScript_42 : decode cX11_runScript 42 = .ok (.lload 4, 2) := by decide +kernel
theorem dX11_runScript_44 : decode cX11_runScript 44 = .ok (.lconst 1, 1) := by decide +kernel
theorem dX11_runScript_45 : decode cX11_runScript 45 = .ok (.lsub, 1) := by decide +kernel
theorem dX11_runScript_46 : decode cX11_runScript 46 = .ok (.invokestatic 39, 3) := by decide +kernel
theorem dX11_runScript_49 : decode cX11_runScript 49 = .ok (.ifCond .eq 7, 3) := by decide +kernel
theorem dX11_runScript_52 : decode cX11_runScript 52 = .ok (.iconst 0, 1) := by decide +kernel
theorem dX11_runScript_53 : decode cX11_runScript 53 = .ok (.goto 4, 3) := by decide +kernel
theorem dX11_runScript_56 : decode cX11_runScript 56 = .ok (.iconst 1, 1) := by decide +kernel
theorem dX11_runScript_57 : decode cX11_runScript 57 = .ok (.invokevirtual 76, 3) := by decide +kernel
theorem dX11_runScript_60 : decode cX11_runScript 60 = .ok (.ifCond .eq 5, 3) := by decide +kernel
theorem dX11_runScript_63 : decode cX11_runScript 63 = .ok (.iconst 0, 1) := by decide +kernel
theorem dX11_runScript_64 : decode cX11_runScript 64 = .ok (.ireturn, 1) := by decide +kernel
theorem dX11_runScript_65 : decode cX11_runScript 65 = .ok (.aload_n 0, 1) := by decide +kernel
theorem dX11_runScript_66 : decode cX11_runScript 66 = .ok (.getfield 16, 3) := by decide +kernel
theorem dX11_runScript_69 : decode cX11_runScript 69 = .ok (.iconst 0, 1) := by decide +kernel
theorem dX11_runScript_70 : decode cX11_runScript 70 = .ok (.aload_n 0, 1) := by decide +kernel
theorem dX11_runScript_71 : decode cX11_runScript 71 = .ok (.getfield 19, 3) := by decide +kernel
theorem dX11_runScript_74 : decode cX11_runScript 74 = .ok (.iconst 0, 1) := by decide +kernel
theorem dX11_runScript_75 : decode cX11_runScript 75 = .ok (.invokestatic 110, 3) := by decide +kernel
theorem dX11_runScript_78 : decode cX11_runScript 78 = .ok (.lload_n 2, 1) := by decide +kernel
theorem dX11_runScript_79 : decode cX11_runScript 79 = .ok (.lstore 6, 2) := by decide +kernel
theorem dX11_runScript_81 : decode cX11_runScript 81 = .ok (.iconst 0, 1) := by decide +kernel
theorem dX11_runScript_82 : decode cX11_runScript 82 = .ok (.istore 8, 2) := by decide +kernel
theorem dX11_runScript_84 : decode cX11_runScript 84 = .ok (.iload 8, 2) := by decide +kernel
theorem dX11_runScript_86 : decode cX11_runScript 86 = .ok (.iload_n 1, 1) := by decide +kernel
theorem dX11_runScript_87 : decode cX11_runScript 87 = .ok (.if_icmp .ge 78, 3) := by decide +kernel
theorem dX11_runScript_90 : decode cX11_runScript 90 = .ok (.lload 4, 2) := by decide +kernel
theorem dX11_runScript_92 : decode cX11_runScript 92 = .ok (.ldc2_w 183, 3) := by decide +kernel
theorem dX11_runScript_95 : decode cX11_runScript 95 = .ok (.ldiv, 1) := by decide +kernel
theorem dX11_runScript_96 : decode cX11_runScript 96 = .ok (.lstore 4, 2) := by decide +kernel
theorem dX11_runScript_98 : decode cX11_runScript 98 = .ok (.lload 6, 2) := by decide +kernel
theorem dX11_runScript_100 : decode cX11_runScript 100 = .ok (.lload 4, 2) := by decide +kernel
theorem dX11_runScript_102 : decode cX11_runScript 102 = .ok (.ldiv, 1) := by decide +kernel
theorem dX11_runScript_103 : decode cX11_runScript 103 = .ok (.l2i, 1) := by decide +kernel
theorem dX11_runScript_104 : decode cX11_runScript 104 = .ok (.istore 9, 2) := by decide +kernel
theorem dX11_runScript_106 : decode cX11_runScript 106 = .ok (.lload 6, 2) := by decide +kernel
theorem dX11_runScript_108 : decode cX11_runScript 108 = .ok (.lload 4, 2) := by decide +kernel
theorem dX11_runScript_110 : decode cX11_runScript 110 = .ok (.lrem, 1) := by decide +kernel
theorem dX11_runScript_111 : decode cX11_runScript 111 = .ok (.lstore 6, 2) := by decide +kernel
theorem dX11_runScript_113 : decode cX11_runScript 113 = .ok (.aload_n 0, 1) := by decide +kernel
theorem dX11_runScript_114 : decode cX11_runScript 114 = .ok (.iload 9, 2) := by decide +kernel
theorem dX11_runScript_116 : decode cX11_runScript 116 = .ok (.sipush 10000, 3) := by decide +kernel
theorem dX11_runScript_119 : decode cX11_runScript 119 = .ok (.idiv, 1) := by decide +kernel
theorem dX11_runScript_120 : decode cX11_runScript 120 = .ok (.iload 9, 2) := by decide +kernel
theorem dX11_runScript_122 : decode cX11_runScript 122 = .ok (.sipush 1000, 3) := by decide +kernel
theorem dX11_runScript_125 : decode cX11_runScript 125 = .ok (.idiv, 1) := by decide +kernel
theorem dX11_runScript_126 : decode cX11_runScript 126 = .ok (.bipush 10, 2) := by decide +kernel
theorem dX11_runScript_128 : decode cX11_runScript 128 = .ok (.irem, 1) := by decide +kernel
theorem dX11_runScript_129 : decode cX11_runScript 129 = .ok (.iload 9, 2) := by decide +kernel
theorem dX11_runScript_131 : decode cX11_runScript 131 = .ok (.bipush 100, 2) := by decide +kernel
theorem dX11_runScript_133 : decode cX11_runScript 133 = .ok (.idiv, 1) := by decide +kernel
theorem dX11_runScript_134 : decode cX11_runScript 134 = .ok (.bipush 10, 2) := by decide +kernel
theorem dX11_runScript_136 : decode cX11_runScript 136 = .ok (.irem, 1) := by decide +kernel
theorem dX11_runScript_137 : decode cX11_runScript 137 = .ok (.iload 9, 2) := by decide +kernel
theorem dX11_runScript_139 : decode cX11_runScript 139 = .ok (.bipush 10, 2) := by decide +kernel
theorem dX11_runScript_141 : decode cX11_runScript 141 = .ok (.idiv, 1) := by decide +kernel
theorem dX11_runScript_142 : decode cX11_runScript 142 = .ok (.bipush 10, 2) := by decide +kernel
theorem dX11_runScript_144 : decode cX11_runScript 144 = .ok (.irem, 1) := by decide +kernel
theorem dX11_runScript_145 : decode cX11_runScript 145 = .ok (.iload 9, 2) := by decide +kernel
theorem dX11_runScript_147 : decode cX11_runScript 147 = .ok (.bipush 10, 2) := by decide +kernel
theorem dX11_runScript_149 : decode cX11_runScript 149 = .ok (.irem, 1) := by decide +kernel
theorem dX11_runScript_150 : decode cX11_runScript 150 = .ok (.invokevirtual 191, 3) := by decide +kernel
theorem dX11_runScript_153 : decode cX11_runScript 153 = .ok (.ifCond .ne 6, 3) := by decide +kernel
theorem dX11_runScript_156 : decode cX11_runScript 156 = .ok (.iload 8, 2) := by decide +kernel
theorem dX11_runScript_158 : decode cX11_runScript 158 = .ok (.ireturn, 1) := by decide +kernel
theorem dX11_runScript_159 : decode cX11_runScript 159 = .ok (.iinc 8 1, 3) := by decide +kernel
theorem dX11_runScript_162 : decode cX11_runScript 162 = .ok (.goto (-78), 3) := by decide +kernel
theorem dX11_runScript_165 : decode cX11_runScript 165 = .ok (.bipush (-9), 2) := by decide +kernel
theorem dX11_runScript_167 : decode cX11_runScript 167 = .ok (.ireturn, 1) := by decide +kernel
theorem dX11_lowest_0 : decode cX11_lowest 0 = .ok (.iconst 0, 1) := by decide +kernel
theorem dX11_lowest_1 : decode cX11_lowest 1 = .ok (.istore_n 2, 1) := by decide +kernel
theorem dX11_lowest_2 : decode cX11_lowest 2 = .ok (.iload_n 2, 1) := by decide +kernel
theorem dX11_lowest_3 : decode cX11_lowest 3 = .ok (.aload_n 0, 1) := by decide +kernel
theorem dX11_lowest_4 : decode cX11_lowest 4 = .ok (.getfield 19, 3) := by decide +kernel
theorem dX11_lowest_7 : decode cX11_lowest 7 = .ok (.bipush 7, 2) := by decide +kernel
theorem dX11_lowest_9 : decode cX11_lowest 9 = .ok (.iaload, 1) := by decide +kernel
theorem dX11_lowest_10 : decode cX11_lowest 10 = .ok (.if_icmp .ge 29, 3) := by decide +kernel
theorem dX11_lowest_13 : decode cX11_lowest 13 = .ok (.aload_n 0, 1) := by decide +kernel
theorem dX11_lowest_14 : decode cX11_lowest 14 = .ok (.getfield 19, 3) := by decide +kernel
theorem dX11_lowest_17 : decode cX11_lowest 17 = .ok (.bipush 50, 2) := by decide +kernel
theorem dX11_lowest_19 : decode cX11_lowest 19 = .ok (.bipush 6, 2) := by decide +kernel
theorem dX11_lowest_21 : decode cX11_lowest 21 = .ok (.iload_n 2, 1) := by decide +kernel
theorem dX11_lowest_22 : decode cX11_lowest 22 = .ok (.imul, 1) := by decide +kernel
theorem dX11_lowest_23 : decode cX11_lowest 23 = .ok (.iadd, 1) := by decide +kernel
theorem dX11_lowest_24 : decode cX11_lowest 24 = .ok (.iconst 3, 1) := by decide +kernel
theorem dX11_lowest_25 : decode cX11_lowest 25 = .ok (.iadd, 1) := by decide +kernel
theorem dX11_lowest_26 : decode cX11_lowest 26 = .ok (.iaload, 1) := by decide +kernel
theorem dX11_lowest_27 : decode cX11_lowest 27 = .ok (.iload_n 1, 1) := by decide +kernel
theorem dX11_lowest_28 : decode cX11_lowest 28 = .ok (.if_icmp .ne 5, 3) := by decide +kernel
theorem dX11_lowest_31 : decode cX11_lowest 31 = .ok (.iload_n 2, 1) := by decide +kernel
theorem dX11_lowest_32 : decode cX11_lowest 32 = .ok (.ireturn, 1) := by decide +kernel
theorem dX11_lowest_33 : decode cX11_lowest 33 = .ok (.iinc 2 1, 3) := by decide +kernel
theorem dX11_lowest_36 : decode cX11_lowest 36 = .ok (.goto (-34), 3) := by decide +kernel
theorem dX11_lowest_39 : decode cX11_lowest 39 = .ok (.bipush (-9), 2) := by decide +kernel
theorem dX11_lowest_41 : decode cX11_lowest 41 = .ok (.ireturn, 1) := by decide +kernel
theorem dX11_recutLowest_0 : decode cX11_recutLowest 0 = .ok (.aload_n 0, 1) := by decide +kernel
theorem dX11_recutLowest_1 : decode cX11_recutLowest 1 = .ok (.iconst 2, 1) := by decide +kernel
theorem dX11_recutLowest_2 : decode cX11_recutLowest 2 = .ok (.invokevirtual 195, 3) := by decide +kernel
theorem dX11_recutLowest_5 : decode cX11_recutLowest 5 = .ok (.istore_n 2, 1) := by decide +kernel
theorem dX11_recutLowest_6 : decode cX11_recutLowest 6 = .ok (.iload_n 2, 1) := by decide +kernel
theorem dX11_recutLowest_7 : decode cX11_recutLowest 7 = .ok (.bipush (-9), 2) := by decide +kernel
theorem dX11_recutLowest_9 : decode cX11_recutLowest 9 = .ok (.if_icmp .eq 60, 3) := by decide +kernel
theorem dX11_recutLowest_12 : decode cX11_recutLowest 12 = .ok (.aload_n 0, 1) := by decide +kernel
theorem dX11_recutLowest_13 : decode cX11_recutLowest 13 = .ok (.getfield 19, 3) := by decide +kernel
theorem dX11_recutLowest_16 : decode cX11_recutLowest 16 = .ok (.iload_n 2, 1) := by decide +kernel
theorem dX11_recutLowest_17 : decode cX11_recutLowest 17 = .ok (.invokestatic 172, 3) := by decide +kernel
theorem dX11_recutLowest_20 : decode cX11_recutLowest 20 = .ok (.istore_n 3, 1) := by decide +kernel
theorem dX11_recutLowest_21 : decode cX11_recutLowest 21 = .ok (.iload_n 3, 1) := by decide +kernel
theorem dX11_recutLowest_22 : decode cX11_recutLowest 22 = .ok (.bipush (-9), 2) := by decide +kernel
theorem dX11_recutLowest_24 : decode cX11_recutLowest 24 = .ok (.if_icmp .eq 30, 3) := by decide +kernel
theorem dX11_recutLowest_27 : decode cX11_recutLowest 27 = .ok (.aload_n 0, 1) := by decide +kernel
theorem dX11_recutLowest_28 : decode cX11_recutLowest 28 = .ok (.getfield 19, 3) := by decide +kernel
theorem dX11_recutLowest_31 : decode cX11_recutLowest 31 = .ok (.iload_n 1, 1) := by decide +kernel
theorem dX11_recutLowest_32 : decode cX11_recutLowest 32 = .ok (.iload_n 2, 1) := by decide +kernel
theorem dX11_recutLowest_33 : decode cX11_recutLowest 33 = .ok (.iload_n 3, 1) := by decide +kernel
theorem dX11_recutLowest_34 : decode cX11_recutLowest 34 = .ok (.invokestatic 162, 3) := by decide +kernel
theorem dX11_recutLowest_37 : decode cX11_recutLowest 37 = .ok (.ifCond .eq 17, 3) := by decide +kernel
theorem dX11_recutLowest_40 : decode cX11_recutLowest 40 = .ok (.aload_n 0, 1) := by decide +kernel
theorem dX11_recutLowest_41 : decode cX11_recutLowest 41 = .ok (.getfield 19, 3) := by decide +kernel
theorem dX11_recutLowest_44 : decode cX11_recutLowest 44 = .ok (.iload_n 1, 1) := by decide +kernel
theorem dX11_recutLowest_45 : decode cX11_recutLowest 45 = .ok (.iload_n 2, 1) := by decide +kernel
theorem dX11_recutLowest_46 : decode cX11_recutLowest 46 = .ok (.iload_n 3, 1) := by decide +kernel
theorem dX11_recutLowest_47 : decode cX11_recutLowest 47 = .ok (.invokestatic 166, 3) := by decide +kernel
theorem dX11_recutLowest_50 : decode cX11_recutLowest 50 = .ok (.pop, 1) := by decide +kernel
theorem dX11_recutLowest_51 : decode cX11_recutLowest 51 = .ok (.goto 18, 3) := by decide +kernel
theorem dX11_recutLowest_54 : decode cX11_recutLowest 54 = .ok (.aload_n 0, 1) := by decide +kernel
theorem dX11_recutLowest_55 : decode cX11_recutLowest 55 = .ok (.getfield 19, 3) := by decide +kernel
theorem dX11_recutLowest_58 : decode cX11_recutLowest 58 = .ok (.bipush 50, 2) := by decide +kernel
theorem dX11_recutLowest_60 : decode cX11_recutLowest 60 = .ok (.bipush 6, 2) := by decide +kernel
theorem dX11_recutLowest_62 : decode cX11_recutLowest 62 = .ok (.iload_n 2, 1) := by decide +kernel
theorem dX11_recutLowest_63 : decode cX11_recutLowest 63 = .ok (.imul, 1) := by decide +kernel
theorem dX11_recutLowest_64 : decode cX11_recutLowest 64 = .ok (.iadd, 1) := by decide +kernel
theorem dX11_recutLowest_65 : decode cX11_recutLowest 65 = .ok (.iconst 3, 1) := by decide +kernel
theorem dX11_recutLowest_66 : decode cX11_recutLowest 66 = .ok (.iadd, 1) := by decide +kernel
theorem dX11_recutLowest_67 : decode cX11_recutLowest 67 = .ok (.iconst 4, 1) := by decide +kernel
theorem dX11_recutLowest_68 : decode cX11_recutLowest 68 = .ok (.iastore, 1) := by decide +kernel
theorem dX11_recutLowest_69 : decode cX11_recutLowest 69 = .ok (.return_, 1) := by decide +kernel
theorem dX11_setLowest_0 : decode cX11_setLowest 0 = .ok (.iconst 0, 1) := by decide +kernel
theorem dX11_setLowest_1 : decode cX11_setLowest 1 = .ok (.istore_n 1, 1) := by decide +kernel
theorem dX11_setLowest_2 : decode cX11_setLowest 2 = .ok (.iconst 0, 1) := by decide +kernel
theorem dX11_setLowest_3 : decode cX11_setLowest 3 = .ok (.istore_n 2, 1) := by decide +kernel
theorem dX11_setLowest_4 : decode cX11_setLowest 4 = .ok (.iload_n 2, 1) := by decide +kernel
theorem dX11_setLowest_5 : decode cX11_setLowest 5 = .ok (.aload_n 0, 1) := by decide +kernel
theorem dX11_setLowest_6 : decode cX11_setLowest 6 = .ok (.getfield 19, 3) := by decide +kernel
theorem dX11_setLowest_9 : decode cX11_setLowest 9 = .ok (.bipush 7, 2) := by decide +kernel
theorem dX11_setLowest_11 : decode cX11_setLowest 11 = .ok (.iaload, 1) := by decide +kernel
theorem dX11_setLowest_12 : decode cX11_setLowest 12 = .ok (.if_icmp .ge 41, 3) := by decide +kernel
theorem dX11_setLowest_15 : decode cX11_setLowest 15 = .ok (.iload_n 1, 1) := by decide +kernel
theorem dX11_setLowest_16 : decode cX11_setLowest 16 = .ok (.ifCond .ne 37, 3) := by decide +kernel
theorem dX11_setLowest_19 : decode cX11_setLowest 19 = .ok (.aload_n 0, 1) := by decide +kernel
theorem dX11_setLowest_20 : decode cX11_setLowest 20 = .ok (.getfield 19, 3) := by decide +kernel
theorem dX11_setLowest_23 : decode cX11_setLowest 23 = .ok (.iload_n 2, 1) := by decide +kernel
theorem dX11_setLowest_24 : decode cX11_setLowest 24 = .ok (.invokestatic 142, 3) := by decide +kernel
theorem dX11_setLowest_27 : decode cX11_setLowest 27 = .ok (.ifCond .ne 20, 3) := by decide +kernel
theorem dX11_setLowest_30 : decode cX11_setLowest 30 = .ok (.aload_n 0, 1) := by decide +kernel
theorem dX11_setLowest_31 : decode cX11_setLowest 31 = .ok (.getfield 19, 3) := by decide +kernel
theorem dX11_setLowest_34 : decode cX11_setLowest 34 = .ok (.bipush 50, 2) := by decide +kernel
theorem dX11_setLowest_36 : decode cX11_setLowest 36 = .ok (.bipush 6, 2) := by decide +kernel
theorem dX11_setLowest_38 : decode cX11_setLowest 38 = .ok (.iload_n 2, 1) := by decide +kernel
theorem dX11_setLowest_39 : decode cX11_setLowest 39 = .ok (.imul, 1) := by decide +kernel
theorem dX11_setLowest_40 : decode cX11_setLowest 40 = .ok (.iadd, 1) := by decide +kernel
theorem dX11_setLowest_41 : decode cX11_setLowest 41 = .ok (.iconst 3, 1) := by decide +kernel
theorem dX11_setLowest_42 : decode cX11_setLowest 42 = .ok (.iadd, 1) := by decide +kernel
theorem dX11_setLowest_43 : decode cX11_setLowest 43 = .ok (.iconst 3, 1) := by decide +kernel
theorem dX11_setLowest_44 : decode cX11_setLowest 44 = .ok (.iastore, 1) := by decide +kernel
theorem dX11_setLowest_45 : decode cX11_setLowest 45 = .ok (.iconst 1, 1) := by decide +kernel
theorem dX11_setLowest_46 : decode cX11_setLowest 46 = .ok (.istore_n 1, 1) := by decide +kernel
theorem dX11_setLowest_47 : decode cX11_setLowest 47 = .ok (.iinc 2 1, 3) := by decide +kernel
theorem dX11_setLowest_50 : decode cX11_setLowest 50 = .ok (.goto (-46), 3) := by decide +kernel
theorem dX11_setLowest_53 : decode cX11_setLowest 53 = .ok (.return_, 1) := by decide +kernel
theorem dX11_simulateRound_0 : decode cX11_simulateRound 0 = .ok (.aload_n 0, 1) := by decide +kernel
theorem dX11_simulateRound_1 : decode cX11_simulateRound 1 = .ok (.getfield 19, 3) := by decide +kernel
theorem dX11_simulateRound_4 : decode cX11_simulateRound 4 = .ok (.bipush 6, 2) := by decide +kernel
theorem dX11_simulateRound_6 : decode cX11_simulateRound 6 = .ok (.iaload, 1) := by decide +kernel
theorem dX11_simulateRound_7 : decode cX11_simulateRound 7 = .ok (.ifCond .ne 7, 3) := by decide +kernel
theorem dX11_simulateRound_10 : decode cX11_simulateRound 10 = .ok (.iconst 0, 1) := by decide +kernel
theorem dX11_simulateRound_11 : decode cX11_simulateRound 11 = .ok (.goto 15, 3) := by decide +kernel
theorem dX11_simulateRound_14 : decode cX11_simulateRound 14 = .ok (.iload_n 1, 1) := by decide +kernel
theorem dX11_simulateRound_15 : decode cX11_simulateRound 15 = .ok (.bipush 8, 2) := by decide +kernel
theorem dX11_simulateRound_17 : decode cX11_simulateRound 17 = .ok (.idiv, 1) := by decide +kernel
theorem dX11_simulateRound_18 : decode cX11_simulateRound 18 = .ok (.aload_n 0, 1) := by decide +kernel
theorem dX11_simulateRound_19 : decode cX11_simulateRound 19 = .ok (.getfield 19, 3) := by decide +kernel
theorem dX11_simulateRound_22 : decode cX11_simulateRound 22 = .ok (.bipush 6, 2) := by decide +kernel
theorem dX11_simulateRound_24 : decode cX11_simulateRound 24 = .ok (.iaload, 1) := by decide +kernel
theorem dX11_simulateRound_25 : decode cX11_simulateRound 25 = .ok (.irem, 1) := by decide +kernel
theorem dX11_simulateRound_26 : decode cX11_simulateRound 26 = .ok (.istore_n 2, 1) := by decide +kernel
theorem dX11_simulateRound_27 : decode cX11_simulateRound 27 = .ok (.aload_n 0, 1) := by decide +kernel
theorem dX11_simulateRound_28 : decode cX11_simulateRound 28 = .ok (.getfield 19, 3) := by decide +kernel
theorem dX11_simulateRound_31 : decode cX11_simulateRound 31 = .ok (.iconst 5, 1) := by decide +kernel
theorem dX11_simulateRound_32 : decode cX11_simulateRound 32 = .ok (.iaload, 1) := by decide +kernel
theorem dX11_simulateRound_33 : decode cX11_simulateRound 33 = .ok (.ifCond .ne 7, 3) := by decide +kernel
theorem dX11_simulateRound_36 : decode cX11_simulateRound 36 = .ok (.iconst 0, 1) := by decide +kernel
theorem dX11_simulateRound_37 : decode cX11_simulateRound 37 = .ok (.goto 14, 3) := by decide +kernel
theorem dX11_simulateRound_40 : decode cX11_simulateRound 40 = .ok (.iload_n 1, 1) := by decide +kernel
theorem dX11_simulateRound_41 : decode cX11_simulateRound 41 = .ok (.bipush 64, 2) := by decide +kernel
theorem dX11_simulateRound_43 : decode cX11_simulateRound 43 = .ok (.idiv, 1) := by decide +kernel
theorem dX11_simulateRound_44 : decode cX11_simulateRound 44 = .ok (.aload_n 0, 1) := by decide +kernel
theorem dX11_simulateRound_45 : decode cX11_simulateRound 45 = .ok (.getfield 19, 3) := by decide +kernel
theorem dX11_simulateRound_48 : decode cX11_simulateRound 48 = .ok (.iconst 5, 1) := by decide +kernel
theorem dX11_simulateRound_49 : decode cX11_simulateRound 49 = .ok (.iaload, 1) := by decide +kernel
theorem dX11_simulateRound_50 : decode cX11_simulateRound 50 = .ok (.irem, 1) := by decide +kernel
theorem dX11_simulateRound_51 : decode cX11_simulateRound 51 = .ok (.istore_n 3, 1) := by decide +kernel
theorem dX11_simulateRound_52 : decode cX11_simulateRound 52 = .ok (.iload_n 1, 1) := by decide +kernel
theorem dX11_simulateRound_53 : decode cX11_simulateRound 53 = .ok (.bipush 8, 2) := by decide +kernel
theorem dX11_simulateRound_55 : decode cX11_simulateRound 55 = .ok (.irem, 1) := by decide +kernel
theorem dX11_simulateRound_56 : decode cX11_simulateRound 56 = .ok (.tableswitch 138 0 6 #[44, 44, 44, 96, 96, 123, 130], 44) := by decide +kernel
theorem dX11_simulateRound_100 : decode cX11_simulateRound 100 = .ok (.aload_n 0, 1) := by decide +kernel
theorem dX11_simulateRound_101 : decode cX11_simulateRound 101 = .ok (.getfield 19, 3) := by decide +kernel
theorem dX11_simulateRound_104 : decode cX11_simulateRound 104 = .ok (.bipush 6, 2) := by decide +kernel
theorem dX11_simulateRound_106 : decode cX11_simulateRound 106 = .ok (.iaload, 1) := by decide +kernel
theorem dX11_simulateRound_107 : decode cX11_simulateRound 107 = .ok (.ifCond .le 109, 3) := by decide +kernel
theorem dX11_simulateRound_110 : decode cX11_simulateRound 110 = .ok (.aload_n 0, 1) := by decide +kernel
theorem dX11_simulateRound_111 : decode cX11_simulateRound 111 = .ok (.getfield 19, 3) := by decide +kernel
theorem dX11_simulateRound_114 : decode cX11_simulateRound 114 = .ok (.iconst 5, 1) := by decide +kernel
theorem dX11_simulateRound_115 : decode cX11_simulateRound 115 = .ok (.iaload, 1) := by decide +kernel
theorem dX11_simulateRound_116 : decode cX11_simulateRound 116 = .ok (.ifCond .le 100, 3) := by decide +kernel
theorem dX11_simulateRound_119 : decode cX11_simulateRound 119 = .ok (.aload_n 0, 1) := by decide +kernel
theorem dX11_simulateRound_120 : decode cX11_simulateRound 120 = .ok (.getfield 19, 3) := by decide +kernel
theorem dX11_simulateRound_123 : decode cX11_simulateRound 123 = .ok (.iload_n 2, 1) := by decide +kernel
theorem dX11_simulateRound_124 : decode cX11_simulateRound 124 = .ok (.iload_n 3, 1) := by decide +kernel
theorem dX11_simulateRound_125 : decode cX11_simulateRound 125 = .ok (.invokestatic 152, 3) := by decide +kernel
theorem dX11_simulateRound_128 : decode cX11_simulateRound 128 = .ok (.ifCond .eq 88, 3) := by decide +kernel
theorem dX11_simulateRound_131 : decode cX11_simulateRound 131 = .ok (.aload_n 0, 1) := by decide +kernel
theorem dX11_simulateRound_132 : decode cX11_simulateRound 132 = .ok (.getfield 19, 3) := by decide +kernel
theorem dX11_simulateRound_135 : decode cX11_simulateRound 135 = .ok (.iload_n 2, 1) := by decide +kernel
theorem dX11_simulateRound_136 : decode cX11_simulateRound 136 = .ok (.iload_n 3, 1) := by decide +kernel
theorem dX11_simulateRound_137 : decode cX11_simulateRound 137 = .ok (.iload_n 1, 1) := by decide +kernel
theorem dX11_simulateRound_138 : decode cX11_simulateRound 138 = .ok (.sipush 1024, 3) := by decide +kernel
theorem dX11_simulateRound_141 : decode cX11_simulateRound 141 = .ok (.idiv, 1) := by decide +kernel
theorem dX11_simulateRound_142 : decode cX11_simulateRound 142 = .ok (.bipush 10, 2) := by decide +kernel
theorem dX11_simulateRound_144 : decode cX11_simulateRound 144 = .ok (.irem, 1) := by decide +kernel
theorem dX11_simulateRound_145 : decode cX11_simulateRound 145 = .ok (.invokestatic 156, 3) := by decide +kernel
theorem dX11_simulateRound_148 : decode cX11_simulateRound 148 = .ok (.pop, 1) := by decide +kernel
theorem dX11_simulateRound_149 : decode cX11_simulateRound 149 = .ok (.goto 67, 3) := by decide +kernel
theorem dX11_simulateRound_152 : decode cX11_simulateRound 152 = .ok (.aload_n 0, 1) := by decide +kernel
theorem dX11_simulateRound_153 : decode cX11_simulateRound 153 = .ok (.iconst 0, 1) := by decide +kernel
theorem dX11_simulateRound_154 : decode cX11_simulateRound 154 = .ok (.invokevirtual 195, 3) := by decide +kernel
theorem dX11_simulateRound_157 : decode cX11_simulateRound 157 = .ok (.istore 4, 2) := by decide +kernel
theorem dX11_simulateRound_159 : decode cX11_simulateRound 159 = .ok (.iload 4, 2) := by decide +kernel
theorem dX11_simulateRound_161 : decode cX11_simulateRound 161 = .ok (.bipush (-9), 2) := by decide +kernel
theorem dX11_simulateRound_163 : decode cX11_simulateRound 163 = .ok (.if_icmp .eq 53, 3) := by decide +kernel
theorem dX11_simulateRound_166 : decode cX11_simulateRound 166 = .ok (.aload_n 0, 1) := by decide +kernel
theorem dX11_simulateRound_167 : decode cX11_simulateRound 167 = .ok (.getfield 19, 3) := by decide +kernel
theorem dX11_simulateRound_170 : decode cX11_simulateRound 170 = .ok (.iload 4, 2) := by decide +kernel
theorem dX11_simulateRound_172 : decode cX11_simulateRound 172 = .ok (.invokestatic 159, 3) := by decide +kernel
theorem dX11_simulateRound_175 : decode cX11_simulateRound 175 = .ok (.pop, 1) := by decide +kernel
theorem dX11_simulateRound_176 : decode cX11_simulateRound 176 = .ok (.goto 40, 3) := by decide +kernel
theorem dX11_simulateRound_179 : decode cX11_simulateRound 179 = .ok (.aload_n 0, 1) := by decide +kernel
theorem dX11_simulateRound_180 : decode cX11_simulateRound 180 = .ok (.invokevirtual 198, 3) := by decide +kernel
theorem dX11_simulateRound_183 : decode cX11_simulateRound 183 = .ok (.goto 33, 3) := by decide +kernel
theorem dX11_simulateRound_186 : decode cX11_simulateRound 186 = .ok (.aload_n 0, 1) := by decide +kernel
theorem dX11_simulateRound_187 : decode cX11_simulateRound 187 = .ok (.iload_n 2, 1) := by decide +kernel
theorem dX11_simulateRound_188 : decode cX11_simulateRound 188 = .ok (.invokevirtual 201, 3) := by decide +kernel
theorem dX11_simulateRound_191 : decode cX11_simulateRound 191 = .ok (.goto 25, 3) := by decide +kernel
theorem dX11_simulateRound_194 : decode cX11_simulateRound 194 = .ok (.aload_n 0, 1) := by decide +kernel
theorem dX11_simulateRound_195 : decode cX11_simulateRound 195 = .ok (.getfield 19, 3) := by decide +kernel
theorem dX11_simulateRound_198 : decode cX11_simulateRound 198 = .ok (.iload_n 1, 1) := by decide +kernel
theorem dX11_simulateRound_199 : decode cX11_simulateRound 199 = .ok (.bipush 8, 2) := by decide +kernel
theorem dX11_simulateRound_201 : decode cX11_simulateRound 201 = .ok (.idiv, 1) := by decide +kernel
theorem dX11_simulateRound_202 : decode cX11_simulateRound 202 = .ok (.iconst 4, 1) := by decide +kernel
theorem dX11_simulateRound_203 : decode cX11_simulateRound 203 = .ok (.irem, 1) := by decide +kernel
theorem dX11_simulateRound_204 : decode cX11_simulateRound 204 = .ok (.ifCond .ne 7, 3) := by decide +kernel
theorem dX11_simulateRound_207 : decode cX11_simulateRound 207 = .ok (.iconst 1, 1) := by decide +kernel
theorem dX11_simulateRound_208 : decode cX11_simulateRound 208 = .ok (.goto 4, 3) := by decide +kernel
theorem dX11_simulateRound_211 : decode cX11_simulateRound 211 = .ok (.iconst 0, 1) := by decide +kernel
theorem dX11_simulateRound_212 : decode cX11_simulateRound 212 = .ok (.invokestatic 169, 3) := by decide +kernel
theorem dX11_simulateRound_215 : decode cX11_simulateRound 215 = .ok (.pop, 1) := by decide +kernel
theorem dX11_simulateRound_216 : decode cX11_simulateRound 216 = .ok (.return_, 1) := by decide +kernel
theorem dX11_simulate_0 : decode cX11_simulate 0 = .ok (.aload_n 0, 1) := by decide +kernel
theorem dX11_simulate_1 : decode cX11_simulate 1 = .ok (.iload_n 3, 1) := by decide +kernel
theorem dX11_simulate_2 : decode cX11_simulate 2 = .ok (.i2l, 1) := by decide +kernel
theorem dX11_simulate_3 : decode cX11_simulate 3 = .ok (.lconst 1, 1) := by decide +kernel
theorem dX11_simulate_4 : decode cX11_simulate 4 = .ok (.ldc2_w 205, 3) := by decide +kernel
theorem dX11_simulate_7 : decode cX11_simulate 7 = .ok (.invokestatic 39, 3) := by decide +kernel
theorem dX11_simulate_10 : decode cX11_simulate 10 = .ok (.ifCond .eq 7, 3) := by decide +kernel
theorem dX11_simulate_13 : decode cX11_simulate 13 = .ok (.iconst 0, 1) := by decide +kernel
theorem dX11_simulate_14 : decode cX11_simulate 14 = .ok (.goto 4, 3) := by decide +kernel
theorem dX11_simulate_17 : decode cX11_simulate 17 = .ok (.iconst 1, 1) := by decide +kernel
theorem dX11_simulate_18 : decode cX11_simulate 18 = .ok (.invokevirtual 76, 3) := by decide +kernel
theorem dX11_simulate_21 : decode cX11_simulate 21 = .ok (.ifCond .eq 5, 3) := by decide +kernel
theorem dX11_simulate_24 : decode cX11_simulate 24 = .ok (.iconst 0, 1) := by decide +kernel
theorem dX11_simulate_25 : decode cX11_simulate 25 = .ok (.ireturn, 1) := by decide +kernel
theorem dX11_simulate_26 : decode cX11_simulate 26 = .ok (.aload_n 0, 1) := by decide +kernel
theorem dX11_simulate_27 : decode cX11_simulate 27 = .ok (.getfield 16, 3) := by decide +kernel
theorem dX11_simulate_30 : decode cX11_simulate 30 = .ok (.iconst 0, 1) := by decide +kernel
theorem dX11_simulate_31 : decode cX11_simulate 31 = .ok (.aload_n 0, 1) := by decide +kernel
theorem dX11_simulate_32 : decode cX11_simulate 32 = .ok (.getfield 19, 3) := by decide +kernel
theorem dX11_simulate_35 : decode cX11_simulate 35 = .ok (.iconst 0, 1) := by decide +kernel
theorem dX11_simulate_36 : decode cX11_simulate 36 = .ok (.invokestatic 110, 3) := by decide +kernel
theorem dX11_simulate_39 : decode cX11_simulate 39 = .ok (.lload_n 1, 1) := by decide +kernel
theorem dX11_simulate_40 : decode cX11_simulate 40 = .ok (.lstore 4, 2) := by decide +kernel
theorem dX11_simulate_42 : decode cX11_simulate 42 = .ok (.iconst 0, 1) := by decide +kernel
theorem dX11_simulate_43 : decode cX11_simulate 43 = .ok (.istore 6, 2) := by decide +kernel
theorem dX11_simulate_45 : decode cX11_simulate 45 = .ok (.iload 6, 2) := by decide +kernel
theorem dX11_simulate_47 : decode cX11_simulate 47 = .ok (.iload_n 3, 1) := by decide +kernel
theorem dX11_simulate_48 : decode cX11_simulate 48 = .ok (.if_icmp .ge 31, 3) := by decide +kernel
theorem dX11_simulate_51 : decode cX11_simulate 51 = .ok (.lload 4, 2) := by decide +kernel
theorem dX11_simulate_53 : decode cX11_simulate 53 = .ok (.ldc2_w 207, 3) := by decide +kernel
theorem dX11_simulate_56 : decode cX11_simulate 56 = .ok (.lmul, 1) := by decide +kernel
theorem dX11_simulate_57 : decode cX11_simulate 57 = .ok (.ldc2_w 209, 3) := by decide +kernel
theorem dX11_simulate_60 : decode cX11_simulate 60 = .ok (.ladd, 1) := by decide +kernel
theorem dX11_simulate_61 : decode cX11_simulate 61 = .ok (.lstore 4, 2) := by decide +kernel
theorem dX11_simulate_63 : decode cX11_simulate 63 = .ok (.aload_n 0, 1) := by decide +kernel
theorem dX11_simulate_64 : decode cX11_simulate 64 = .ok (.lload 4, 2) := by decide +kernel
theorem dX11_simulate_66 : decode cX11_simulate 66 = .ok (.bipush 33, 2) := by decide +kernel
theorem dX11_simulate_68 : decode cX11_simulate 68 = .ok (.lushr, 1) := by decide +kernel
theorem dX11_simulate_69 : decode cX11_simulate 69 = .ok (.l2i, 1) := by decide +kernel
theorem dX11_simulate_70 : decode cX11_simulate 70 = .ok (.invokevirtual 211, 3) := by decide +kernel
theorem dX11_simulate_73 : decode cX11_simulate 73 = .ok (.iinc 6 1, 3) := by decide +kernel
theorem dX11_simulate_76 : decode cX11_simulate 76 = .ok (.goto (-31), 3) := by decide +kernel
theorem dX11_simulate_79 : decode cX11_simulate 79 = .ok (.aload_n 0, 1) := by decide +kernel
theorem dX11_simulate_80 : decode cX11_simulate 80 = .ok (.getfield 19, 3) := by decide +kernel
theorem dX11_simulate_83 : decode cX11_simulate 83 = .ok (.invokestatic 122, 3) := by decide +kernel
theorem dX11_simulate_86 : decode cX11_simulate 86 = .ok (.istore 6, 2) := by decide +kernel
theorem dX11_simulate_88 : decode cX11_simulate 88 = .ok (.sipush 10000, 3) := by decide +kernel
theorem dX11_simulate_91 : decode cX11_simulate 91 = .ok (.aload_n 0, 1) := by decide +kernel
theorem dX11_simulate_92 : decode cX11_simulate 92 = .ok (.getfield 19, 3) := by decide +kernel
theorem dX11_simulate_95 : decode cX11_simulate 95 = .ok (.iconst 3, 1) := by decide +kernel
theorem dX11_simulate_96 : decode cX11_simulate 96 = .ok (.invokestatic 119, 3) := by decide +kernel
theorem dX11_simulate_99 : decode cX11_simulate 99 = .ok (.imul, 1) := by decide +kernel
theorem dX11_simulate_100 : decode cX11_simulate 100 = .ok (.iload 6, 2) := by decide +kernel
theorem dX11_simulate_102 : decode cX11_simulate 102 = .ok (.sipush 9999, 3) := by decide +kernel
theorem dX11_simulate_105 : decode cX11_simulate 105 = .ok (.if_icmp .le 9, 3) := by decide +kernel
theorem dX11_simulate_108 : decode cX11_simulate 108 = .ok (.sipush 9999, 3) := by decide +kernel
theorem dX11_simulate_111 : decode cX11_simulate 111 = .ok (.goto 5, 3) := by decide +kernel
theorem dX11_simulate_114 : decode cX11_simulate 114 = .ok (.iload 6, 2) := by decide +kernel
theorem dX11_simulate_116 : decode cX11_simulate 116 = .ok (.iadd, 1) := by decide +kernel
theorem dX11_simulate_117 : decode cX11_simulate 117 = .ok (.ireturn, 1) := by decide +kernel
theorem dX11_save_0 : decode cX11_save 0 = .ok (.aload_n 0, 1) := by decide +kernel
theorem dX11_save_1 : decode cX11_save 1 = .ok (.iload_n 1, 1) := by decide +kernel
theorem dX11_save_2 : decode cX11_save 2 = .ok (.i2l, 1) := by decide +kernel
theorem dX11_save_3 : decode cX11_save 3 = .ok (.lconst 0, 1) := by decide +kernel
theorem dX11_save_4 : decode cX11_save 4 = .ok (.lconst 1, 1) := by decide +kernel
theorem dX11_save_5 : decode cX11_save 5 = .ok (.invokestatic 39, 3) := by decide +kernel
theorem dX11_save_8 : decode cX11_save 8 = .ok (.ifCond .eq 7, 3) := by decide +kernel
theorem dX11_save_11 : decode cX11_save 11 = .ok (.iconst 0, 1) := by decide +kernel
theorem dX11_save_12 : decode cX11_save 12 = .ok (.goto 4, 3) := by decide +kernel
theorem dX11_save_15 : decode cX11_save 15 = .ok (.iconst 1, 1) := by decide +kernel
theorem dX11_save_16 : decode cX11_save 16 = .ok (.invokevirtual 76, 3) := by decide +kernel
theorem dX11_save_19 : decode cX11_save 19 = .ok (.ifCond .eq 5, 3) := by decide +kernel
theorem dX11_save_22 : decode cX11_save 22 = .ok (.iconst 0, 1) := by decide +kernel
theorem dX11_save_23 : decode cX11_save 23 = .ok (.ireturn, 1) := by decide +kernel
theorem dX11_save_24 : decode cX11_save 24 = .ok (.aload_n 0, 1) := by decide +kernel
theorem dX11_save_25 : decode cX11_save 25 = .ok (.getfield 28, 3) := by decide +kernel
theorem dX11_save_28 : decode cX11_save 28 = .ok (.iload_n 1, 1) := by decide +kernel
theorem dX11_save_29 : decode cX11_save 29 = .ok (.iconst 1, 1) := by decide +kernel
theorem dX11_save_30 : decode cX11_save 30 = .ok (.bastore, 1) := by decide +kernel
theorem dX11_save_31 : decode cX11_save 31 = .ok (.aload_n 0, 1) := by decide +kernel
theorem dX11_save_32 : decode cX11_save 32 = .ok (.getfield 16, 3) := by decide +kernel
theorem dX11_save_35 : decode cX11_save 35 = .ok (.iconst 0, 1) := by decide +kernel
theorem dX11_save_36 : decode cX11_save 36 = .ok (.aload_n 0, 1) := by decide +kernel
theorem dX11_save_37 : decode cX11_save 37 = .ok (.getfield 25, 3) := by decide +kernel
theorem dX11_save_40 : decode cX11_save 40 = .ok (.sipush 194, 3) := by decide +kernel
theorem dX11_save_43 : decode cX11_save 43 = .ok (.iload_n 1, 1) := by decide +kernel
theorem dX11_save_44 : decode cX11_save 44 = .ok (.imul, 1) := by decide +kernel
theorem dX11_save_45 : decode cX11_save 45 = .ok (.invokestatic 110, 3) := by decide +kernel
theorem dX11_save_48 : decode cX11_save 48 = .ok (.aload_n 0, 1) := by decide +kernel
theorem dX11_save_49 : decode cX11_save 49 = .ok (.getfield 16, 3) := by decide +kernel
theorem dX11_save_52 : decode cX11_save 52 = .ok (.iconst 1, 1) := by decide +kernel
theorem dX11_save_53 : decode cX11_save 53 = .ok (.iaload, 1) := by decide +kernel
theorem dX11_save_54 : decode cX11_save 54 = .ok (.ireturn, 1) := by decide +kernel
theorem dX11_restore_0 : decode cX11_restore 0 = .ok (.aload_n 0, 1) := by decide +kernel
theorem dX11_restore_1 : decode cX11_restore 1 = .ok (.iload_n 1, 1) := by decide +kernel
theorem dX11_restore_2 : decode cX11_restore 2 = .ok (.i2l, 1) := by decide +kernel
theorem dX11_restore_3 : decode cX11_restore 3 = .ok (.lconst 0, 1) := by decide +kernel
theorem dX11_restore_4 : decode cX11_restore 4 = .ok (.lconst 1, 1) := by decide +kernel
theorem dX11_restore_5 : decode cX11_restore 5 = .ok (.invokestatic 39, 3) := by decide +kernel
theorem dX11_restore_8 : decode cX11_restore 8 = .ok (.ifCond .ne 7, 3) := by decide +kernel
theorem dX11_restore_11 : decode cX11_restore 11 = .ok (.iconst 1, 1) := by decide +kernel
theorem dX11_restore_12 : decode cX11_restore 12 = .ok (.goto 17, 3) := by decide +kernel
theorem dX11_restore_15 : decode cX11_restore 15 = .ok (.aload_n 0, 1) := by decide +kernel
theorem dX11_restore_16 : decode cX11_restore 16 = .ok (.getfield 28, 3) := by decide +kernel
theorem dX11_restore_19 : decode cX11_restore 19 = .ok (.iload_n 1, 1) := by decide +kernel
theorem dX11_restore_20 : decode cX11_restore 20 = .ok (.baload, 1) := by decide +kernel
theorem dX11_restore_21 : decode cX11_restore 21 = .ok (.ifCond .ne 7, 3) := by decide +kernel
theorem dX11_restore_24 : decode cX11_restore 24 = .ok (.iconst 2, 1) := by decide +kernel
theorem dX11_restore_25 : decode cX11_restore 25 = .ok (.goto 4, 3) := by decide +kernel
theorem dX11_restore_28 : decode cX11_restore 28 = .ok (.iconst 0, 1) := by decide +kernel
theorem dX11_restore_29 : decode cX11_restore 29 = .ok (.invokevirtual 76, 3) := by decide +kernel
theorem dX11_restore_32 : decode cX11_restore 32 = .ok (.ifCond .eq 5, 3) := by decide +kernel
theorem dX11_restore_35 : decode cX11_restore 35 = .ok (.iconst 0, 1) := by decide +kernel
theorem dX11_restore_36 : decode cX11_restore 36 = .ok (.ireturn, 1) := by decide +kernel
theorem dX11_restore_37 : decode cX11_restore 37 = .ok (.aload_n 0, 1) := by decide +kernel
theorem dX11_restore_38 : decode cX11_restore 38 = .ok (.getfield 25, 3) := by decide +kernel
theorem dX11_restore_41 : decode cX11_restore 41 = .ok (.sipush 194, 3) := by decide +kernel
theorem dX11_restore_44 : decode cX11_restore 44 = .ok (.iload_n 1, 1) := by decide +kernel
theorem dX11_restore_45 : decode cX11_restore 45 = .ok (.imul, 1) := by decide +kernel
theorem dX11_restore_46 : decode cX11_restore 46 = .ok (.aload_n 0, 1) := by decide +kernel
theorem dX11_restore_47 : decode cX11_restore 47 = .ok (.getfield 16, 3) := by decide +kernel
theorem dX11_restore_50 : decode cX11_restore 50 = .ok (.iconst 0, 1) := by decide +kernel
theorem dX11_restore_51 : decode cX11_restore 51 = .ok (.invokestatic 110, 3) := by decide +kernel
theorem dX11_restore_54 : decode cX11_restore 54 = .ok (.aload_n 0, 1) := by decide +kernel
theorem dX11_restore_55 : decode cX11_restore 55 = .ok (.iconst 0, 1) := by decide +kernel
theorem dX11_restore_56 : decode cX11_restore 56 = .ok (.putfield 114, 3) := by decide +kernel
theorem dX11_restore_59 : decode cX11_restore 59 = .ok (.aload_n 0, 1) := by decide +kernel
theorem dX11_restore_60 : decode cX11_restore 60 = .ok (.getfield 16, 3) := by decide +kernel
theorem dX11_restore_63 : decode cX11_restore 63 = .ok (.iconst 1, 1) := by decide +kernel
theorem dX11_restore_64 : decode cX11_restore 64 = .ok (.iaload, 1) := by decide +kernel
theorem dX11_restore_65 : decode cX11_restore 65 = .ok (.ireturn, 1) := by decide +kernel
end
section
theorem dL_append_0 : decode cL_append 0 = .ok (.aload_n 2, 1) := by decide +kernel
theorem dL_append_1 : decode cL_append 1 = .ok (.iconst 0, 1) := by decide +kernel
theorem dL_append_2 : decode cL_append 2 = .ok (.aload_n 0, 1) := by decide +kernel
theorem dL_append_3 : decode cL_append 3 = .ok (.iload_n 1, 1) := by decide +kernel
theorem dL_append_4 : decode cL_append 4 = .ok (.invokevirtual 7, 3) := by decide +kernel
theorem dL_append_7 : decode cL_append 7 = .ok (.i2l, 1) := by decide +kernel
theorem dL_append_8 : decode cL_append 8 = .ok (.lastore, 1) := by decide +kernel
theorem dL_append_9 : decode cL_append 9 = .ok (.goto 9, 3) := by decide +kernel
theorem dL_append_12 : decode cL_append 12 = .ok (.astore_n 3, 1) := by decide +kernel
theorem dL_append_13 : decode cL_append 13 = .ok (.iconst 1, 1) := by decide +kernel
theorem dL_append_14 : decode cL_append 14 = .ok (.ireturn, 1) := by decide +kernel
theorem dL_append_15 : decode cL_append 15 = .ok (.astore_n 3, 1) := by decide +kernel
theorem dL_append_16 : decode cL_append 16 = .ok (.iconst 2, 1) := by decide +kernel
theorem dL_append_17 : decode cL_append 17 = .ok (.ireturn, 1) := by decide +kernel
theorem dL_append_18 : decode cL_append 18 = .ok (.iconst 0, 1) := by decide +kernel
theorem dL_append_19 : decode cL_append 19 = .ok (.ireturn, 1) := by decide +kernel
theorem dL_load_0 : decode cL_load 0 = .ok (.aload_n 1, 1) := by decide +kernel
theorem dL_load_1 : decode cL_load 1 = .ok (.iconst 0, 1) := by decide +kernel
theorem dL_load_2 : decode cL_load 2 = .ok (.aload_n 0, 1) := by decide +kernel
theorem dL_load_3 : decode cL_load 3 = .ok (.invokevirtual 17, 3) := by decide +kernel
theorem dL_load_6 : decode cL_load 6 = .ok (.i2l, 1) := by decide +kernel
theorem dL_load_7 : decode cL_load 7 = .ok (.lastore, 1) := by decide +kernel
theorem dL_load_8 : decode cL_load 8 = .ok (.goto 6, 3) := by decide +kernel
theorem dL_load_11 : decode cL_load 11 = .ok (.astore_n 2, 1) := by decide +kernel
theorem dL_load_12 : decode cL_load 12 = .ok (.iconst 1, 1) := by decide +kernel
theorem dL_load_13 : decode cL_load 13 = .ok (.ireturn, 1) := by decide +kernel
theorem dL_load_14 : decode cL_load 14 = .ok (.iconst 0, 1) := by decide +kernel
theorem dL_load_15 : decode cL_load 15 = .ok (.ireturn, 1) := by decide +kernel
theorem dL_about_0 : decode cL_about 0 = .ok (.aload_n 2, 1) := by decide +kernel
theorem dL_about_1 : decode cL_about 1 = .ok (.iconst 0, 1) := by decide +kernel
theorem dL_about_2 : decode cL_about 2 = .ok (.aload_n 0, 1) := by decide +kernel
theorem dL_about_3 : decode cL_about 3 = .ok (.iload_n 1, 1) := by decide +kernel
theorem dL_about_4 : decode cL_about 4 = .ok (.invokevirtual 21, 3) := by decide +kernel
theorem dL_about_7 : decode cL_about 7 = .ok (.i2l, 1) := by decide +kernel
theorem dL_about_8 : decode cL_about 8 = .ok (.lastore, 1) := by decide +kernel
theorem dL_about_9 : decode cL_about 9 = .ok (.goto 6, 3) := by decide +kernel
theorem dL_about_12 : decode cL_about 12 = .ok (.astore_n 3, 1) := by decide +kernel
theorem dL_about_13 : decode cL_about 13 = .ok (.iconst 1, 1) := by decide +kernel
theorem dL_about_14 : decode cL_about 14 = .ok (.ireturn, 1) := by decide +kernel
theorem dL_about_15 : decode cL_about 15 = .ok (.iconst 0, 1) := by decide +kernel
theorem dL_about_16 : decode cL_about 16 = .ok (.ireturn, 1) := by decide +kernel
theorem dL_course_0 : decode cL_course 0 = .ok (.aload_n 3, 1) := by decide +kernel
theorem dL_course_1 : decode cL_course 1 = .ok (.iconst 0, 1) := by decide +kernel
theorem dL_course_2 : decode cL_course 2 = .ok (.aload_n 0, 1) := by decide +kernel
theorem dL_course_3 : decode cL_course 3 = .ok (.iload_n 1, 1) := by decide +kernel
theorem dL_course_4 : decode cL_course 4 = .ok (.iload_n 2, 1) := by decide +kernel
theorem dL_course_5 : decode cL_course 5 = .ok (.invokevirtual 24, 3) := by decide +kernel
theorem dL_course_8 : decode cL_course 8 = .ok (.i2l, 1) := by decide +kernel
theorem dL_course_9 : decode cL_course 9 = .ok (.lastore, 1) := by decide +kernel
theorem dL_course_10 : decode cL_course 10 = .ok (.goto 11, 3) := by decide +kernel
theorem dL_course_13 : decode cL_course 13 = .ok (.astore 4, 2) := by decide +kernel
theorem dL_course_15 : decode cL_course 15 = .ok (.iconst 1, 1) := by decide +kernel
theorem dL_course_16 : decode cL_course 16 = .ok (.ireturn, 1) := by decide +kernel
theorem dL_course_17 : decode cL_course 17 = .ok (.astore 4, 2) := by decide +kernel
theorem dL_course_19 : decode cL_course 19 = .ok (.iconst 2, 1) := by decide +kernel
theorem dL_course_20 : decode cL_course 20 = .ok (.ireturn, 1) := by decide +kernel
theorem dL_course_21 : decode cL_course 21 = .ok (.iconst 0, 1) := by decide +kernel
theorem dL_course_22 : decode cL_course 22 = .ok (.ireturn, 1) := by decide +kernel
theorem dL_mason_0 : decode cL_mason 0 = .ok (.aload_n 3, 1) := by decide +kernel
theorem dL_mason_1 : decode cL_mason 1 = .ok (.iconst 0, 1) := by decide +kernel
theorem dL_mason_2 : decode cL_mason 2 = .ok (.aload_n 0, 1) := by decide +kernel
theorem dL_mason_3 : decode cL_mason 3 = .ok (.iload_n 1, 1) := by decide +kernel
theorem dL_mason_4 : decode cL_mason 4 = .ok (.iload_n 2, 1) := by decide +kernel
theorem dL_mason_5 : decode cL_mason 5 = .ok (.invokevirtual 30, 3) := by decide +kernel
theorem dL_mason_8 : decode cL_mason 8 = .ok (.i2l, 1) := by decide +kernel
theorem dL_mason_9 : decode cL_mason 9 = .ok (.lastore, 1) := by decide +kernel
theorem dL_mason_10 : decode cL_mason 10 = .ok (.goto 11, 3) := by decide +kernel
theorem dL_mason_13 : decode cL_mason 13 = .ok (.astore 4, 2) := by decide +kernel
theorem dL_mason_15 : decode cL_mason 15 = .ok (.iconst 1, 1) := by decide +kernel
theorem dL_mason_16 : decode cL_mason 16 = .ok (.ireturn, 1) := by decide +kernel
theorem dL_mason_17 : decode cL_mason 17 = .ok (.astore 4, 2) := by decide +kernel
theorem dL_mason_19 : decode cL_mason 19 = .ok (.iconst 2, 1) := by decide +kernel
theorem dL_mason_20 : decode cL_mason 20 = .ok (.ireturn, 1) := by decide +kernel
theorem dL_mason_21 : decode cL_mason 21 = .ok (.iconst 0, 1) := by decide +kernel
theorem dL_mason_22 : decode cL_mason 22 = .ok (.ireturn, 1) := by decide +kernel
theorem dL_stone_0 : decode cL_stone 0 = .ok (.aload_n 3, 1) := by decide +kernel
theorem dL_stone_1 : decode cL_stone 1 = .ok (.iconst 0, 1) := by decide +kernel
theorem dL_stone_2 : decode cL_stone 2 = .ok (.aload_n 0, 1) := by decide +kernel
theorem dL_stone_3 : decode cL_stone 3 = .ok (.iload_n 1, 1) := by decide +kernel
theorem dL_stone_4 : decode cL_stone 4 = .ok (.iload_n 2, 1) := by decide +kernel
theorem dL_stone_5 : decode cL_stone 5 = .ok (.invokevirtual 33, 3) := by decide +kernel
theorem dL_stone_8 : decode cL_stone 8 = .ok (.i2l, 1) := by decide +kernel
theorem dL_stone_9 : decode cL_stone 9 = .ok (.lastore, 1) := by decide +kernel
theorem dL_stone_10 : decode cL_stone 10 = .ok (.goto 11, 3) := by decide +kernel
theorem dL_stone_13 : decode cL_stone 13 = .ok (.astore 4, 2) := by decide +kernel
theorem dL_stone_15 : decode cL_stone 15 = .ok (.iconst 1, 1) := by decide +kernel
theorem dL_stone_16 : decode cL_stone 16 = .ok (.ireturn, 1) := by decide +kernel
theorem dL_stone_17 : decode cL_stone 17 = .ok (.astore 4, 2) := by decide +kernel
theorem dL_stone_19 : decode cL_stone 19 = .ok (.iconst 2, 1) := by decide +kernel
theorem dL_stone_20 : decode cL_stone 20 = .ok (.ireturn, 1) := by decide +kernel
theorem dL_stone_21 : decode cL_stone 21 = .ok (.iconst 0, 1) := by decide +kernel
theorem dL_stone_22 : decode cL_stone 22 = .ok (.ireturn, 1) := by decide +kernel
theorem dL_whyNotSet_0 : decode cL_whyNotSet 0 = .ok (.aload_n 2, 1) := by decide +kernel
theorem dL_whyNotSet_1 : decode cL_whyNotSet 1 = .ok (.iconst 0, 1) := by decide +kernel
theorem dL_whyNotSet_2 : decode cL_whyNotSet 2 = .ok (.aload_n 0, 1) := by decide +kernel
theorem dL_whyNotSet_3 : decode cL_whyNotSet 3 = .ok (.iload_n 1, 1) := by decide +kernel
theorem dL_whyNotSet_4 : decode cL_whyNotSet 4 = .ok (.invokevirtual 36, 3) := by decide +kernel
theorem dL_whyNotSet_7 : decode cL_whyNotSet 7 = .ok (.i2l, 1) := by decide +kernel
theorem dL_whyNotSet_8 : decode cL_whyNotSet 8 = .ok (.lastore, 1) := by decide +kernel
theorem dL_whyNotSet_9 : decode cL_whyNotSet 9 = .ok (.goto 6, 3) := by decide +kernel
theorem dL_whyNotSet_12 : decode cL_whyNotSet 12 = .ok (.astore_n 3, 1) := by decide +kernel
theorem dL_whyNotSet_13 : decode cL_whyNotSet 13 = .ok (.iconst 1, 1) := by decide +kernel
theorem dL_whyNotSet_14 : decode cL_whyNotSet 14 = .ok (.ireturn, 1) := by decide +kernel
theorem dL_whyNotSet_15 : decode cL_whyNotSet 15 = .ok (.iconst 0, 1) := by decide +kernel
theorem dL_whyNotSet_16 : decode cL_whyNotSet 16 = .ok (.ireturn, 1) := by decide +kernel
theorem dL_addCourse_0 : decode cL_addCourse 0 = .ok (.aload 4, 2) := by decide +kernel
theorem dL_addCourse_2 : decode cL_addCourse 2 = .ok (.iconst 0, 1) := by decide +kernel
theorem dL_addCourse_3 : decode cL_addCourse 3 = .ok (.aload_n 0, 1) := by decide +kernel
theorem dL_addCourse_4 : decode cL_addCourse 4 = .ok (.iload_n 1, 1) := by decide +kernel
theorem dL_addCourse_5 : decode cL_addCourse 5 = .ok (.iload_n 2, 1) := by decide +kernel
theorem dL_addCourse_6 : decode cL_addCourse 6 = .ok (.iload_n 3, 1) := by decide +kernel
theorem dL_addCourse_7 : decode cL_addCourse 7 = .ok (.invokevirtual 39, 3) := by decide +kernel
theorem dL_addCourse_10 : decode cL_addCourse 10 = .ok (.i2l, 1) := by decide +kernel
theorem dL_addCourse_11 : decode cL_addCourse 11 = .ok (.lastore, 1) := by decide +kernel
theorem dL_addCourse_12 : decode cL_addCourse 12 = .ok (.goto 11, 3) := by decide +kernel
theorem dL_addCourse_15 : decode cL_addCourse 15 = .ok (.astore 5, 2) := by decide +kernel
theorem dL_addCourse_17 : decode cL_addCourse 17 = .ok (.iconst 1, 1) := by decide +kernel
theorem dL_addCourse_18 : decode cL_addCourse 18 = .ok (.ireturn, 1) := by decide +kernel
theorem dL_addCourse_19 : decode cL_addCourse 19 = .ok (.astore 5, 2) := by decide +kernel
theorem dL_addCourse_21 : decode cL_addCourse 21 = .ok (.iconst 2, 1) := by decide +kernel
theorem dL_addCourse_22 : decode cL_addCourse 22 = .ok (.ireturn, 1) := by decide +kernel
theorem dL_addCourse_23 : decode cL_addCourse 23 = .ok (.iconst 0, 1) := by decide +kernel
theorem dL_addCourse_24 : decode cL_addCourse 24 = .ok (.ireturn, 1) := by decide +kernel
theorem dL_addMason_0 : decode cL_addMason 0 = .ok (.aload_n 3, 1) := by decide +kernel
theorem dL_addMason_1 : decode cL_addMason 1 = .ok (.iconst 0, 1) := by decide +kernel
theorem dL_addMason_2 : decode cL_addMason 2 = .ok (.aload_n 0, 1) := by decide +kernel
theorem dL_addMason_3 : decode cL_addMason 3 = .ok (.iload_n 1, 1) := by decide +kernel
theorem dL_addMason_4 : decode cL_addMason 4 = .ok (.iload_n 2, 1) := by decide +kernel
theorem dL_addMason_5 : decode cL_addMason 5 = .ok (.invokevirtual 43, 3) := by decide +kernel
theorem dL_addMason_8 : decode cL_addMason 8 = .ok (.i2l, 1) := by decide +kernel
theorem dL_addMason_9 : decode cL_addMason 9 = .ok (.lastore, 1) := by decide +kernel
theorem dL_addMason_10 : decode cL_addMason 10 = .ok (.goto 11, 3) := by decide +kernel
theorem dL_addMason_13 : decode cL_addMason 13 = .ok (.astore 4, 2) := by decide +kernel
theorem dL_addMason_15 : decode cL_addMason 15 = .ok (.iconst 1, 1) := by decide +kernel
theorem dL_addMason_16 : decode cL_addMason 16 = .ok (.ireturn, 1) := by decide +kernel
theorem dL_addMason_17 : decode cL_addMason 17 = .ok (.astore 4, 2) := by decide +kernel
theorem dL_addMason_19 : decode cL_addMason 19 = .ok (.iconst 2, 1) := by decide +kernel
theorem dL_addMason_20 : decode cL_addMason 20 = .ok (.ireturn, 1) := by decide +kernel
theorem dL_addMason_21 : decode cL_addMason 21 = .ok (.iconst 0, 1) := by decide +kernel
theorem dL_addMason_22 : decode cL_addMason 22 = .ok (.ireturn, 1) := by decide +kernel
theorem dL_setRate_0 : decode cL_setRate 0 = .ok (.aload_n 3, 1) := by decide +kernel
theorem dL_setRate_1 : decode cL_setRate 1 = .ok (.iconst 0, 1) := by decide +kernel
theorem dL_setRate_2 : decode cL_setRate 2 = .ok (.aload_n 0, 1) := by decide +kernel
theorem dL_setRate_3 : decode cL_setRate 3 = .ok (.iload_n 1, 1) := by decide +kernel
theorem dL_setRate_4 : decode cL_setRate 4 = .ok (.iload_n 2, 1) := by decide +kernel
theorem dL_setRate_5 : decode cL_setRate 5 = .ok (.invokevirtual 46, 3) := by decide +kernel
theorem dL_setRate_8 : decode cL_setRate 8 = .ok (.i2l, 1) := by decide +kernel
theorem dL_setRate_9 : decode cL_setRate 9 = .ok (.lastore, 1) := by decide +kernel
theorem dL_setRate_10 : decode cL_setRate 10 = .ok (.goto 11, 3) := by decide +kernel
theorem dL_setRate_13 : decode cL_setRate 13 = .ok (.astore 4, 2) := by decide +kernel
theorem dL_setRate_15 : decode cL_setRate 15 = .ok (.iconst 1, 1) := by decide +kernel
theorem dL_setRate_16 : decode cL_setRate 16 = .ok (.ireturn, 1) := by decide +kernel
theorem dL_setRate_17 : decode cL_setRate 17 = .ok (.astore 4, 2) := by decide +kernel
theorem dL_setRate_19 : decode cL_setRate 19 = .ok (.iconst 2, 1) := by decide +kernel
theorem dL_setRate_20 : decode cL_setRate 20 = .ok (.ireturn, 1) := by decide +kernel
theorem dL_setRate_21 : decode cL_setRate 21 = .ok (.iconst 0, 1) := by decide +kernel
theorem dL_setRate_22 : decode cL_setRate 22 = .ok (.ireturn, 1) := by decide +kernel
theorem dL_setBound_0 : decode cL_setBound 0 = .ok (.aload_n 2, 1) := by decide +kernel
theorem dL_setBound_1 : decode cL_setBound 1 = .ok (.iconst 0, 1) := by decide +kernel
theorem dL_setBound_2 : decode cL_setBound 2 = .ok (.aload_n 0, 1) := by decide +kernel
theorem dL_setBound_3 : decode cL_setBound 3 = .ok (.iload_n 1, 1) := by decide +kernel
theorem dL_setBound_4 : decode cL_setBound 4 = .ok (.invokevirtual 49, 3) := by decide +kernel
theorem dL_setBound_7 : decode cL_setBound 7 = .ok (.i2l, 1) := by decide +kernel
theorem dL_setBound_8 : decode cL_setBound 8 = .ok (.lastore, 1) := by decide +kernel
theorem dL_setBound_9 : decode cL_setBound 9 = .ok (.goto 6, 3) := by decide +kernel
theorem dL_setBound_12 : decode cL_setBound 12 = .ok (.astore_n 3, 1) := by decide +kernel
theorem dL_setBound_13 : decode cL_setBound 13 = .ok (.iconst 1, 1) := by decide +kernel
theorem dL_setBound_14 : decode cL_setBound 14 = .ok (.ireturn, 1) := by decide +kernel
theorem dL_setBound_15 : decode cL_setBound 15 = .ok (.iconst 0, 1) := by decide +kernel
theorem dL_setBound_16 : decode cL_setBound 16 = .ok (.ireturn, 1) := by decide +kernel
theorem dL_cut_0 : decode cL_cut 0 = .ok (.aload 4, 2) := by decide +kernel
theorem dL_cut_2 : decode cL_cut 2 = .ok (.iconst 0, 1) := by decide +kernel
theorem dL_cut_3 : decode cL_cut 3 = .ok (.aload_n 0, 1) := by decide +kernel
theorem dL_cut_4 : decode cL_cut 4 = .ok (.iload_n 1, 1) := by decide +kernel
theorem dL_cut_5 : decode cL_cut 5 = .ok (.iload_n 2, 1) := by decide +kernel
theorem dL_cut_6 : decode cL_cut 6 = .ok (.iload_n 3, 1) := by decide +kernel
theorem dL_cut_7 : decode cL_cut 7 = .ok (.invokevirtual 52, 3) := by decide +kernel
theorem dL_cut_10 : decode cL_cut 10 = .ok (.i2l, 1) := by decide +kernel
theorem dL_cut_11 : decode cL_cut 11 = .ok (.lastore, 1) := by decide +kernel
theorem dL_cut_12 : decode cL_cut 12 = .ok (.goto 15, 3) := by decide +kernel
theorem dL_cut_15 : decode cL_cut 15 = .ok (.astore 5, 2) := by decide +kernel
theorem dL_cut_17 : decode cL_cut 17 = .ok (.iconst 1, 1) := by decide +kernel
theorem dL_cut_18 : decode cL_cut 18 = .ok (.ireturn, 1) := by decide +kernel
theorem dL_cut_19 : decode cL_cut 19 = .ok (.astore 5, 2) := by decide +kernel
theorem dL_cut_21 : decode cL_cut 21 = .ok (.iconst 2, 1) := by decide +kernel
theorem dL_cut_22 : decode cL_cut 22 = .ok (.ireturn, 1) := by decide +kernel
theorem dL_cut_23 : decode cL_cut 23 = .ok (.astore 5, 2) := by decide +kernel
theorem dL_cut_25 : decode cL_cut 25 = .ok (.iconst 3, 1) := by decide +kernel
theorem dL_cut_26 : decode cL_cut 26 = .ok (.ireturn, 1) := by decide +kernel
theorem dL_cut_27 : decode cL_cut 27 = .ok (.iconst 0, 1) := by decide +kernel
theorem dL_cut_28 : decode cL_cut 28 = .ok (.ireturn, 1) := by decide +kernel
theorem dL_inspect_0 : decode cL_inspect 0 = .ok (.aload_n 2, 1) := by decide +kernel
theorem dL_inspect_1 : decode cL_inspect 1 = .ok (.iconst 0, 1) := by decide +kernel
theorem dL_inspect_2 : decode cL_inspect 2 = .ok (.aload_n 0, 1) := by decide +kernel
theorem dL_inspect_3 : decode cL_inspect 3 = .ok (.iload_n 1, 1) := by decide +kernel
theorem dL_inspect_4 : decode cL_inspect 4 = .ok (.invokevirtual 55, 3) := by decide +kernel
theorem dL_inspect_7 : decode cL_inspect 7 = .ok (.i2l, 1) := by decide +kernel
theorem dL_inspect_8 : decode cL_inspect 8 = .ok (.lastore, 1) := by decide +kernel
theorem dL_inspect_9 : decode cL_inspect 9 = .ok (.goto 9, 3) := by decide +kernel
theorem dL_inspect_12 : decode cL_inspect 12 = .ok (.astore_n 3, 1) := by decide +kernel
theorem dL_inspect_13 : decode cL_inspect 13 = .ok (.iconst 1, 1) := by decide +kernel
theorem dL_inspect_14 : decode cL_inspect 14 = .ok (.ireturn, 1) := by decide +kernel
theorem dL_inspect_15 : decode cL_inspect 15 = .ok (.astore_n 3, 1) := by decide +kernel
theorem dL_inspect_16 : decode cL_inspect 16 = .ok (.iconst 2, 1) := by decide +kernel
theorem dL_inspect_17 : decode cL_inspect 17 = .ok (.ireturn, 1) := by decide +kernel
theorem dL_inspect_18 : decode cL_inspect 18 = .ok (.iconst 0, 1) := by decide +kernel
theorem dL_inspect_19 : decode cL_inspect 19 = .ok (.ireturn, 1) := by decide +kernel
theorem dL_recut_0 : decode cL_recut 0 = .ok (.aload 4, 2) := by decide +kernel
theorem dL_recut_2 : decode cL_recut 2 = .ok (.iconst 0, 1) := by decide +kernel
theorem dL_recut_3 : decode cL_recut 3 = .ok (.aload_n 0, 1) := by decide +kernel
theorem dL_recut_4 : decode cL_recut 4 = .ok (.iload_n 1, 1) := by decide +kernel
theorem dL_recut_5 : decode cL_recut 5 = .ok (.iload_n 2, 1) := by decide +kernel
theorem dL_recut_6 : decode cL_recut 6 = .ok (.iload_n 3, 1) := by decide +kernel
theorem dL_recut_7 : decode cL_recut 7 = .ok (.invokevirtual 58, 3) := by decide +kernel
theorem dL_recut_10 : decode cL_recut 10 = .ok (.i2l, 1) := by decide +kernel
theorem dL_recut_11 : decode cL_recut 11 = .ok (.lastore, 1) := by decide +kernel
theorem dL_recut_12 : decode cL_recut 12 = .ok (.goto 11, 3) := by decide +kernel
theorem dL_recut_15 : decode cL_recut 15 = .ok (.astore 5, 2) := by decide +kernel
theorem dL_recut_17 : decode cL_recut 17 = .ok (.iconst 1, 1) := by decide +kernel
theorem dL_recut_18 : decode cL_recut 18 = .ok (.ireturn, 1) := by decide +kernel
theorem dL_recut_19 : decode cL_recut 19 = .ok (.astore 5, 2) := by decide +kernel
theorem dL_recut_21 : decode cL_recut 21 = .ok (.iconst 2, 1) := by decide +kernel
theorem dL_recut_22 : decode cL_recut 22 = .ok (.ireturn, 1) := by decide +kernel
theorem dL_recut_23 : decode cL_recut 23 = .ok (.iconst 0, 1) := by decide +kernel
theorem dL_recut_24 : decode cL_recut 24 = .ok (.ireturn, 1) := by decide +kernel
theorem dL_scrap_0 : decode cL_scrap 0 = .ok (.aload_n 2, 1) := by decide +kernel
theorem dL_scrap_1 : decode cL_scrap 1 = .ok (.iconst 0, 1) := by decide +kernel
theorem dL_scrap_2 : decode cL_scrap 2 = .ok (.aload_n 0, 1) := by decide +kernel
theorem dL_scrap_3 : decode cL_scrap 3 = .ok (.iload_n 1, 1) := by decide +kernel
theorem dL_scrap_4 : decode cL_scrap 4 = .ok (.invokevirtual 61, 3) := by decide +kernel
theorem dL_scrap_7 : decode cL_scrap 7 = .ok (.i2l, 1) := by decide +kernel
theorem dL_scrap_8 : decode cL_scrap 8 = .ok (.lastore, 1) := by decide +kernel
theorem dL_scrap_9 : decode cL_scrap 9 = .ok (.goto 9, 3) := by decide +kernel
theorem dL_scrap_12 : decode cL_scrap 12 = .ok (.astore_n 3, 1) := by decide +kernel
theorem dL_scrap_13 : decode cL_scrap 13 = .ok (.iconst 1, 1) := by decide +kernel
theorem dL_scrap_14 : decode cL_scrap 14 = .ok (.ireturn, 1) := by decide +kernel
theorem dL_scrap_15 : decode cL_scrap 15 = .ok (.astore_n 3, 1) := by decide +kernel
theorem dL_scrap_16 : decode cL_scrap 16 = .ok (.iconst 2, 1) := by decide +kernel
theorem dL_scrap_17 : decode cL_scrap 17 = .ok (.ireturn, 1) := by decide +kernel
theorem dL_scrap_18 : decode cL_scrap 18 = .ok (.iconst 0, 1) := by decide +kernel
theorem dL_scrap_19 : decode cL_scrap 19 = .ok (.ireturn, 1) := by decide +kernel
theorem dL_set_0 : decode cL_set 0 = .ok (.aload_n 2, 1) := by decide +kernel
theorem dL_set_1 : decode cL_set 1 = .ok (.iconst 0, 1) := by decide +kernel
theorem dL_set_2 : decode cL_set 2 = .ok (.aload_n 0, 1) := by decide +kernel
theorem dL_set_3 : decode cL_set 3 = .ok (.iload_n 1, 1) := by decide +kernel
theorem dL_set_4 : decode cL_set 4 = .ok (.invokevirtual 64, 3) := by decide +kernel
theorem dL_set_7 : decode cL_set 7 = .ok (.i2l, 1) := by decide +kernel
theorem dL_set_8 : decode cL_set 8 = .ok (.lastore, 1) := by decide +kernel
theorem dL_set_9 : decode cL_set 9 = .ok (.goto 9, 3) := by decide +kernel
theorem dL_set_12 : decode cL_set 12 = .ok (.astore_n 3, 1) := by decide +kernel
theorem dL_set_13 : decode cL_set 13 = .ok (.iconst 1, 1) := by decide +kernel
theorem dL_set_14 : decode cL_set 14 = .ok (.ireturn, 1) := by decide +kernel
theorem dL_set_15 : decode cL_set 15 = .ok (.astore_n 3, 1) := by decide +kernel
theorem dL_set_16 : decode cL_set 16 = .ok (.iconst 2, 1) := by decide +kernel
theorem dL_set_17 : decode cL_set 17 = .ok (.ireturn, 1) := by decide +kernel
theorem dL_set_18 : decode cL_set 18 = .ok (.iconst 0, 1) := by decide +kernel
theorem dL_set_19 : decode cL_set 19 = .ok (.ireturn, 1) := by decide +kernel
theorem dL_undo_0 : decode cL_undo 0 = .ok (.aload_n 1, 1) := by decide +kernel
theorem dL_undo_1 : decode cL_undo 1 = .ok (.iconst 0, 1) := by decide +kernel
theorem dL_undo_2 : decode cL_undo 2 = .ok (.aload_n 0, 1) := by decide +kernel
theorem dL_undo_3 : decode cL_undo 3 = .ok (.invokevirtual 67, 3) := by decide +kernel
theorem dL_undo_6 : decode cL_undo 6 = .ok (.i2l, 1) := by decide +kernel
theorem dL_undo_7 : decode cL_undo 7 = .ok (.lastore, 1) := by decide +kernel
theorem dL_undo_8 : decode cL_undo 8 = .ok (.goto 6, 3) := by decide +kernel
theorem dL_undo_11 : decode cL_undo 11 = .ok (.astore_n 2, 1) := by decide +kernel
theorem dL_undo_12 : decode cL_undo 12 = .ok (.iconst 1, 1) := by decide +kernel
theorem dL_undo_13 : decode cL_undo 13 = .ok (.ireturn, 1) := by decide +kernel
theorem dL_undo_14 : decode cL_undo 14 = .ok (.iconst 0, 1) := by decide +kernel
theorem dL_undo_15 : decode cL_undo 15 = .ok (.ireturn, 1) := by decide +kernel
theorem dL_recutFor_0 : decode cL_recutFor 0 = .ok (.aload_n 2, 1) := by decide +kernel
theorem dL_recutFor_1 : decode cL_recutFor 1 = .ok (.iconst 0, 1) := by decide +kernel
theorem dL_recutFor_2 : decode cL_recutFor 2 = .ok (.aload_n 0, 1) := by decide +kernel
theorem dL_recutFor_3 : decode cL_recutFor 3 = .ok (.iload_n 1, 1) := by decide +kernel
theorem dL_recutFor_4 : decode cL_recutFor 4 = .ok (.invokevirtual 70, 3) := by decide +kernel
theorem dL_recutFor_7 : decode cL_recutFor 7 = .ok (.i2l, 1) := by decide +kernel
theorem dL_recutFor_8 : decode cL_recutFor 8 = .ok (.lastore, 1) := by decide +kernel
theorem dL_recutFor_9 : decode cL_recutFor 9 = .ok (.goto 6, 3) := by decide +kernel
theorem dL_recutFor_12 : decode cL_recutFor 12 = .ok (.astore_n 3, 1) := by decide +kernel
theorem dL_recutFor_13 : decode cL_recutFor 13 = .ok (.iconst 1, 1) := by decide +kernel
theorem dL_recutFor_14 : decode cL_recutFor 14 = .ok (.ireturn, 1) := by decide +kernel
theorem dL_recutFor_15 : decode cL_recutFor 15 = .ok (.iconst 0, 1) := by decide +kernel
theorem dL_recutFor_16 : decode cL_recutFor 16 = .ok (.ireturn, 1) := by decide +kernel
theorem dL_cheapest_0 : decode cL_cheapest 0 = .ok (.aload_n 2, 1) := by decide +kernel
theorem dL_cheapest_1 : decode cL_cheapest 1 = .ok (.iconst 0, 1) := by decide +kernel
theorem dL_cheapest_2 : decode cL_cheapest 2 = .ok (.aload_n 0, 1) := by decide +kernel
theorem dL_cheapest_3 : decode cL_cheapest 3 = .ok (.iload_n 1, 1) := by decide +kernel
theorem dL_cheapest_4 : decode cL_cheapest 4 = .ok (.invokevirtual 73, 3) := by decide +kernel
theorem dL_cheapest_7 : decode cL_cheapest 7 = .ok (.i2l, 1) := by decide +kernel
theorem dL_cheapest_8 : decode cL_cheapest 8 = .ok (.lastore, 1) := by decide +kernel
theorem dL_cheapest_9 : decode cL_cheapest 9 = .ok (.goto 6, 3) := by decide +kernel
theorem dL_cheapest_12 : decode cL_cheapest 12 = .ok (.astore_n 3, 1) := by decide +kernel
theorem dL_cheapest_13 : decode cL_cheapest 13 = .ok (.iconst 1, 1) := by decide +kernel
theorem dL_cheapest_14 : decode cL_cheapest 14 = .ok (.ireturn, 1) := by decide +kernel
theorem dL_cheapest_15 : decode cL_cheapest 15 = .ok (.iconst 0, 1) := by decide +kernel
theorem dL_cheapest_16 : decode cL_cheapest 16 = .ok (.ireturn, 1) := by decide +kernel
theorem dL_wouldEarn_0 : decode cL_wouldEarn 0 = .ok (.aload_n 2, 1) := by decide +kernel
theorem dL_wouldEarn_1 : decode cL_wouldEarn 1 = .ok (.iconst 0, 1) := by decide +kernel
theorem dL_wouldEarn_2 : decode cL_wouldEarn 2 = .ok (.aload_n 0, 1) := by decide +kernel
theorem dL_wouldEarn_3 : decode cL_wouldEarn 3 = .ok (.iload_n 1, 1) := by decide +kernel
theorem dL_wouldEarn_4 : decode cL_wouldEarn 4 = .ok (.invokevirtual 76, 3) := by decide +kernel
theorem dL_wouldEarn_7 : decode cL_wouldEarn 7 = .ok (.i2l, 1) := by decide +kernel
theorem dL_wouldEarn_8 : decode cL_wouldEarn 8 = .ok (.lastore, 1) := by decide +kernel
theorem dL_wouldEarn_9 : decode cL_wouldEarn 9 = .ok (.goto 6, 3) := by decide +kernel
theorem dL_wouldEarn_12 : decode cL_wouldEarn 12 = .ok (.astore_n 3, 1) := by decide +kernel
theorem dL_wouldEarn_13 : decode cL_wouldEarn 13 = .ok (.iconst 1, 1) := by decide +kernel
theorem dL_wouldEarn_14 : decode cL_wouldEarn 14 = .ok (.ireturn, 1) := by decide +kernel
theorem dL_wouldEarn_15 : decode cL_wouldEarn 15 = .ok (.iconst 0, 1) := by decide +kernel
theorem dL_wouldEarn_16 : decode cL_wouldEarn 16 = .ok (.ireturn, 1) := by decide +kernel
theorem dL_runScript_0 : decode cL_runScript 0 = .ok (.aload 4, 2) := by decide +kernel
theorem dL_runScript_2 : decode cL_runScript 2 = .ok (.iconst 0, 1) := by decide +kernel
theorem dL_runScript_3 : decode cL_runScript 3 = .ok (.aload_n 0, 1) := by decide +kernel
theorem dL_runScript_4 : decode cL_runScript 4 = .ok (.iload_n 1, 1) := by decide +kernel
theorem dL_runScript_5 : decode cL_runScript 5 = .ok (.lload_n 2, 1) := by decide +kernel
theorem dL_runScript_6 : decode cL_runScript 6 = .ok (.invokevirtual 79, 3) := by decide +kernel
theorem dL_runScript_9 : decode cL_runScript 9 = .ok (.i2l, 1) := by decide +kernel
theorem dL_runScript_10 : decode cL_runScript 10 = .ok (.lastore, 1) := by decide +kernel
theorem dL_runScript_11 : decode cL_runScript 11 = .ok (.goto 7, 3) := by decide +kernel
theorem dL_runScript_14 : decode cL_runScript 14 = .ok (.astore 5, 2) := by decide +kernel
theorem dL_runScript_16 : decode cL_runScript 16 = .ok (.iconst 1, 1) := by decide +kernel
theorem dL_runScript_17 : decode cL_runScript 17 = .ok (.ireturn, 1) := by decide +kernel
theorem dL_runScript_18 : decode cL_runScript 18 = .ok (.iconst 0, 1) := by decide +kernel
theorem dL_runScript_19 : decode cL_runScript 19 = .ok (.ireturn, 1) := by decide +kernel
theorem dL_simulate_0 : decode cL_simulate 0 = .ok (.aload 4, 2) := by decide +kernel
theorem dL_simulate_2 : decode cL_simulate 2 = .ok (.iconst 0, 1) := by decide +kernel
theorem dL_simulate_3 : decode cL_simulate 3 = .ok (.aload_n 0, 1) := by decide +kernel
theorem dL_simulate_4 : decode cL_simulate 4 = .ok (.lload_n 1, 1) := by decide +kernel
theorem dL_simulate_5 : decode cL_simulate 5 = .ok (.iload_n 3, 1) := by decide +kernel
theorem dL_simulate_6 : decode cL_simulate 6 = .ok (.invokevirtual 83, 3) := by decide +kernel
theorem dL_simulate_9 : decode cL_simulate 9 = .ok (.i2l, 1) := by decide +kernel
theorem dL_simulate_10 : decode cL_simulate 10 = .ok (.lastore, 1) := by decide +kernel
theorem dL_simulate_11 : decode cL_simulate 11 = .ok (.goto 7, 3) := by decide +kernel
theorem dL_simulate_14 : decode cL_simulate 14 = .ok (.astore 5, 2) := by decide +kernel
theorem dL_simulate_16 : decode cL_simulate 16 = .ok (.iconst 1, 1) := by decide +kernel
theorem dL_simulate_17 : decode cL_simulate 17 = .ok (.ireturn, 1) := by decide +kernel
theorem dL_simulate_18 : decode cL_simulate 18 = .ok (.iconst 0, 1) := by decide +kernel
theorem dL_simulate_19 : decode cL_simulate 19 = .ok (.ireturn, 1) := by decide +kernel
theorem dL_save_0 : decode cL_save 0 = .ok (.aload_n 2, 1) := by decide +kernel
theorem dL_save_1 : decode cL_save 1 = .ok (.iconst 0, 1) := by decide +kernel
theorem dL_save_2 : decode cL_save 2 = .ok (.aload_n 0, 1) := by decide +kernel
theorem dL_save_3 : decode cL_save 3 = .ok (.iload_n 1, 1) := by decide +kernel
theorem dL_save_4 : decode cL_save 4 = .ok (.invokevirtual 87, 3) := by decide +kernel
theorem dL_save_7 : decode cL_save 7 = .ok (.i2l, 1) := by decide +kernel
theorem dL_save_8 : decode cL_save 8 = .ok (.lastore, 1) := by decide +kernel
theorem dL_save_9 : decode cL_save 9 = .ok (.goto 6, 3) := by decide +kernel
theorem dL_save_12 : decode cL_save 12 = .ok (.astore_n 3, 1) := by decide +kernel
theorem dL_save_13 : decode cL_save 13 = .ok (.iconst 1, 1) := by decide +kernel
theorem dL_save_14 : decode cL_save 14 = .ok (.ireturn, 1) := by decide +kernel
theorem dL_save_15 : decode cL_save 15 = .ok (.iconst 0, 1) := by decide +kernel
theorem dL_save_16 : decode cL_save 16 = .ok (.ireturn, 1) := by decide +kernel
theorem dL_restore_0 : decode cL_restore 0 = .ok (.aload_n 2, 1) := by decide +kernel
theorem dL_restore_1 : decode cL_restore 1 = .ok (.iconst 0, 1) := by decide +kernel
theorem dL_restore_2 : decode cL_restore 2 = .ok (.aload_n 0, 1) := by decide +kernel
theorem dL_restore_3 : decode cL_restore 3 = .ok (.iload_n 1, 1) := by decide +kernel
theorem dL_restore_4 : decode cL_restore 4 = .ok (.invokevirtual 90, 3) := by decide +kernel
theorem dL_restore_7 : decode cL_restore 7 = .ok (.i2l, 1) := by decide +kernel
theorem dL_restore_8 : decode cL_restore 8 = .ok (.lastore, 1) := by decide +kernel
theorem dL_restore_9 : decode cL_restore 9 = .ok (.goto 9, 3) := by decide +kernel
theorem dL_restore_12 : decode cL_restore 12 = .ok (.astore_n 3, 1) := by decide +kernel
theorem dL_restore_13 : decode cL_restore 13 = .ok (.iconst 1, 1) := by decide +kernel
theorem dL_restore_14 : decode cL_restore 14 = .ok (.ireturn, 1) := by decide +kernel
theorem dL_restore_15 : decode cL_restore 15 = .ok (.astore_n 3, 1) := by decide +kernel
theorem dL_restore_16 : decode cL_restore 16 = .ok (.iconst 2, 1) := by decide +kernel
theorem dL_restore_17 : decode cL_restore 17 = .ok (.ireturn, 1) := by decide +kernel
theorem dL_restore_18 : decode cL_restore 18 = .ok (.iconst 0, 1) := by decide +kernel
theorem dL_restore_19 : decode cL_restore 19 = .ok (.ireturn, 1) := by decide +kernel
theorem dL_law_0 : decode cL_law 0 = .ok (.new 8, 3) := by decide +kernel
theorem dL_law_3 : decode cL_law 3 = .ok (.dup, 1) := by decide +kernel
theorem dL_law_4 : decode cL_law 4 = .ok (.invokespecial 93, 3) := by decide +kernel
theorem dL_law_7 : decode cL_law 7 = .ok (.astore_n 1, 1) := by decide +kernel
theorem dL_law_8 : decode cL_law 8 = .ok (.new 94, 3) := by decide +kernel
theorem dL_law_11 : decode cL_law 11 = .ok (.dup, 1) := by decide +kernel
theorem dL_law_12 : decode cL_law 12 = .ok (.invokespecial 96, 3) := by decide +kernel
theorem dL_law_15 : decode cL_law 15 = .ok (.astore_n 2, 1) := by decide +kernel
theorem dL_law_16 : decode cL_law 16 = .ok (.iconst 1, 1) := by decide +kernel
theorem dL_law_17 : decode cL_law 17 = .ok (.newarray .long, 2) := by decide +kernel
theorem dL_law_19 : decode cL_law 19 = .ok (.astore_n 3, 1) := by decide +kernel
theorem dL_law_20 : decode cL_law 20 = .ok (.iconst 0, 1) := by decide +kernel
theorem dL_law_21 : decode cL_law 21 = .ok (.istore 4, 2) := by decide +kernel
theorem dL_law_23 : decode cL_law 23 = .ok (.iload 4, 2) := by decide +kernel
theorem dL_law_25 : decode cL_law 25 = .ok (.aload_n 0, 1) := by decide +kernel
theorem dL_law_26 : decode cL_law 26 = .ok (.arraylength, 1) := by decide +kernel
theorem dL_law_27 : decode cL_law 27 = .ok (.iconst 4, 1) := by decide +kernel
theorem dL_law_28 : decode cL_law 28 = .ok (.isub, 1) := by decide +kernel
theorem dL_law_29 : decode cL_law 29 = .ok (.if_icmp .gt 1829, 3) := by decide +kernel
theorem dL_law_32 : decode cL_law 32 = .ok (.aload_n 0, 1) := by decide +kernel
theorem dL_law_33 : decode cL_law 33 = .ok (.iload 4, 2) := by decide +kernel
theorem dL_law_35 : decode cL_law 35 = .ok (.iaload, 1) := by decide +kernel
theorem dL_law_36 : decode cL_law 36 = .ok (.bipush 31, 2) := by decide +kernel
theorem dL_law_38 : decode cL_law 38 = .ok (.iand, 1) := by decide +kernel
theorem dL_law_39 : decode cL_law 39 = .ok (.tableswitch 1813 0 31 #[141, 197, 210, 223, 267, 323, 391, 459, 527, 583, 663, 731, 799, 855, 935, 991, 1071, 1127, 1183, 1196, 1237, 1281, 1337, 1393, 1406, 1419, 1432, 1488, 1501, 1601, 1701, 1757], 141) := by decide +kernel
theorem dL_law_180 : decode cL_law 180 = .ok (.aload_n 1, 1) := by decide +kernel
theorem dL_law_181 : decode cL_law 181 = .ok (.aload_n 0, 1) := by decide +kernel
theorem dL_law_182 : decode cL_law 182 = .ok (.iload 4, 2) := by decide +kernel
theorem dL_law_184 : decode cL_law 184 = .ok (.iconst 1, 1) := by decide +kernel
theorem dL_law_185 : decode cL_law 185 = .ok (.iadd, 1) := by decide +kernel
theorem dL_law_186 : decode cL_law 186 = .ok (.iaload, 1) := by decide +kernel
theorem dL_law_187 : decode cL_law 187 = .ok (.aload_n 3, 1) := by decide +kernel
theorem dL_law_188 : decode cL_law 188 = .ok (.invokestatic 97, 3) := by decide +kernel
theorem dL_law_191 : decode cL_law 191 = .ok (.istore 5, 2) := by decide +kernel
theorem dL_law_193 : decode cL_law 193 = .ok (.aload_n 2, 1) := by decide +kernel
theorem dL_law_194 : decode cL_law 194 = .ok (.aload_n 0, 1) := by decide +kernel
theorem dL_law_195 : decode cL_law 195 = .ok (.iload 4, 2) := by decide +kernel
theorem dL_law_197 : decode cL_law 197 = .ok (.iconst 1, 1) := by decide +kernel
theorem dL_law_198 : decode cL_law 198 = .ok (.iadd, 1) := by decide +kernel
theorem dL_law_199 : decode cL_law 199 = .ok (.iaload, 1) := by decide +kernel
theorem dL_law_200 : decode cL_law 200 = .ok (.invokevirtual 102, 3) := by decide +kernel
theorem dL_law_203 : decode cL_law 203 = .ok (.istore 6, 2) := by decide +kernel
theorem dL_law_205 : decode cL_law 205 = .ok (.aload_n 2, 1) := by decide +kernel
theorem dL_law_206 : decode cL_law 206 = .ok (.invokevirtual 103, 3) := by decide +kernel
theorem dL_law_209 : decode cL_law 209 = .ok (.iload 5, 2) := by decide +kernel
theorem dL_law_211 : decode cL_law 211 = .ok (.if_icmp .eq 5, 3) := by decide +kernel
theorem dL_law_214 : decode cL_law 214 = .ok (.iconst 0, 1) := by decide +kernel
theorem dL_law_215 : decode cL_law 215 = .ok (.ireturn, 1) := by decide +kernel
theorem dL_law_216 : decode cL_law 216 = .ok (.iload 5, 2) := by decide +kernel
theorem dL_law_218 : decode cL_law 218 = .ok (.ifCond .ne 15, 3) := by decide +kernel
theorem dL_law_221 : decode cL_law 221 = .ok (.aload_n 3, 1) := by decide +kernel
theorem dL_law_222 : decode cL_law 222 = .ok (.iconst 0, 1) := by decide +kernel
theorem dL_law_223 : decode cL_law 223 = .ok (.laload, 1) := by decide +kernel
theorem dL_law_224 : decode cL_law 224 = .ok (.iload 6, 2) := by decide +kernel
theorem dL_law_226 : decode cL_law 226 = .ok (.i2l, 1) := by decide +kernel
theorem dL_law_227 : decode cL_law 227 = .ok (.lcmp, 1) := by decide +kernel
theorem dL_law_228 : decode cL_law 228 = .ok (.ifCond .eq 5, 3) := by decide +kernel
theorem dL_law_231 : decode cL_law 231 = .ok (.iconst 0, 1) := by decide +kernel
theorem dL_law_232 : decode cL_law 232 = .ok (.ireturn, 1) := by decide +kernel
theorem dL_law_233 : decode cL_law 233 = .ok (.goto 1619, 3) := by decide +kernel
theorem dL_law_236 : decode cL_law 236 = .ok (.aload_n 1, 1) := by decide +kernel
theorem dL_law_237 : decode cL_law 237 = .ok (.invokevirtual 106, 3) := by decide +kernel
theorem dL_law_240 : decode cL_law 240 = .ok (.aload_n 2, 1) := by decide +kernel
theorem dL_law_241 : decode cL_law 241 = .ok (.invokevirtual 109, 3) := by decide +kernel
theorem dL_law_244 : decode cL_law 244 = .ok (.if_icmp .eq 1608, 3) := by decide +kernel
theorem dL_law_247 : decode cL_law 247 = .ok (.iconst 0, 1) := by decide +kernel
theorem dL_law_248 : decode cL_law 248 = .ok (.ireturn, 1) := by decide +kernel
theorem dL_law_249 : decode cL_law 249 = .ok (.aload_n 1, 1) := by decide +kernel
theorem dL_law_250 : decode cL_law 250 = .ok (.invokevirtual 110, 3) := by decide +kernel
theorem dL_law_253 : decode cL_law 253 = .ok (.aload_n 2, 1) := by decide +kernel
theorem dL_law_254 : decode cL_law 254 = .ok (.invokevirtual 113, 3) := by decide +kernel
theorem dL_law_257 : decode cL_law 257 = .ok (.if_icmp .eq 1595, 3) := by decide +kernel
theorem dL_law_260 : decode cL_law 260 = .ok (.iconst 0, 1) := by decide +kernel
theorem dL_law_261 : decode cL_law 261 = .ok (.ireturn, 1) := by decide +kernel
theorem dL_law_262 : decode cL_law 262 = .ok (.aload_n 1, 1) := by decide +kernel
theorem dL_law_263 : decode cL_law 263 = .ok (.aload_n 3, 1) := by decide +kernel
theorem dL_law_264 : decode cL_law 264 = .ok (.invokestatic 114, 3) := by decide +kernel
theorem dL_law_267 : decode cL_law 267 = .ok (.istore 5, 2) := by decide +kernel
theorem dL_law_269 : decode cL_law 269 = .ok (.aload_n 2, 1) := by decide +kernel
theorem dL_law_270 : decode cL_law 270 = .ok (.invokevirtual 117, 3) := by decide +kernel
theorem dL_law_273 : decode cL_law 273 = .ok (.istore 6, 2) := by decide +kernel
theorem dL_law_275 : decode cL_law 275 = .ok (.aload_n 2, 1) := by decide +kernel
theorem dL_law_276 : decode cL_law 276 = .ok (.invokevirtual 103, 3) := by decide +kernel
theorem dL_law_279 : decode cL_law 279 = .ok (.iload 5, 2) := by decide +kernel
theorem dL_law_281 : decode cL_law 281 = .ok (.if_icmp .eq 5, 3) := by decide +kernel
theorem dL_law_284 : decode cL_law 284 = .ok (.iconst 0, 1) := by decide +kernel
theorem dL_law_285 : decode cL_law 285 = .ok (.ireturn, 1) := by decide +kernel
theorem dL_law_286 : decode cL_law 286 = .ok (.iload 5, 2) := by decide +kernel
theorem dL_law_288 : decode cL_law 288 = .ok (.ifCond .ne 15, 3) := by decide +kernel
theorem dL_law_291 : decode cL_law 291 = .ok (.aload_n 3, 1) := by decide +kernel
theorem dL_law_292 : decode cL_law 292 = .ok (.iconst 0, 1) := by decide +kernel
theorem dL_law_293 : decode cL_law 293 = .ok (.laload, 1) := by decide +kernel
theorem dL_law_294 : decode cL_law 294 = .ok (.iload 6, 2) := by decide +kernel
theorem dL_law_296 : decode cL_law 296 = .ok (.i2l, 1) := by decide +kernel
theorem dL_law_297 : decode cL_law 297 = .ok (.lcmp, 1) := by decide +kernel
theorem dL_law_298 : decode cL_law 298 = .ok (.ifCond .eq 5, 3) := by decide +kernel
theorem dL_law_301 : decode cL_law 301 = .ok (.iconst 0, 1) := by decide +kernel
theorem dL_law_302 : decode cL_law 302 = .ok (.ireturn, 1) := by decide +kernel
theorem dL_law_303 : decode cL_law 303 = .ok (.goto 1549, 3) := by decide +kernel
theorem dL_law_306 : decode cL_law 306 = .ok (.aload_n 1, 1) := by decide +kernel
theorem dL_law_307 : decode cL_law 307 = .ok (.aload_n 0, 1) := by decide +kernel
theorem dL_law_308 : decode cL_law 308 = .ok (.iload 4, 2) := by decide +kernel
theorem dL_law_310 : decode cL_law 310 = .ok (.iconst 1, 1) := by decide +kernel
theorem dL_law_311 : decode cL_law 311 = .ok (.iadd, 1) := by decide +kernel
theorem dL_law_312 : decode cL_law 312 = .ok (.iaload, 1) := by decide +kernel
theorem dL_law_313 : decode cL_law 313 = .ok (.aload_n 3, 1) := by decide +kernel
theorem dL_law_314 : decode cL_law 314 = .ok (.invokestatic 118, 3) := by decide +kernel
theorem dL_law_317 : decode cL_law 317 = .ok (.istore 5, 2) := by decide +kernel
theorem dL_law_319 : decode cL_law 319 = .ok (.aload_n 2, 1) := by decide +kernel
theorem dL_law_320 : decode cL_law 320 = .ok (.aload_n 0, 1) := by decide +kernel
theorem dL_law_321 : decode cL_law 321 = .ok (.iload 4, 2) := by decide +kernel
theorem dL_law_323 : decode cL_law 323 = .ok (.iconst 1, 1) := by decide +kernel
theorem dL_law_324 : decode cL_law 324 = .ok (.iadd, 1) := by decide +kernel
theorem dL_law_325 : decode cL_law 325 = .ok (.iaload, 1) := by decide +kernel
theorem dL_law_326 : decode cL_law 326 = .ok (.invokevirtual 120, 3) := by decide +kernel
theorem dL_law_329 : decode cL_law 329 = .ok (.istore 6, 2) := by decide +kernel
theorem dL_law_331 : decode cL_law 331 = .ok (.aload_n 2, 1) := by decide +kernel
theorem dL_law_332 : decode cL_law 332 = .ok (.invokevirtual 103, 3) := by decide +kernel
theorem dL_law_335 : decode cL_law 335 = .ok (.iload 5, 2) := by decide +kernel
theorem dL_law_337 : decode cL_law 337 = .ok (.if_icmp .eq 5, 3) := by decide +kernel
theorem dL_law_340 : decode cL_law 340 = .ok (.iconst 0, 1) := by decide +kernel
theorem dL_law_341 : decode cL_law 341 = .ok (.ireturn, 1) := by decide +kernel
theorem dL_law_342 : decode cL_law 342 = .ok (.iload 5, 2) := by decide +kernel
theorem dL_law_344 : decode cL_law 344 = .ok (.ifCond .ne 15, 3) := by decide +kernel
theorem dL_law_347 : decode cL_law 347 = .ok (.aload_n 3, 1) := by decide +kernel
theorem dL_law_348 : decode cL_law 348 = .ok (.iconst 0, 1) := by decide +kernel
theorem dL_law_349 : decode cL_law 349 = .ok (.laload, 1) := by decide +kernel
theorem dL_law_350 : decode cL_law 350 = .ok (.iload 6, 2) := by decide +kernel
theorem dL_law_352 : decode cL_law 352 = .ok (.i2l, 1) := by decide +kernel
theorem dL_law_353 : decode cL_law 353 = .ok (.lcmp, 1) := by decide +kernel
theorem dL_law_354 : decode cL_law 354 = .ok (.ifCond .eq 5, 3) := by decide +kernel
theorem dL_law_357 : decode cL_law 357 = .ok (.iconst 0, 1) := by decide +kernel
theorem dL_law_358 : decode cL_law 358 = .ok (.ireturn, 1) := by decide +kernel
theorem dL_law_359 : decode cL_law 359 = .ok (.goto 1493, 3) := by decide +kernel
theorem dL_law_362 : decode cL_law 362 = .ok (.aload_n 1, 1) := by decide +kernel
theorem dL_law_363 : decode cL_law 363 = .ok (.aload_n 0, 1) := by decide +kernel
theorem dL_law_364 : decode cL_law 364 = .ok (.iload 4, 2) := by decide +kernel
theorem dL_law_366 : decode cL_law 366 = .ok (.iconst 1, 1) := by decide +kernel
theorem dL_law_367 : decode cL_law 367 = .ok (.iadd, 1) := by decide +kernel
theorem dL_law_368 : decode cL_law 368 = .ok (.iaload, 1) := by decide +kernel
theorem dL_law_369 : decode cL_law 369 = .ok (.aload_n 0, 1) := by decide +kernel
theorem dL_law_370 : decode cL_law 370 = .ok (.iload 4, 2) := by decide +kernel
theorem dL_law_372 : decode cL_law 372 = .ok (.iconst 2, 1) := by decide +kernel
theorem dL_law_373 : decode cL_law 373 = .ok (.iadd, 1) := by decide +kernel
theorem dL_law_374 : decode cL_law 374 = .ok (.iaload, 1) := by decide +kernel
theorem dL_law_375 : decode cL_law 375 = .ok (.aload_n 3, 1) := by decide +kernel
theorem dL_law_376 : decode cL_law 376 = .ok (.invokestatic 121, 3) := by decide +kernel
theorem dL_law_379 : decode cL_law 379 = .ok (.istore 5, 2) := by decide +kernel
theorem dL_law_381 : decode cL_law 381 = .ok (.aload_n 2, 1) := by decide +kernel
theorem dL_law_382 : decode cL_law 382 = .ok (.aload_n 0, 1) := by decide +kernel
theorem dL_law_383 : decode cL_law 383 = .ok (.iload 4, 2) := by decide +kernel
theorem dL_law_385 : decode cL_law 385 = .ok (.iconst 1, 1) := by decide +kernel
theorem dL_law_386 : decode cL_law 386 = .ok (.iadd, 1) := by decide +kernel
theorem dL_law_387 : decode cL_law 387 = .ok (.iaload, 1) := by decide +kernel
theorem dL_law_388 : decode cL_law 388 = .ok (.aload_n 0, 1) := by decide +kernel
theorem dL_law_389 : decode cL_law 389 = .ok (.iload 4, 2) := by decide +kernel
theorem dL_law_391 : decode cL_law 391 = .ok (.iconst 2, 1) := by decide +kernel
theorem dL_law_392 : decode cL_law 392 = .ok (.iadd, 1) := by decide +kernel
theorem dL_law_393 : decode cL_law 393 = .ok (.iaload, 1) := by decide +kernel
theorem dL_law_394 : decode cL_law 394 = .ok (.invokevirtual 124, 3) := by decide +kernel
theorem dL_law_397 : decode cL_law 397 = .ok (.istore 6, 2) := by decide +kernel
theorem dL_law_399 : decode cL_law 399 = .ok (.aload_n 2, 1) := by decide +kernel
theorem dL_law_400 : decode cL_law 400 = .ok (.invokevirtual 103, 3) := by decide +kernel
theorem dL_law_403 : decode cL_law 403 = .ok (.iload 5, 2) := by decide +kernel
theorem dL_law_405 : decode cL_law 405 = .ok (.if_icmp .eq 5, 3) := by decide +kernel
theorem dL_law_408 : decode cL_law 408 = .ok (.iconst 0, 1) := by decide +kernel
theorem dL_law_409 : decode cL_law 409 = .ok (.ireturn, 1) := by decide +kernel
theorem dL_law_410 : decode cL_law 410 = .ok (.iload 5, 2) := by decide +kernel
theorem dL_law_412 : decode cL_law 412 = .ok (.ifCond .ne 15, 3) := by decide +kernel
theorem dL_law_415 : decode cL_law 415 = .ok (.aload_n 3, 1) := by decide +kernel
theorem dL_law_416 : decode cL_law 416 = .ok (.iconst 0, 1) := by decide +kernel
theorem dL_law_417 : decode cL_law 417 = .ok (.laload, 1) := by decide +kernel
theorem dL_law_418 : decode cL_law 418 = .ok (.iload 6, 2) := by decide +kernel
theorem dL_law_420 : decode cL_law 420 = .ok (.i2l, 1) := by decide +kernel
theorem dL_law_421 : decode cL_law 421 = .ok (.lcmp, 1) := by decide +kernel
theorem dL_law_422 : decode cL_law 422 = .ok (.ifCond .eq 5, 3) := by decide +kernel
theorem dL_law_425 : decode cL_law 425 = .ok (.iconst 0, 1) := by decide +kernel
theorem dL_law_426 : decode cL_law 426 = .ok (.ireturn, 1) := by decide +kernel
theorem dL_law_427 : decode cL_law 427 = .ok (.goto 1425, 3) := by decide +kernel
theorem dL_law_430 : decode cL_law 430 = .ok (.aload_n 1, 1) := by decide +kernel
theorem dL_law_431 : decode cL_law 431 = .ok (.aload_n 0, 1) := by decide +kernel
theorem dL_law_432 : decode cL_law 432 = .ok (.iload 4, 2) := by decide +kernel
theorem dL_law_434 : decode cL_law 434 = .ok (.iconst 1, 1) := by decide +kernel
theorem dL_law_435 : decode cL_law 435 = .ok (.iadd, 1) := by decide +kernel
theorem dL_law_436 : decode cL_law 436 = .ok (.iaload, 1) := by decide +kernel
theorem dL_law_437 : decode cL_law 437 = .ok (.aload_n 0, 1) := by decide +kernel
theorem dL_law_438 : decode cL_law 438 = .ok (.iload 4, 2) := by decide +kernel
theorem dL_law_440 : decode cL_law 440 = .ok (.iconst 2, 1) := by decide +kernel
theorem dL_law_441 : decode cL_law 441 = .ok (.iadd, 1) := by decide +kernel
theorem dL_law_442 : decode cL_law 442 = .ok (.iaload, 1) := by decide +kernel
theorem dL_law_443 : decode cL_law 443 = .ok (.aload_n 3, 1) := by decide +kernel
theorem dL_law_444 : decode cL_law 444 = .ok (.invokestatic 125, 3) := by decide +kernel
theorem dL_law_447 : decode cL_law 447 = .ok (.istore 5, 2) := by decide +kernel
theorem dL_law_449 : decode cL_law 449 = .ok (.aload_n 2, 1) := by decide +kernel
theorem dL_law_450 : decode cL_law 450 = .ok (.aload_n 0, 1) := by decide +kernel
theorem dL_law_451 : decode cL_law 451 = .ok (.iload 4, 2) := by decide +kernel
theorem dL_law_453 : decode cL_law 453 = .ok (.iconst 1, 1) := by decide +kernel
theorem dL_law_454 : decode cL_law 454 = .ok (.iadd, 1) := by decide +kernel
theorem dL_law_455 : decode cL_law 455 = .ok (.iaload, 1) := by decide +kernel
theorem dL_law_456 : decode cL_law 456 = .ok (.aload_n 0, 1) := by decide +kernel
theorem dL_law_457 : decode cL_law 457 = .ok (.iload 4, 2) := by decide +kernel
theorem dL_law_459 : decode cL_law 459 = .ok (.iconst 2, 1) := by decide +kernel
theorem dL_law_460 : decode cL_law 460 = .ok (.iadd, 1) := by decide +kernel
theorem dL_law_461 : decode cL_law 461 = .ok (.iaload, 1) := by decide +kernel
theorem dL_law_462 : decode cL_law 462 = .ok (.invokevirtual 127, 3) := by decide +kernel
theorem dL_law_465 : decode cL_law 465 = .ok (.istore 6, 2) := by decide +kernel
theorem dL_law_467 : decode cL_law 467 = .ok (.aload_n 2, 1) := by decide +kernel
theorem dL_law_468 : decode cL_law 468 = .ok (.invokevirtual 103, 3) := by decide +kernel
theorem dL_law_471 : decode cL_law 471 = .ok (.iload 5, 2) := by decide +kernel
theorem dL_law_473 : decode cL_law 473 = .ok (.if_icmp .eq 5, 3) := by decide +kernel
theorem dL_law_476 : decode cL_law 476 = .ok (.iconst 0, 1) := by decide +kernel
theorem dL_law_477 : decode cL_law 477 = .ok (.ireturn, 1) := by decide +kernel
theorem dL_law_478 : decode cL_law 478 = .ok (.iload 5, 2) := by decide +kernel
theorem dL_law_480 : decode cL_law 480 = .ok (.ifCond .ne 15, 3) := by decide +kernel
theorem dL_law_483 : decode cL_law 483 = .ok (.aload_n 3, 1) := by decide +kernel
theorem dL_law_484 : decode cL_law 484 = .ok (.iconst 0, 1) := by decide +kernel
theorem dL_law_485 : decode cL_law 485 = .ok (.laload, 1) := by decide +kernel
theorem dL_law_486 : decode cL_law 486 = .ok (.iload 6, 2) := by decide +kernel
theorem dL_law_488 : decode cL_law 488 = .ok (.i2l, 1) := by decide +kernel
theorem dL_law_489 : decode cL_law 489 = .ok (.lcmp, 1) := by decide +kernel
theorem dL_law_490 : decode cL_law 490 = .ok (.ifCond .eq 5, 3) := by decide +kernel
theorem dL_law_493 : decode cL_law 493 = .ok (.iconst 0, 1) := by decide +kernel
theorem dL_law_494 : decode cL_law 494 = .ok (.ireturn, 1) := by decide +kernel
theorem dL_law_495 : decode cL_law 495 = .ok (.goto 1357, 3) := by decide +kernel
theorem dL_law_498 : decode cL_law 498 = .ok (.aload_n 1, 1) := by decide +kernel
theorem dL_law_499 : decode cL_law 499 = .ok (.aload_n 0, 1) := by decide +kernel
theorem dL_law_500 : decode cL_law 500 = .ok (.iload 4, 2) := by decide +kernel
theorem dL_law_502 : decode cL_law 502 = .ok (.iconst 1, 1) := by decide +kernel
theorem dL_law_503 : decode cL_law 503 = .ok (.iadd, 1) := by decide +kernel
theorem dL_law_504 : decode cL_law 504 = .ok (.iaload, 1) := by decide +kernel
theorem dL_law_505 : decode cL_law 505 = .ok (.aload_n 0, 1) := by decide +kernel
theorem dL_law_506 : decode cL_law 506 = .ok (.iload 4, 2) := by decide +kernel
theorem dL_law_508 : decode cL_law 508 = .ok (.iconst 2, 1) := by decide +kernel
theorem dL_law_509 : decode cL_law 509 = .ok (.iadd, 1) := by decide +kernel
theorem dL_law_510 : decode cL_law 510 = .ok (.iaload, 1) := by decide +kernel
theorem dL_law_511 : decode cL_law 511 = .ok (.aload_n 3, 1) := by decide +kernel
theorem dL_law_512 : decode cL_law 512 = .ok (.invokestatic 128, 3) := by decide +kernel
theorem dL_law_515 : decode cL_law 515 = .ok (.istore 5, 2) := by decide +kernel
theorem dL_law_517 : decode cL_law 517 = .ok (.aload_n 2, 1) := by decide +kernel
theorem dL_law_518 : decode cL_law 518 = .ok (.aload_n 0, 1) := by decide +kernel
theorem dL_law_519 : decode cL_law 519 = .ok (.iload 4, 2) := by decide +kernel
theorem dL_law_521 : decode cL_law 521 = .ok (.iconst 1, 1) := by decide +kernel
theorem dL_law_522 : decode cL_law 522 = .ok (.iadd, 1) := by decide +kernel
theorem dL_law_523 : decode cL_law 523 = .ok (.iaload, 1) := by decide +kernel
theorem dL_law_524 : decode cL_law 524 = .ok (.aload_n 0, 1) := by decide +kernel
theorem dL_law_525 : decode cL_law 525 = .ok (.iload 4, 2) := by decide +kernel
theorem dL_law_527 : decode cL_law 527 = .ok (.iconst 2, 1) := by decide +kernel
theorem dL_law_528 : decode cL_law 528 = .ok (.iadd, 1) := by decide +kernel
theorem dL_law_529 : decode cL_law 529 = .ok (.iaload, 1) := by decide +kernel
theorem dL_law_530 : decode cL_law 530 = .ok (.invokevirtual 130, 3) := by decide +kernel
theorem dL_law_533 : decode cL_law 533 = .ok (.istore 6, 2) := by decide +kernel
theorem dL_law_535 : decode cL_law 535 = .ok (.aload_n 2, 1) := by decide +kernel
theorem dL_law_536 : decode cL_law 536 = .ok (.invokevirtual 103, 3) := by decide +kernel
theorem dL_law_539 : decode cL_law 539 = .ok (.iload 5, 2) := by decide +kernel
theorem dL_law_541 : decode cL_law 541 = .ok (.if_icmp .eq 5, 3) := by decide +kernel
theorem dL_law_544 : decode cL_law 544 = .ok (.iconst 0, 1) := by decide +kernel
theorem dL_law_545 : decode cL_law 545 = .ok (.ireturn, 1) := by decide +kernel
theorem dL_law_546 : decode cL_law 546 = .ok (.iload 5, 2) := by decide +kernel
theorem dL_law_548 : decode cL_law 548 = .ok (.ifCond .ne 15, 3) := by decide +kernel
theorem dL_law_551 : decode cL_law 551 = .ok (.aload_n 3, 1) := by decide +kernel
theorem dL_law_552 : decode cL_law 552 = .ok (.iconst 0, 1) := by decide +kernel
theorem dL_law_553 : decode cL_law 553 = .ok (.laload, 1) := by decide +kernel
theorem dL_law_554 : decode cL_law 554 = .ok (.iload 6, 2) := by decide +kernel
theorem dL_law_556 : decode cL_law 556 = .ok (.i2l, 1) := by decide +kernel
theorem dL_law_557 : decode cL_law 557 = .ok (.lcmp, 1) := by decide +kernel
theorem dL_law_558 : decode cL_law 558 = .ok (.ifCond .eq 5, 3) := by decide +kernel
theorem dL_law_561 : decode cL_law 561 = .ok (.iconst 0, 1) := by decide +kernel
theorem dL_law_562 : decode cL_law 562 = .ok (.ireturn, 1) := by decide +kernel
theorem dL_law_563 : decode cL_law 563 = .ok (.goto 1289, 3) := by decide +kernel
theorem dL_law_566 : decode cL_law 566 = .ok (.aload_n 1, 1) := by decide +kernel
theorem dL_law_567 : decode cL_law 567 = .ok (.aload_n 0, 1) := by decide +kernel
theorem dL_law_568 : decode cL_law 568 = .ok (.iload 4, 2) := by decide +kernel
theorem dL_law_570 : decode cL_law 570 = .ok (.iconst 1, 1) := by decide +kernel
theorem dL_law_571 : decode cL_law 571 = .ok (.iadd, 1) := by decide +kernel
theorem dL_law_572 : decode cL_law 572 = .ok (.iaload, 1) := by decide +kernel
theorem dL_law_573 : decode cL_law 573 = .ok (.aload_n 3, 1) := by decide +kernel
theorem dL_law_574 : decode cL_law 574 = .ok (.invokestatic 131, 3) := by decide +kernel
theorem dL_law_577 : decode cL_law 577 = .ok (.istore 5, 2) := by decide +kernel
theorem dL_law_579 : decode cL_law 579 = .ok (.aload_n 2, 1) := by decide +kernel
theorem dL_law_580 : decode cL_law 580 = .ok (.aload_n 0, 1) := by decide +kernel
theorem dL_law_581 : decode cL_law 581 = .ok (.iload 4, 2) := by decide +kernel
theorem dL_law_583 : decode cL_law 583 = .ok (.iconst 1, 1) := by decide +kernel
theorem dL_law_584 : decode cL_law 584 = .ok (.iadd, 1) := by decide +kernel
theorem dL_law_585 : decode cL_law 585 = .ok (.iaload, 1) := by decide +kernel
theorem dL_law_586 : decode cL_law 586 = .ok (.invokevirtual 133, 3) := by decide +kernel
theorem dL_law_589 : decode cL_law 589 = .ok (.istore 6, 2) := by decide +kernel
theorem dL_law_591 : decode cL_law 591 = .ok (.aload_n 2, 1) := by decide +kernel
theorem dL_law_592 : decode cL_law 592 = .ok (.invokevirtual 103, 3) := by decide +kernel
theorem dL_law_595 : decode cL_law 595 = .ok (.iload 5, 2) := by decide +kernel
theorem dL_law_597 : decode cL_law 597 = .ok (.if_icmp .eq 5, 3) := by decide +kernel
theorem dL_law_600 : decode cL_law 600 = .ok (.iconst 0, 1) := by decide +kernel
theorem dL_law_601 : decode cL_law 601 = .ok (.ireturn, 1) := by decide +kernel
theorem dL_law_602 : decode cL_law 602 = .ok (.iload 5, 2) := by decide +kernel
theorem dL_law_604 : decode cL_law 604 = .ok (.ifCond .ne 15, 3) := by decide +kernel
theorem dL_law_607 : decode cL_law 607 = .ok (.aload_n 3, 1) := by decide +kernel
theorem dL_law_608 : decode cL_law 608 = .ok (.iconst 0, 1) := by decide +kernel
theorem dL_law_609 : decode cL_law 609 = .ok (.laload, 1) := by decide +kernel
theorem dL_law_610 : decode cL_law 610 = .ok (.iload 6, 2) := by decide +kernel
theorem dL_law_612 : decode cL_law 612 = .ok (.i2l, 1) := by decide +kernel
theorem dL_law_613 : decode cL_law 613 = .ok (.lcmp, 1) := by decide +kernel
theorem dL_law_614 : decode cL_law 614 = .ok (.ifCond .eq 5, 3) := by decide +kernel
theorem dL_law_617 : decode cL_law 617 = .ok (.iconst 0, 1) := by decide +kernel
theorem dL_law_618 : decode cL_law 618 = .ok (.ireturn, 1) := by decide +kernel
theorem dL_law_619 : decode cL_law 619 = .ok (.goto 1233, 3) := by decide +kernel
theorem dL_law_622 : decode cL_law 622 = .ok (.aload_n 1, 1) := by decide +kernel
theorem dL_law_623 : decode cL_law 623 = .ok (.aload_n 0, 1) := by decide +kernel
theorem dL_law_624 : decode cL_law 624 = .ok (.iload 4, 2) := by decide +kernel
theorem dL_law_626 : decode cL_law 626 = .ok (.iconst 1, 1) := by decide +kernel
theorem dL_law_627 : decode cL_law 627 = .ok (.iadd, 1) := by decide +kernel
theorem dL_law_628 : decode cL_law 628 = .ok (.iaload, 1) := by decide +kernel
theorem dL_law_629 : decode cL_law 629 = .ok (.aload_n 0, 1) := by decide +kernel
theorem dL_law_630 : decode cL_law 630 = .ok (.iload 4, 2) := by decide +kernel
theorem dL_law_632 : decode cL_law 632 = .ok (.iconst 2, 1) := by decide +kernel
theorem dL_law_633 : decode cL_law 633 = .ok (.iadd, 1) := by decide +kernel
theorem dL_law_634 : decode cL_law 634 = .ok (.iaload, 1) := by decide +kernel
theorem dL_law_635 : decode cL_law 635 = .ok (.aload_n 0, 1) := by decide +kernel
theorem dL_law_636 : decode cL_law 636 = .ok (.iload 4, 2) := by decide +kernel
theorem dL_law_638 : decode cL_law 638 = .ok (.iconst 3, 1) := by decide +kernel
theorem dL_law_639 : decode cL_law 639 = .ok (.iadd, 1) := by decide +kernel
theorem dL_law_640 : decode cL_law 640 = .ok (.iaload, 1) := by decide +kernel
theorem dL_law_641 : decode cL_law 641 = .ok (.aload_n 3, 1) := by decide +kernel
theorem dL_law_642 : decode cL_law 642 = .ok (.invokestatic 134, 3) := by decide +kernel
theorem dL_law_645 : decode cL_law 645 = .ok (.istore 5, 2) := by decide +kernel
theorem dL_law_647 : decode cL_law 647 = .ok (.aload_n 2, 1) := by decide +kernel
theorem dL_law_648 : decode cL_law 648 = .ok (.aload_n 0, 1) := by decide +kernel
theorem dL_law_649 : decode cL_law 649 = .ok (.iload 4, 2) := by decide +kernel
theorem dL_law_651 : decode cL_law 651 = .ok (.iconst 1, 1) := by decide +kernel
theorem dL_law_652 : decode cL_law 652 = .ok (.iadd, 1) := by decide +kernel
theorem dL_law_653 : decode cL_law 653 = .ok (.iaload, 1) := by decide +kernel
theorem dL_law_654 : decode cL_law 654 = .ok (.aload_n 0, 1) := by decide +kernel
theorem dL_law_655 : decode cL_law 655 = .ok (.iload 4, 2) := by decide +kernel
theorem dL_law_657 : decode cL_law 657 = .ok (.iconst 2, 1) := by decide +kernel
theorem dL_law_658 : decode cL_law 658 = .ok (.iadd, 1) := by decide +kernel
theorem dL_law_659 : decode cL_law 659 = .ok (.iaload, 1) := by decide +kernel
theorem dL_law_660 : decode cL_law 660 = .ok (.aload_n 0, 1) := by decide +kernel
theorem dL_law_661 : decode cL_law 661 = .ok (.iload 4, 2) := by decide +kernel
theorem dL_law_663 : decode cL_law 663 = .ok (.iconst 3, 1) := by decide +kernel
theorem dL_law_664 : decode cL_law 664 = .ok (.iadd, 1) := by decide +kernel
theorem dL_law_665 : decode cL_law 665 = .ok (.iaload, 1) := by decide +kernel
theorem dL_law_666 : decode cL_law 666 = .ok (.invokevirtual 137, 3) := by decide +kernel
theorem dL_law_669 : decode cL_law 669 = .ok (.istore 6, 2) := by decide +kernel
theorem dL_law_671 : decode cL_law 671 = .ok (.aload_n 2, 1) := by decide +kernel
theorem dL_law_672 : decode cL_law 672 = .ok (.invokevirtual 103, 3) := by decide +kernel
theorem dL_law_675 : decode cL_law 675 = .ok (.iload 5, 2) := by decide +kernel
theorem dL_law_677 : decode cL_law 677 = .ok (.if_icmp .eq 5, 3) := by decide +kernel
theorem dL_law_680 : decode cL_law 680 = .ok (.iconst 0, 1) := by decide +kernel
theorem dL_law_681 : decode cL_law 681 = .ok (.ireturn, 1) := by decide +kernel
theorem dL_law_682 : decode cL_law 682 = .ok (.iload 5, 2) := by decide +kernel
theorem dL_law_684 : decode cL_law 684 = .ok (.ifCond .ne 15, 3) := by decide +kernel
theorem dL_law_687 : decode cL_law 687 = .ok (.aload_n 3, 1) := by decide +kernel
theorem dL_law_688 : decode cL_law 688 = .ok (.iconst 0, 1) := by decide +kernel
theorem dL_law_689 : decode cL_law 689 = .ok (.laload, 1) := by decide +kernel
theorem dL_law_690 : decode cL_law 690 = .ok (.iload 6, 2) := by decide +kernel
theorem dL_law_692 : decode cL_law 692 = .ok (.i2l, 1) := by decide +kernel
theorem dL_law_693 : decode cL_law 693 = .ok (.lcmp, 1) := by decide +kernel
theorem dL_law_694 : decode cL_law 694 = .ok (.ifCond .eq 5, 3) := by decide +kernel
theorem dL_law_697 : decode cL_law 697 = .ok (.iconst 0, 1) := by decide +kernel
theorem dL_law_698 : decode cL_law 698 = .ok (.ireturn, 1) := by decide +kernel
theorem dL_law_699 : decode cL_law 699 = .ok (.goto 1153, 3) := by decide +kernel
theorem dL_law_702 : decode cL_law 702 = .ok (.aload_n 1, 1) := by decide +kernel
theorem dL_law_703 : decode cL_law 703 = .ok (.aload_n 0, 1) := by decide +kernel
theorem dL_law_704 : decode cL_law 704 = .ok (.iload 4, 2) := by decide +kernel
theorem dL_law_706 : decode cL_law 706 = .ok (.iconst 1, 1) := by decide +kernel
theorem dL_law_707 : decode cL_law 707 = .ok (.iadd, 1) := by decide +kernel
theorem dL_law_708 : decode cL_law 708 = .ok (.iaload, 1) := by decide +kernel
theorem dL_law_709 : decode cL_law 709 = .ok (.aload_n 0, 1) := by decide +kernel
theorem dL_law_710 : decode cL_law 710 = .ok (.iload 4, 2) := by decide +kernel
theorem dL_law_712 : decode cL_law 712 = .ok (.iconst 2, 1) := by decide +kernel
theorem dL_law_713 : decode cL_law 713 = .ok (.iadd, 1) := by decide +kernel
theorem dL_law_714 : decode cL_law 714 = .ok (.iaload, 1) := by decide +kernel
theorem dL_law_715 : decode cL_law 715 = .ok (.aload_n 3, 1) := by decide +kernel
theorem dL_law_716 : decode cL_law 716 = .ok (.invokestatic 138, 3) := by decide +kernel
theorem dL_law_719 : decode cL_law 719 = .ok (.istore 5, 2) := by decide +kernel
theorem dL_law_721 : decode cL_law 721 = .ok (.aload_n 2, 1) := by decide +kernel
theorem dL_law_722 : decode cL_law 722 = .ok (.aload_n 0, 1) := by decide +kernel
theorem dL_law_723 : decode cL_law 723 = .ok (.iload 4, 2) := by decide +kernel
theorem dL_law_725 : decode cL_law 725 = .ok (.iconst 1, 1) := by decide +kernel
theorem dL_law_726 : decode cL_law 726 = .ok (.iadd, 1) := by decide +kernel
theorem dL_law_727 : decode cL_law 727 = .ok (.iaload, 1) := by decide +kernel
theorem dL_law_728 : decode cL_law 728 = .ok (.aload_n 0, 1) := by decide +kernel
theorem dL_law_729 : decode cL_law 729 = .ok (.iload 4, 2) := by decide +kernel
theorem dL_law_731 : decode cL_law 731 = .ok (.iconst 2, 1) := by decide +kernel
theorem dL_law_732 : decode cL_law 732 = .ok (.iadd, 1) := by decide +kernel
theorem dL_law_733 : decode cL_law 733 = .ok (.iaload, 1) := by decide +kernel
theorem dL_law_734 : decode cL_law 734 = .ok (.invokevirtual 140, 3) := by decide +kernel
theorem dL_law_737 : decode cL_law 737 = .ok (.istore 6, 2) := by decide +kernel
theorem dL_law_739 : decode cL_law 739 = .ok (.aload_n 2, 1) := by decide +kernel
theorem dL_law_740 : decode cL_law 740 = .ok (.invokevirtual 103, 3) := by decide +kernel
theorem dL_law_743 : decode cL_law 743 = .ok (.iload 5, 2) := by decide +kernel
theorem dL_law_745 : decode cL_law 745 = .ok (.if_icmp .eq 5, 3) := by decide +kernel
theorem dL_law_748 : decode cL_law 748 = .ok (.iconst 0, 1) := by decide +kernel
theorem dL_law_749 : decode cL_law 749 = .ok (.ireturn, 1) := by decide +kernel
theorem dL_law_750 : decode cL_law 750 = .ok (.iload 5, 2) := by decide +kernel
theorem dL_law_752 : decode cL_law 752 = .ok (.ifCond .ne 15, 3) := by decide +kernel
theorem dL_law_755 : decode cL_law 755 = .ok (.aload_n 3, 1) := by decide +kernel
theorem dL_law_756 : decode cL_law 756 = .ok (.iconst 0, 1) := by decide +kernel
theorem dL_law_757 : decode cL_law 757 = .ok (.laload, 1) := by decide +kernel
theorem dL_law_758 : decode cL_law 758 = .ok (.iload 6, 2) := by decide +kernel
theorem dL_law_760 : decode cL_law 760 = .ok (.i2l, 1) := by decide +kernel
theorem dL_law_761 : decode cL_law 761 = .ok (.lcmp, 1) := by decide +kernel
theorem dL_law_762 : decode cL_law 762 = .ok (.ifCond .eq 5, 3) := by decide +kernel
theorem dL_law_765 : decode cL_law 765 = .ok (.iconst 0, 1) := by decide +kernel
theorem dL_law_766 : decode cL_law 766 = .ok (.ireturn, 1) := by decide +kernel
theorem dL_law_767 : decode cL_law 767 = .ok (.goto 1085, 3) := by decide +kernel
theorem dL_law_770 : decode cL_law 770 = .ok (.aload_n 1, 1) := by decide +kernel
theorem dL_law_771 : decode cL_law 771 = .ok (.aload_n 0, 1) := by decide +kernel
theorem dL_law_772 : decode cL_law 772 = .ok (.iload 4, 2) := by decide +kernel
theorem dL_law_774 : decode cL_law 774 = .ok (.iconst 1, 1) := by decide +kernel
theorem dL_law_775 : decode cL_law 775 = .ok (.iadd, 1) := by decide +kernel
theorem dL_law_776 : decode cL_law 776 = .ok (.iaload, 1) := by decide +kernel
theorem dL_law_777 : decode cL_law 777 = .ok (.aload_n 0, 1) := by decide +kernel
theorem dL_law_778 : decode cL_law 778 = .ok (.iload 4, 2) := by decide +kernel
theorem dL_law_780 : decode cL_law 780 = .ok (.iconst 2, 1) := by decide +kernel
theorem dL_law_781 : decode cL_law 781 = .ok (.iadd, 1) := by decide +kernel
theorem dL_law_782 : decode cL_law 782 = .ok (.iaload, 1) := by decide +kernel
theorem dL_law_783 : decode cL_law 783 = .ok (.aload_n 3, 1) := by decide +kernel
theorem dL_law_784 : decode cL_law 784 = .ok (.invokestatic 141, 3) := by decide +kernel
theorem dL_law_787 : decode cL_law 787 = .ok (.istore 5, 2) := by decide +kernel
theorem dL_law_789 : decode cL_law 789 = .ok (.aload_n 2, 1) := by decide +kernel
theorem dL_law_790 : decode cL_law 790 = .ok (.aload_n 0, 1) := by decide +kernel
theorem dL_law_791 : decode cL_law 791 = .ok (.iload 4, 2) := by decide +kernel
theorem dL_law_793 : decode cL_law 793 = .ok (.iconst 1, 1) := by decide +kernel
theorem dL_law_794 : decode cL_law 794 = .ok (.iadd, 1) := by decide +kernel
theorem dL_law_795 : decode cL_law 795 = .ok (.iaload, 1) := by decide +kernel
theorem dL_law_796 : decode cL_law 796 = .ok (.aload_n 0, 1) := by decide +kernel
theorem dL_law_797 : decode cL_law 797 = .ok (.iload 4, 2) := by decide +kernel
theorem dL_law_799 : decode cL_law 799 = .ok (.iconst 2, 1) := by decide +kernel
theorem dL_law_800 : decode cL_law 800 = .ok (.iadd, 1) := by decide +kernel
theorem dL_law_801 : decode cL_law 801 = .ok (.iaload, 1) := by decide +kernel
theorem dL_law_802 : decode cL_law 802 = .ok (.invokevirtual 143, 3) := by decide +kernel
theorem dL_law_805 : decode cL_law 805 = .ok (.istore 6, 2) := by decide +kernel
theorem dL_law_807 : decode cL_law 807 = .ok (.aload_n 2, 1) := by decide +kernel
theorem dL_law_808 : decode cL_law 808 = .ok (.invokevirtual 103, 3) := by decide +kernel
theorem dL_law_811 : decode cL_law 811 = .ok (.iload 5, 2) := by decide +kernel
theorem dL_law_813 : decode cL_law 813 = .ok (.if_icmp .eq 5, 3) := by decide +kernel
theorem dL_law_816 : decode cL_law 816 = .ok (.iconst 0, 1) := by decide +kernel
theorem dL_law_817 : decode cL_law 817 = .ok (.ireturn, 1) := by decide +kernel
theorem dL_law_818 : decode cL_law 818 = .ok (.iload 5, 2) := by decide +kernel
theorem dL_law_820 : decode cL_law 820 = .ok (.ifCond .ne 15, 3) := by decide +kernel
theorem dL_law_823 : decode cL_law 823 = .ok (.aload_n 3, 1) := by decide +kernel
theorem dL_law_824 : decode cL_law 824 = .ok (.iconst 0, 1) := by decide +kernel
theorem dL_law_825 : decode cL_law 825 = .ok (.laload, 1) := by decide +kernel
theorem dL_law_826 : decode cL_law 826 = .ok (.iload 6, 2) := by decide +kernel
theorem dL_law_828 : decode cL_law 828 = .ok (.i2l, 1) := by decide +kernel
theorem dL_law_829 : decode cL_law 829 = .ok (.lcmp, 1) := by decide +kernel
theorem dL_law_830 : decode cL_law 830 = .ok (.ifCond .eq 5, 3) := by decide +kernel
theorem dL_law_833 : decode cL_law 833 = .ok (.iconst 0, 1) := by decide +kernel
theorem dL_law_834 : decode cL_law 834 = .ok (.ireturn, 1) := by decide +kernel
theorem dL_law_835 : decode cL_law 835 = .ok (.goto 1017, 3) := by decide +kernel
theorem dL_law_838 : decode cL_law 838 = .ok (.aload_n 1, 1) := by decide +kernel
theorem dL_law_839 : decode cL_law 839 = .ok (.aload_n 0, 1) := by decide +kernel
theorem dL_law_840 : decode cL_law 840 = .ok (.iload 4, 2) := by decide +kernel
theorem dL_law_842 : decode cL_law 842 = .ok (.iconst 1, 1) := by decide +kernel
theorem dL_law_843 : decode cL_law 843 = .ok (.iadd, 1) := by decide +kernel
theorem dL_law_844 : decode cL_law 844 = .ok (.iaload, 1) := by decide +kernel
theorem dL_law_845 : decode cL_law 845 = .ok (.aload_n 3, 1) := by decide +kernel
theorem dL_law_846 : decode cL_law 846 = .ok (.invokestatic 144, 3) := by decide +kernel
theorem dL_law_849 : decode cL_law 849 = .ok (.istore 5, 2) := by decide +kernel
theorem dL_law_851 : decode cL_law 851 = .ok (.aload_n 2, 1) := by decide +kernel
theorem dL_law_852 : decode cL_law 852 = .ok (.aload_n 0, 1) := by decide +kernel
theorem dL_law_853 : decode cL_law 853 = .ok (.iload 4, 2) := by decide +kernel
theorem dL_law_855 : decode cL_law 855 = .ok (.iconst 1, 1) := by decide +kernel
theorem dL_law_856 : decode cL_law 856 = .ok (.iadd, 1) := by decide +kernel
theorem dL_law_857 : decode cL_law 857 = .ok (.iaload, 1) := by decide +kernel
theorem dL_law_858 : decode cL_law 858 = .ok (.invokevirtual 146, 3) := by decide +kernel
theorem dL_law_861 : decode cL_law 861 = .ok (.istore 6, 2) := by decide +kernel
theorem dL_law_863 : decode cL_law 863 = .ok (.aload_n 2, 1) := by decide +kernel
theorem dL_law_864 : decode cL_law 864 = .ok (.invokevirtual 103, 3) := by decide +kernel
theorem dL_law_867 : decode cL_law 867 = .ok (.iload 5, 2) := by decide +kernel
theorem dL_law_869 : decode cL_law 869 = .ok (.if_icmp .eq 5, 3) := by decide +kernel
theorem dL_law_872 : decode cL_law 872 = .ok (.iconst 0, 1) := by decide +kernel
theorem dL_law_873 : decode cL_law 873 = .ok (.ireturn, 1) := by decide +kernel
theorem dL_law_874 : decode cL_law 874 = .ok (.iload 5, 2) := by decide +kernel
theorem dL_law_876 : decode cL_law 876 = .ok (.ifCond .ne 15, 3) := by decide +kernel
theorem dL_law_879 : decode cL_law 879 = .ok (.aload_n 3, 1) := by decide +kernel
theorem dL_law_880 : decode cL_law 880 = .ok (.iconst 0, 1) := by decide +kernel
theorem dL_law_881 : decode cL_law 881 = .ok (.laload, 1) := by decide +kernel
theorem dL_law_882 : decode cL_law 882 = .ok (.iload 6, 2) := by decide +kernel
theorem dL_law_884 : decode cL_law 884 = .ok (.i2l, 1) := by decide +kernel
theorem dL_law_885 : decode cL_law 885 = .ok (.lcmp, 1) := by decide +kernel
theorem dL_law_886 : decode cL_law 886 = .ok (.ifCond .eq 5, 3) := by decide +kernel
theorem dL_law_889 : decode cL_law 889 = .ok (.iconst 0, 1) := by decide +kernel
theorem dL_law_890 : decode cL_law 890 = .ok (.ireturn, 1) := by decide +kernel
theorem dL_law_891 : decode cL_law 891 = .ok (.goto 961, 3) := by decide +kernel
theorem dL_law_894 : decode cL_law 894 = .ok (.aload_n 1, 1) := by decide +kernel
theorem dL_law_895 : decode cL_law 895 = .ok (.aload_n 0, 1) := by decide +kernel
theorem dL_law_896 : decode cL_law 896 = .ok (.iload 4, 2) := by decide +kernel
theorem dL_law_898 : decode cL_law 898 = .ok (.iconst 1, 1) := by decide +kernel
theorem dL_law_899 : decode cL_law 899 = .ok (.iadd, 1) := by decide +kernel
theorem dL_law_900 : decode cL_law 900 = .ok (.iaload, 1) := by decide +kernel
theorem dL_law_901 : decode cL_law 901 = .ok (.aload_n 0, 1) := by decide +kernel
theorem dL_law_902 : decode cL_law 902 = .ok (.iload 4, 2) := by decide +kernel
theorem dL_law_904 : decode cL_law 904 = .ok (.iconst 2, 1) := by decide +kernel
theorem dL_law_905 : decode cL_law 905 = .ok (.iadd, 1) := by decide +kernel
theorem dL_law_906 : decode cL_law 906 = .ok (.iaload, 1) := by decide +kernel
theorem dL_law_907 : decode cL_law 907 = .ok (.aload_n 0, 1) := by decide +kernel
theorem dL_law_908 : decode cL_law 908 = .ok (.iload 4, 2) := by decide +kernel
theorem dL_law_910 : decode cL_law 910 = .ok (.iconst 3, 1) := by decide +kernel
theorem dL_law_911 : decode cL_law 911 = .ok (.iadd, 1) := by decide +kernel
theorem dL_law_912 : decode cL_law 912 = .ok (.iaload, 1) := by decide +kernel
theorem dL_law_913 : decode cL_law 913 = .ok (.aload_n 3, 1) := by decide +kernel
theorem dL_law_914 : decode cL_law 914 = .ok (.invokestatic 147, 3) := by decide +kernel
theorem dL_law_917 : decode cL_law 917 = .ok (.istore 5, 2) := by decide +kernel
theorem dL_law_919 : decode cL_law 919 = .ok (.aload_n 2, 1) := by decide +kernel
theorem dL_law_920 : decode cL_law 920 = .ok (.aload_n 0, 1) := by decide +kernel
theorem dL_law_921 : decode cL_law 921 = .ok (.iload 4, 2) := by decide +kernel
theorem dL_law_923 : decode cL_law 923 = .ok (.iconst 1, 1) := by decide +kernel
theorem dL_law_924 : decode cL_law 924 = .ok (.iadd, 1) := by decide +kernel
theorem dL_law_925 : decode cL_law 925 = .ok (.iaload, 1) := by decide +kernel
theorem dL_law_926 : decode cL_law 926 = .ok (.aload_n 0, 1) := by decide +kernel
theorem dL_law_927 : decode cL_law 927 = .ok (.iload 4, 2) := by decide +kernel
theorem dL_law_929 : decode cL_law 929 = .ok (.iconst 2, 1) := by decide +kernel
theorem dL_law_930 : decode cL_law 930 = .ok (.iadd, 1) := by decide +kernel
theorem dL_law_931 : decode cL_law 931 = .ok (.iaload, 1) := by decide +kernel
theorem dL_law_932 : decode cL_law 932 = .ok (.aload_n 0, 1) := by decide +kernel
theorem dL_law_933 : decode cL_law 933 = .ok (.iload 4, 2) := by decide +kernel
theorem dL_law_935 : decode cL_law 935 = .ok (.iconst 3, 1) := by decide +kernel
theorem dL_law_936 : decode cL_law 936 = .ok (.iadd, 1) := by decide +kernel
theorem dL_law_937 : decode cL_law 937 = .ok (.iaload, 1) := by decide +kernel
theorem dL_law_938 : decode cL_law 938 = .ok (.invokevirtual 149, 3) := by decide +kernel
theorem dL_law_941 : decode cL_law 941 = .ok (.istore 6, 2) := by decide +kernel
theorem dL_law_943 : decode cL_law 943 = .ok (.aload_n 2, 1) := by decide +kernel
theorem dL_law_944 : decode cL_law 944 = .ok (.invokevirtual 103, 3) := by decide +kernel
theorem dL_law_947 : decode cL_law 947 = .ok (.iload 5, 2) := by decide +kernel
theorem dL_law_949 : decode cL_law 949 = .ok (.if_icmp .eq 5, 3) := by decide +kernel
theorem dL_law_952 : decode cL_law 952 = .ok (.iconst 0, 1) := by decide +kernel
theorem dL_law_953 : decode cL_law 953 = .ok (.ireturn, 1) := by decide +kernel
theorem dL_law_954 : decode cL_law 954 = .ok (.iload 5, 2) := by decide +kernel
theorem dL_law_956 : decode cL_law 956 = .ok (.ifCond .ne 15, 3) := by decide +kernel
theorem dL_law_959 : decode cL_law 959 = .ok (.aload_n 3, 1) := by decide +kernel
theorem dL_law_960 : decode cL_law 960 = .ok (.iconst 0, 1) := by decide +kernel
theorem dL_law_961 : decode cL_law 961 = .ok (.laload, 1) := by decide +kernel
theorem dL_law_962 : decode cL_law 962 = .ok (.iload 6, 2) := by decide +kernel
theorem dL_law_964 : decode cL_law 964 = .ok (.i2l, 1) := by decide +kernel
theorem dL_law_965 : decode cL_law 965 = .ok (.lcmp, 1) := by decide +kernel
theorem dL_law_966 : decode cL_law 966 = .ok (.ifCond .eq 5, 3) := by decide +kernel
theorem dL_law_969 : decode cL_law 969 = .ok (.iconst 0, 1) := by decide +kernel
theorem dL_law_970 : decode cL_law 970 = .ok (.ireturn, 1) := by decide +kernel
theorem dL_law_971 : decode cL_law 971 = .ok (.goto 881, 3) := by decide +kernel
theorem dL_law_974 : decode cL_law 974 = .ok (.aload_n 1, 1) := by decide +kernel
theorem dL_law_975 : decode cL_law 975 = .ok (.aload_n 0, 1) := by decide +kernel
theorem dL_law_976 : decode cL_law 976 = .ok (.iload 4, 2) := by decide +kernel
theorem dL_law_978 : decode cL_law 978 = .ok (.iconst 1, 1) := by decide +kernel
theorem dL_law_979 : decode cL_law 979 = .ok (.iadd, 1) := by decide +kernel
theorem dL_law_980 : decode cL_law 980 = .ok (.iaload, 1) := by decide +kernel
theorem dL_law_981 : decode cL_law 981 = .ok (.aload_n 3, 1) := by decide +kernel
theorem dL_law_982 : decode cL_law 982 = .ok (.invokestatic 150, 3) := by decide +kernel
theorem dL_law_985 : decode cL_law 985 = .ok (.istore 5, 2) := by decide +kernel
theorem dL_law_987 : decode cL_law 987 = .ok (.aload_n 2, 1) := by decide +kernel
theorem dL_law_988 : decode cL_law 988 = .ok (.aload_n 0, 1) := by decide +kernel
theorem dL_law_989 : decode cL_law 989 = .ok (.iload 4, 2) := by decide +kernel
theorem dL_law_991 : decode cL_law 991 = .ok (.iconst 1, 1) := by decide +kernel
theorem dL_law_992 : decode cL_law 992 = .ok (.iadd, 1) := by decide +kernel
theorem dL_law_993 : decode cL_law 993 = .ok (.iaload, 1) := by decide +kernel
theorem dL_law_994 : decode cL_law 994 = .ok (.invokevirtual 152, 3) := by decide +kernel
theorem dL_law_997 : decode cL_law 997 = .ok (.istore 6, 2) := by decide +kernel
theorem dL_law_999 : decode cL_law 999 = .ok (.aload_n 2, 1) := by decide +kernel
theorem dL_law_1000 : decode cL_law 1000 = .ok (.invokevirtual 103, 3) := by decide +kernel
theorem dL_law_1003 : decode cL_law 1003 = .ok (.iload 5, 2) := by decide +kernel
theorem dL_law_1005 : decode cL_law 1005 = .ok (.if_icmp .eq 5, 3) := by decide +kernel
theorem dL_law_1008 : decode cL_law 1008 = .ok (.iconst 0, 1) := by decide +kernel
theorem dL_law_1009 : decode cL_law 1009 = .ok (.ireturn, 1) := by decide +kernel
theorem dL_law_1010 : decode cL_law 1010 = .ok (.iload 5, 2) := by decide +kernel
theorem dL_law_1012 : decode cL_law 1012 = .ok (.ifCond .ne 15, 3) := by decide +kernel
theorem dL_law_1015 : decode cL_law 1015 = .ok (.aload_n 3, 1) := by decide +kernel
theorem dL_law_1016 : decode cL_law 1016 = .ok (.iconst 0, 1) := by decide +kernel
theorem dL_law_1017 : decode cL_law 1017 = .ok (.laload, 1) := by decide +kernel
theorem dL_law_1018 : decode cL_law 1018 = .ok (.iload 6, 2) := by decide +kernel
theorem dL_law_1020 : decode cL_law 1020 = .ok (.i2l, 1) := by decide +kernel
theorem dL_law_1021 : decode cL_law 1021 = .ok (.lcmp, 1) := by decide +kernel
theorem dL_law_1022 : decode cL_law 1022 = .ok (.ifCond .eq 5, 3) := by decide +kernel
theorem dL_law_1025 : decode cL_law 1025 = .ok (.iconst 0, 1) := by decide +kernel
theorem dL_law_1026 : decode cL_law 1026 = .ok (.ireturn, 1) := by decide +kernel
theorem dL_law_1027 : decode cL_law 1027 = .ok (.goto 825, 3) := by decide +kernel
theorem dL_law_1030 : decode cL_law 1030 = .ok (.aload_n 1, 1) := by decide +kernel
theorem dL_law_1031 : decode cL_law 1031 = .ok (.aload_n 0, 1) := by decide +kernel
theorem dL_law_1032 : decode cL_law 1032 = .ok (.iload 4, 2) := by decide +kernel
theorem dL_law_1034 : decode cL_law 1034 = .ok (.iconst 1, 1) := by decide +kernel
theorem dL_law_1035 : decode cL_law 1035 = .ok (.iadd, 1) := by decide +kernel
theorem dL_law_1036 : decode cL_law 1036 = .ok (.iaload, 1) := by decide +kernel
theorem dL_law_1037 : decode cL_law 1037 = .ok (.aload_n 0, 1) := by decide +kernel
theorem dL_law_1038 : decode cL_law 1038 = .ok (.iload 4, 2) := by decide +kernel
theorem dL_law_1040 : decode cL_law 1040 = .ok (.iconst 2, 1) := by decide +kernel
theorem dL_law_1041 : decode cL_law 1041 = .ok (.iadd, 1) := by decide +kernel
theorem dL_law_1042 : decode cL_law 1042 = .ok (.iaload, 1) := by decide +kernel
theorem dL_law_1043 : decode cL_law 1043 = .ok (.aload_n 0, 1) := by decide +kernel
theorem dL_law_1044 : decode cL_law 1044 = .ok (.iload 4, 2) := by decide +kernel
theorem dL_law_1046 : decode cL_law 1046 = .ok (.iconst 3, 1) := by decide +kernel
theorem dL_law_1047 : decode cL_law 1047 = .ok (.iadd, 1) := by decide +kernel
theorem dL_law_1048 : decode cL_law 1048 = .ok (.iaload, 1) := by decide +kernel
theorem dL_law_1049 : decode cL_law 1049 = .ok (.aload_n 3, 1) := by decide +kernel
theorem dL_law_1050 : decode cL_law 1050 = .ok (.invokestatic 153, 3) := by decide +kernel
theorem dL_law_1053 : decode cL_law 1053 = .ok (.istore 5, 2) := by decide +kernel
theorem dL_law_1055 : decode cL_law 1055 = .ok (.aload_n 2, 1) := by decide +kernel
theorem dL_law_1056 : decode cL_law 1056 = .ok (.aload_n 0, 1) := by decide +kernel
theorem dL_law_1057 : decode cL_law 1057 = .ok (.iload 4, 2) := by decide +kernel
theorem dL_law_1059 : decode cL_law 1059 = .ok (.iconst 1, 1) := by decide +kernel
theorem dL_law_1060 : decode cL_law 1060 = .ok (.iadd, 1) := by decide +kernel
theorem dL_law_1061 : decode cL_law 1061 = .ok (.iaload, 1) := by decide +kernel
theorem dL_law_1062 : decode cL_law 1062 = .ok (.aload_n 0, 1) := by decide +kernel
theorem dL_law_1063 : decode cL_law 1063 = .ok (.iload 4, 2) := by decide +kernel
theorem dL_law_1065 : decode cL_law 1065 = .ok (.iconst 2, 1) := by decide +kernel
theorem dL_law_1066 : decode cL_law 1066 = .ok (.iadd, 1) := by decide +kernel
theorem dL_law_1067 : decode cL_law 1067 = .ok (.iaload, 1) := by decide +kernel
theorem dL_law_1068 : decode cL_law 1068 = .ok (.aload_n 0, 1) := by decide +kernel
theorem dL_law_1069 : decode cL_law 1069 = .ok (.iload 4, 2) := by decide +kernel
theorem dL_law_1071 : decode cL_law 1071 = .ok (.iconst 3, 1) := by decide +kernel
theorem dL_law_1072 : decode cL_law 1072 = .ok (.iadd, 1) := by decide +kernel
theorem dL_law_1073 : decode cL_law 1073 = .ok (.iaload, 1) := by decide +kernel
theorem dL_law_1074 : decode cL_law 1074 = .ok (.invokevirtual 155, 3) := by decide +kernel
theorem dL_law_1077 : decode cL_law 1077 = .ok (.istore 6, 2) := by decide +kernel
theorem dL_law_1079 : decode cL_law 1079 = .ok (.aload_n 2, 1) := by decide +kernel
theorem dL_law_1080 : decode cL_law 1080 = .ok (.invokevirtual 103, 3) := by decide +kernel
theorem dL_law_1083 : decode cL_law 1083 = .ok (.iload 5, 2) := by decide +kernel
theorem dL_law_1085 : decode cL_law 1085 = .ok (.if_icmp .eq 5, 3) := by decide +kernel
theorem dL_law_1088 : decode cL_law 1088 = .ok (.iconst 0, 1) := by decide +kernel
theorem dL_law_1089 : decode cL_law 1089 = .ok (.ireturn, 1) := by decide +kernel
theorem dL_law_1090 : decode cL_law 1090 = .ok (.iload 5, 2) := by decide +kernel
theorem dL_law_1092 : decode cL_law 1092 = .ok (.ifCond .ne 15, 3) := by decide +kernel
theorem dL_law_1095 : decode cL_law 1095 = .ok (.aload_n 3, 1) := by decide +kernel
theorem dL_law_1096 : decode cL_law 1096 = .ok (.iconst 0, 1) := by decide +kernel
theorem dL_law_1097 : decode cL_law 1097 = .ok (.laload, 1) := by decide +kernel
theorem dL_law_1098 : decode cL_law 1098 = .ok (.iload 6, 2) := by decide +kernel
theorem dL_law_1100 : decode cL_law 1100 = .ok (.i2l, 1) := by decide +kernel
theorem dL_law_1101 : decode cL_law 1101 = .ok (.lcmp, 1) := by decide +kernel
theorem dL_law_1102 : decode cL_law 1102 = .ok (.ifCond .eq 5, 3) := by decide +kernel
theorem dL_law_1105 : decode cL_law 1105 = .ok (.iconst 0, 1) := by decide +kernel
theorem dL_law_1106 : decode cL_law 1106 = .ok (.ireturn, 1) := by decide +kernel
theorem dL_law_1107 : decode cL_law 1107 = .ok (.goto 745, 3) := by decide +kernel
theorem dL_law_1110 : decode cL_law 1110 = .ok (.aload_n 1, 1) := by decide +kernel
theorem dL_law_1111 : decode cL_law 1111 = .ok (.aload_n 0, 1) := by decide +kernel
theorem dL_law_1112 : decode cL_law 1112 = .ok (.iload 4, 2) := by decide +kernel
theorem dL_law_1114 : decode cL_law 1114 = .ok (.iconst 1, 1) := by decide +kernel
theorem dL_law_1115 : decode cL_law 1115 = .ok (.iadd, 1) := by decide +kernel
theorem dL_law_1116 : decode cL_law 1116 = .ok (.iaload, 1) := by decide +kernel
theorem dL_law_1117 : decode cL_law 1117 = .ok (.aload_n 3, 1) := by decide +kernel
theorem dL_law_1118 : decode cL_law 1118 = .ok (.invokestatic 156, 3) := by decide +kernel
theorem dL_law_1121 : decode cL_law 1121 = .ok (.istore 5, 2) := by decide +kernel
theorem dL_law_1123 : decode cL_law 1123 = .ok (.aload_n 2, 1) := by decide +kernel
theorem dL_law_1124 : decode cL_law 1124 = .ok (.aload_n 0, 1) := by decide +kernel
theorem dL_law_1125 : decode cL_law 1125 = .ok (.iload 4, 2) := by decide +kernel
theorem dL_law_1127 : decode cL_law 1127 = .ok (.iconst 1, 1) := by decide +kernel
theorem dL_law_1128 : decode cL_law 1128 = .ok (.iadd, 1) := by decide +kernel
theorem dL_law_1129 : decode cL_law 1129 = .ok (.iaload, 1) := by decide +kernel
theorem dL_law_1130 : decode cL_law 1130 = .ok (.invokevirtual 158, 3) := by decide +kernel
theorem dL_law_1133 : decode cL_law 1133 = .ok (.istore 6, 2) := by decide +kernel
theorem dL_law_1135 : decode cL_law 1135 = .ok (.aload_n 2, 1) := by decide +kernel
theorem dL_law_1136 : decode cL_law 1136 = .ok (.invokevirtual 103, 3) := by decide +kernel
theorem dL_law_1139 : decode cL_law 1139 = .ok (.iload 5, 2) := by decide +kernel
theorem dL_law_1141 : decode cL_law 1141 = .ok (.if_icmp .eq 5, 3) := by decide +kernel
theorem dL_law_1144 : decode cL_law 1144 = .ok (.iconst 0, 1) := by decide +kernel
theorem dL_law_1145 : decode cL_law 1145 = .ok (.ireturn, 1) := by decide +kernel
theorem dL_law_1146 : decode cL_law 1146 = .ok (.iload 5, 2) := by decide +kernel
theorem dL_law_1148 : decode cL_law 1148 = .ok (.ifCond .ne 15, 3) := by decide +kernel
theorem dL_law_1151 : decode cL_law 1151 = .ok (.aload_n 3, 1) := by decide +kernel
theorem dL_law_1152 : decode cL_law 1152 = .ok (.iconst 0, 1) := by decide +kernel
theorem dL_law_1153 : decode cL_law 1153 = .ok (.laload, 1) := by decide +kernel
theorem dL_law_1154 : decode cL_law 1154 = .ok (.iload 6, 2) := by decide +kernel
theorem dL_law_1156 : decode cL_law 1156 = .ok (.i2l, 1) := by decide +kernel
theorem dL_law_1157 : decode cL_law 1157 = .ok (.lcmp, 1) := by decide +kernel
theorem dL_law_1158 : decode cL_law 1158 = .ok (.ifCond .eq 5, 3) := by decide +kernel
theorem dL_law_1161 : decode cL_law 1161 = .ok (.iconst 0, 1) := by decide +kernel
theorem dL_law_1162 : decode cL_law 1162 = .ok (.ireturn, 1) := by decide +kernel
theorem dL_law_1163 : decode cL_law 1163 = .ok (.goto 689, 3) := by decide +kernel
theorem dL_law_1166 : decode cL_law 1166 = .ok (.aload_n 1, 1) := by decide +kernel
theorem dL_law_1167 : decode cL_law 1167 = .ok (.aload_n 0, 1) := by decide +kernel
theorem dL_law_1168 : decode cL_law 1168 = .ok (.iload 4, 2) := by decide +kernel
theorem dL_law_1170 : decode cL_law 1170 = .ok (.iconst 1, 1) := by decide +kernel
theorem dL_law_1171 : decode cL_law 1171 = .ok (.iadd, 1) := by decide +kernel
theorem dL_law_1172 : decode cL_law 1172 = .ok (.iaload, 1) := by decide +kernel
theorem dL_law_1173 : decode cL_law 1173 = .ok (.aload_n 3, 1) := by decide +kernel
theorem dL_law_1174 : decode cL_law 1174 = .ok (.invokestatic 159, 3) := by decide +kernel
theorem dL_law_1177 : decode cL_law 1177 = .ok (.istore 5, 2) := by decide +kernel
theorem dL_law_1179 : decode cL_law 1179 = .ok (.aload_n 2, 1) := by decide +kernel
theorem dL_law_1180 : decode cL_law 1180 = .ok (.aload_n 0, 1) := by decide +kernel
theorem dL_law_1181 : decode cL_law 1181 = .ok (.iload 4, 2) := by decide +kernel
theorem dL_law_1183 : decode cL_law 1183 = .ok (.iconst 1, 1) := by decide +kernel
theorem dL_law_1184 : decode cL_law 1184 = .ok (.iadd, 1) := by decide +kernel
theorem dL_law_1185 : decode cL_law 1185 = .ok (.iaload, 1) := by decide +kernel
theorem dL_law_1186 : decode cL_law 1186 = .ok (.invokevirtual 161, 3) := by decide +kernel
theorem dL_law_1189 : decode cL_law 1189 = .ok (.istore 6, 2) := by decide +kernel
theorem dL_law_1191 : decode cL_law 1191 = .ok (.aload_n 2, 1) := by decide +kernel
theorem dL_law_1192 : decode cL_law 1192 = .ok (.invokevirtual 103, 3) := by decide +kernel
theorem dL_law_1195 : decode cL_law 1195 = .ok (.iload 5, 2) := by decide +kernel
theorem dL_law_1197 : decode cL_law 1197 = .ok (.if_icmp .eq 5, 3) := by decide +kernel
theorem dL_law_1200 : decode cL_law 1200 = .ok (.iconst 0, 1) := by decide +kernel
theorem dL_law_1201 : decode cL_law 1201 = .ok (.ireturn, 1) := by decide +kernel
theorem dL_law_1202 : decode cL_law 1202 = .ok (.iload 5, 2) := by decide +kernel
theorem dL_law_1204 : decode cL_law 1204 = .ok (.ifCond .ne 15, 3) := by decide +kernel
theorem dL_law_1207 : decode cL_law 1207 = .ok (.aload_n 3, 1) := by decide +kernel
theorem dL_law_1208 : decode cL_law 1208 = .ok (.iconst 0, 1) := by decide +kernel
theorem dL_law_1209 : decode cL_law 1209 = .ok (.laload, 1) := by decide +kernel
theorem dL_law_1210 : decode cL_law 1210 = .ok (.iload 6, 2) := by decide +kernel
theorem dL_law_1212 : decode cL_law 1212 = .ok (.i2l, 1) := by decide +kernel
theorem dL_law_1213 : decode cL_law 1213 = .ok (.lcmp, 1) := by decide +kernel
theorem dL_law_1214 : decode cL_law 1214 = .ok (.ifCond .eq 5, 3) := by decide +kernel
theorem dL_law_1217 : decode cL_law 1217 = .ok (.iconst 0, 1) := by decide +kernel
theorem dL_law_1218 : decode cL_law 1218 = .ok (.ireturn, 1) := by decide +kernel
theorem dL_law_1219 : decode cL_law 1219 = .ok (.goto 633, 3) := by decide +kernel
theorem dL_law_1222 : decode cL_law 1222 = .ok (.aload_n 1, 1) := by decide +kernel
theorem dL_law_1223 : decode cL_law 1223 = .ok (.invokevirtual 162, 3) := by decide +kernel
theorem dL_law_1226 : decode cL_law 1226 = .ok (.aload_n 2, 1) := by decide +kernel
theorem dL_law_1227 : decode cL_law 1227 = .ok (.invokevirtual 165, 3) := by decide +kernel
theorem dL_law_1230 : decode cL_law 1230 = .ok (.if_icmp .eq 622, 3) := by decide +kernel
theorem dL_law_1233 : decode cL_law 1233 = .ok (.iconst 0, 1) := by decide +kernel
theorem dL_law_1234 : decode cL_law 1234 = .ok (.ireturn, 1) := by decide +kernel
theorem dL_law_1235 : decode cL_law 1235 = .ok (.aload_n 1, 1) := by decide +kernel
theorem dL_law_1236 : decode cL_law 1236 = .ok (.aload_n 0, 1) := by decide +kernel
theorem dL_law_1237 : decode cL_law 1237 = .ok (.iload 4, 2) := by decide +kernel
theorem dL_law_1239 : decode cL_law 1239 = .ok (.iconst 1, 1) := by decide +kernel
theorem dL_law_1240 : decode cL_law 1240 = .ok (.iadd, 1) := by decide +kernel
theorem dL_law_1241 : decode cL_law 1241 = .ok (.iaload, 1) := by decide +kernel
theorem dL_law_1242 : decode cL_law 1242 = .ok (.ifCond .eq 7, 3) := by decide +kernel
theorem dL_law_1245 : decode cL_law 1245 = .ok (.iconst 1, 1) := by decide +kernel
theorem dL_law_1246 : decode cL_law 1246 = .ok (.goto 4, 3) := by decide +kernel
theorem dL_law_1249 : decode cL_law 1249 = .ok (.iconst 0, 1) := by decide +kernel
theorem dL_law_1250 : decode cL_law 1250 = .ok (.invokevirtual 166, 3) := by decide +kernel
theorem dL_law_1253 : decode cL_law 1253 = .ok (.aload_n 2, 1) := by decide +kernel
theorem dL_law_1254 : decode cL_law 1254 = .ok (.aload_n 0, 1) := by decide +kernel
theorem dL_law_1255 : decode cL_law 1255 = .ok (.iload 4, 2) := by decide +kernel
theorem dL_law_1257 : decode cL_law 1257 = .ok (.iconst 1, 1) := by decide +kernel
theorem dL_law_1258 : decode cL_law 1258 = .ok (.iadd, 1) := by decide +kernel
theorem dL_law_1259 : decode cL_law 1259 = .ok (.iaload, 1) := by decide +kernel
theorem dL_law_1260 : decode cL_law 1260 = .ok (.ifCond .eq 7, 3) := by decide +kernel
theorem dL_law_1263 : decode cL_law 1263 = .ok (.iconst 1, 1) := by decide +kernel
theorem dL_law_1264 : decode cL_law 1264 = .ok (.goto 4, 3) := by decide +kernel
theorem dL_law_1267 : decode cL_law 1267 = .ok (.iconst 0, 1) := by decide +kernel
theorem dL_law_1268 : decode cL_law 1268 = .ok (.invokevirtual 170, 3) := by decide +kernel
theorem dL_law_1271 : decode cL_law 1271 = .ok (.if_icmp .eq 581, 3) := by decide +kernel
theorem dL_law_1274 : decode cL_law 1274 = .ok (.iconst 0, 1) := by decide +kernel
theorem dL_law_1275 : decode cL_law 1275 = .ok (.ireturn, 1) := by decide +kernel
theorem dL_law_1276 : decode cL_law 1276 = .ok (.aload_n 1, 1) := by decide +kernel
theorem dL_law_1277 : decode cL_law 1277 = .ok (.aload_n 3, 1) := by decide +kernel
theorem dL_law_1278 : decode cL_law 1278 = .ok (.invokestatic 171, 3) := by decide +kernel
theorem dL_law_1281 : decode cL_law 1281 = .ok (.istore 5, 2) := by decide +kernel
theorem dL_law_1283 : decode cL_law 1283 = .ok (.aload_n 2, 1) := by decide +kernel
theorem dL_law_1284 : decode cL_law 1284 = .ok (.invokevirtual 173, 3) := by decide +kernel
theorem dL_law_1287 : decode cL_law 1287 = .ok (.istore 6, 2) := by decide +kernel
theorem dL_law_1289 : decode cL_law 1289 = .ok (.aload_n 2, 1) := by decide +kernel
theorem dL_law_1290 : decode cL_law 1290 = .ok (.invokevirtual 103, 3) := by decide +kernel
theorem dL_law_1293 : decode cL_law 1293 = .ok (.iload 5, 2) := by decide +kernel
theorem dL_law_1295 : decode cL_law 1295 = .ok (.if_icmp .eq 5, 3) := by decide +kernel
theorem dL_law_1298 : decode cL_law 1298 = .ok (.iconst 0, 1) := by decide +kernel
theorem dL_law_1299 : decode cL_law 1299 = .ok (.ireturn, 1) := by decide +kernel
theorem dL_law_1300 : decode cL_law 1300 = .ok (.iload 5, 2) := by decide +kernel
theorem dL_law_1302 : decode cL_law 1302 = .ok (.ifCond .ne 15, 3) := by decide +kernel
theorem dL_law_1305 : decode cL_law 1305 = .ok (.aload_n 3, 1) := by decide +kernel
theorem dL_law_1306 : decode cL_law 1306 = .ok (.iconst 0, 1) := by decide +kernel
theorem dL_law_1307 : decode cL_law 1307 = .ok (.laload, 1) := by decide +kernel
theorem dL_law_1308 : decode cL_law 1308 = .ok (.iload 6, 2) := by decide +kernel
theorem dL_law_1310 : decode cL_law 1310 = .ok (.i2l, 1) := by decide +kernel
theorem dL_law_1311 : decode cL_law 1311 = .ok (.lcmp, 1) := by decide +kernel
theorem dL_law_1312 : decode cL_law 1312 = .ok (.ifCond .eq 5, 3) := by decide +kernel
theorem dL_law_1315 : decode cL_law 1315 = .ok (.iconst 0, 1) := by decide +kernel
theorem dL_law_1316 : decode cL_law 1316 = .ok (.ireturn, 1) := by decide +kernel
theorem dL_law_1317 : decode cL_law 1317 = .ok (.goto 535, 3) := by decide +kernel
theorem dL_law_1320 : decode cL_law 1320 = .ok (.aload_n 1, 1) := by decide +kernel
theorem dL_law_1321 : decode cL_law 1321 = .ok (.aload_n 0, 1) := by decide +kernel
theorem dL_law_1322 : decode cL_law 1322 = .ok (.iload 4, 2) := by decide +kernel
theorem dL_law_1324 : decode cL_law 1324 = .ok (.iconst 1, 1) := by decide +kernel
theorem dL_law_1325 : decode cL_law 1325 = .ok (.iadd, 1) := by decide +kernel
theorem dL_law_1326 : decode cL_law 1326 = .ok (.iaload, 1) := by decide +kernel
theorem dL_law_1327 : decode cL_law 1327 = .ok (.aload_n 3, 1) := by decide +kernel
theorem dL_law_1328 : decode cL_law 1328 = .ok (.invokestatic 174, 3) := by decide +kernel
theorem dL_law_1331 : decode cL_law 1331 = .ok (.istore 5, 2) := by decide +kernel
theorem dL_law_1333 : decode cL_law 1333 = .ok (.aload_n 2, 1) := by decide +kernel
theorem dL_law_1334 : decode cL_law 1334 = .ok (.aload_n 0, 1) := by decide +kernel
theorem dL_law_1335 : decode cL_law 1335 = .ok (.iload 4, 2) := by decide +kernel
theorem dL_law_1337 : decode cL_law 1337 = .ok (.iconst 1, 1) := by decide +kernel
theorem dL_law_1338 : decode cL_law 1338 = .ok (.iadd, 1) := by decide +kernel
theorem dL_law_1339 : decode cL_law 1339 = .ok (.iaload, 1) := by decide +kernel
theorem dL_law_1340 : decode cL_law 1340 = .ok (.invokevirtual 176, 3) := by decide +kernel
theorem dL_law_1343 : decode cL_law 1343 = .ok (.istore 6, 2) := by decide +kernel
theorem dL_law_1345 : decode cL_law 1345 = .ok (.aload_n 2, 1) := by decide +kernel
theorem dL_law_1346 : decode cL_law 1346 = .ok (.invokevirtual 103, 3) := by decide +kernel
theorem dL_law_1349 : decode cL_law 1349 = .ok (.iload 5, 2) := by decide +kernel
theorem dL_law_1351 : decode cL_law 1351 = .ok (.if_icmp .eq 5, 3) := by decide +kernel
theorem dL_law_1354 : decode cL_law 1354 = .ok (.iconst 0, 1) := by decide +kernel
theorem dL_law_1355 : decode cL_law 1355 = .ok (.ireturn, 1) := by decide +kernel
theorem dL_law_1356 : decode cL_law 1356 = .ok (.iload 5, 2) := by decide +kernel
theorem dL_law_1358 : decode cL_law 1358 = .ok (.ifCond .ne 15, 3) := by decide +kernel
theorem dL_law_1361 : decode cL_law 1361 = .ok (.aload_n 3, 1) := by decide +kernel
theorem dL_law_1362 : decode cL_law 1362 = .ok (.iconst 0, 1) := by decide +kernel
theorem dL_law_1363 : decode cL_law 1363 = .ok (.laload, 1) := by decide +kernel
theorem dL_law_1364 : decode cL_law 1364 = .ok (.iload 6, 2) := by decide +kernel
theorem dL_law_1366 : decode cL_law 1366 = .ok (.i2l, 1) := by decide +kernel
theorem dL_law_1367 : decode cL_law 1367 = .ok (.lcmp, 1) := by decide +kernel
theorem dL_law_1368 : decode cL_law 1368 = .ok (.ifCond .eq 5, 3) := by decide +kernel
theorem dL_law_1371 : decode cL_law 1371 = .ok (.iconst 0, 1) := by decide +kernel
theorem dL_law_1372 : decode cL_law 1372 = .ok (.ireturn, 1) := by decide +kernel
theorem dL_law_1373 : decode cL_law 1373 = .ok (.goto 479, 3) := by decide +kernel
theorem dL_law_1376 : decode cL_law 1376 = .ok (.aload_n 1, 1) := by decide +kernel
theorem dL_law_1377 : decode cL_law 1377 = .ok (.aload_n 0, 1) := by decide +kernel
theorem dL_law_1378 : decode cL_law 1378 = .ok (.iload 4, 2) := by decide +kernel
theorem dL_law_1380 : decode cL_law 1380 = .ok (.iconst 1, 1) := by decide +kernel
theorem dL_law_1381 : decode cL_law 1381 = .ok (.iadd, 1) := by decide +kernel
theorem dL_law_1382 : decode cL_law 1382 = .ok (.iaload, 1) := by decide +kernel
theorem dL_law_1383 : decode cL_law 1383 = .ok (.aload_n 3, 1) := by decide +kernel
theorem dL_law_1384 : decode cL_law 1384 = .ok (.invokestatic 177, 3) := by decide +kernel
theorem dL_law_1387 : decode cL_law 1387 = .ok (.istore 5, 2) := by decide +kernel
theorem dL_law_1389 : decode cL_law 1389 = .ok (.aload_n 2, 1) := by decide +kernel
theorem dL_law_1390 : decode cL_law 1390 = .ok (.aload_n 0, 1) := by decide +kernel
theorem dL_law_1391 : decode cL_law 1391 = .ok (.iload 4, 2) := by decide +kernel
theorem dL_law_1393 : decode cL_law 1393 = .ok (.iconst 1, 1) := by decide +kernel
theorem dL_law_1394 : decode cL_law 1394 = .ok (.iadd, 1) := by decide +kernel
theorem dL_law_1395 : decode cL_law 1395 = .ok (.iaload, 1) := by decide +kernel
theorem dL_law_1396 : decode cL_law 1396 = .ok (.invokevirtual 179, 3) := by decide +kernel
theorem dL_law_1399 : decode cL_law 1399 = .ok (.istore 6, 2) := by decide +kernel
theorem dL_law_1401 : decode cL_law 1401 = .ok (.aload_n 2, 1) := by decide +kernel
theorem dL_law_1402 : decode cL_law 1402 = .ok (.invokevirtual 103, 3) := by decide +kernel
theorem dL_law_1405 : decode cL_law 1405 = .ok (.iload 5, 2) := by decide +kernel
theorem dL_law_1407 : decode cL_law 1407 = .ok (.if_icmp .eq 5, 3) := by decide +kernel
theorem dL_law_1410 : decode cL_law 1410 = .ok (.iconst 0, 1) := by decide +kernel
theorem dL_law_1411 : decode cL_law 1411 = .ok (.ireturn, 1) := by decide +kernel
theorem dL_law_1412 : decode cL_law 1412 = .ok (.iload 5, 2) := by decide +kernel
theorem dL_law_1414 : decode cL_law 1414 = .ok (.ifCond .ne 15, 3) := by decide +kernel
theorem dL_law_1417 : decode cL_law 1417 = .ok (.aload_n 3, 1) := by decide +kernel
theorem dL_law_1418 : decode cL_law 1418 = .ok (.iconst 0, 1) := by decide +kernel
theorem dL_law_1419 : decode cL_law 1419 = .ok (.laload, 1) := by decide +kernel
theorem dL_law_1420 : decode cL_law 1420 = .ok (.iload 6, 2) := by decide +kernel
theorem dL_law_1422 : decode cL_law 1422 = .ok (.i2l, 1) := by decide +kernel
theorem dL_law_1423 : decode cL_law 1423 = .ok (.lcmp, 1) := by decide +kernel
theorem dL_law_1424 : decode cL_law 1424 = .ok (.ifCond .eq 5, 3) := by decide +kernel
theorem dL_law_1427 : decode cL_law 1427 = .ok (.iconst 0, 1) := by decide +kernel
theorem dL_law_1428 : decode cL_law 1428 = .ok (.ireturn, 1) := by decide +kernel
theorem dL_law_1429 : decode cL_law 1429 = .ok (.goto 423, 3) := by decide +kernel
theorem dL_law_1432 : decode cL_law 1432 = .ok (.aload_n 1, 1) := by decide +kernel
theorem dL_law_1433 : decode cL_law 1433 = .ok (.invokevirtual 180, 3) := by decide +kernel
theorem dL_law_1436 : decode cL_law 1436 = .ok (.aload_n 2, 1) := by decide +kernel
theorem dL_law_1437 : decode cL_law 1437 = .ok (.invokevirtual 183, 3) := by decide +kernel
theorem dL_law_1440 : decode cL_law 1440 = .ok (.if_icmp .eq 412, 3) := by decide +kernel
theorem dL_law_1443 : decode cL_law 1443 = .ok (.iconst 0, 1) := by decide +kernel
theorem dL_law_1444 : decode cL_law 1444 = .ok (.ireturn, 1) := by decide +kernel
theorem dL_law_1445 : decode cL_law 1445 = .ok (.aload_n 1, 1) := by decide +kernel
theorem dL_law_1446 : decode cL_law 1446 = .ok (.invokevirtual 184, 3) := by decide +kernel
theorem dL_law_1449 : decode cL_law 1449 = .ok (.aload_n 2, 1) := by decide +kernel
theorem dL_law_1450 : decode cL_law 1450 = .ok (.invokevirtual 187, 3) := by decide +kernel
theorem dL_law_1453 : decode cL_law 1453 = .ok (.if_icmp .eq 399, 3) := by decide +kernel
theorem dL_law_1456 : decode cL_law 1456 = .ok (.iconst 0, 1) := by decide +kernel
theorem dL_law_1457 : decode cL_law 1457 = .ok (.ireturn, 1) := by decide +kernel
theorem dL_law_1458 : decode cL_law 1458 = .ok (.aload_n 1, 1) := by decide +kernel
theorem dL_law_1459 : decode cL_law 1459 = .ok (.invokevirtual 188, 3) := by decide +kernel
theorem dL_law_1462 : decode cL_law 1462 = .ok (.aload_n 2, 1) := by decide +kernel
theorem dL_law_1463 : decode cL_law 1463 = .ok (.invokevirtual 191, 3) := by decide +kernel
theorem dL_law_1466 : decode cL_law 1466 = .ok (.if_icmp .eq 386, 3) := by decide +kernel
theorem dL_law_1469 : decode cL_law 1469 = .ok (.iconst 0, 1) := by decide +kernel
theorem dL_law_1470 : decode cL_law 1470 = .ok (.ireturn, 1) := by decide +kernel
theorem dL_law_1471 : decode cL_law 1471 = .ok (.aload_n 1, 1) := by decide +kernel
theorem dL_law_1472 : decode cL_law 1472 = .ok (.aload_n 0, 1) := by decide +kernel
theorem dL_law_1473 : decode cL_law 1473 = .ok (.iload 4, 2) := by decide +kernel
theorem dL_law_1475 : decode cL_law 1475 = .ok (.iconst 1, 1) := by decide +kernel
theorem dL_law_1476 : decode cL_law 1476 = .ok (.iadd, 1) := by decide +kernel
theorem dL_law_1477 : decode cL_law 1477 = .ok (.iaload, 1) := by decide +kernel
theorem dL_law_1478 : decode cL_law 1478 = .ok (.aload_n 3, 1) := by decide +kernel
theorem dL_law_1479 : decode cL_law 1479 = .ok (.invokestatic 192, 3) := by decide +kernel
theorem dL_law_1482 : decode cL_law 1482 = .ok (.istore 5, 2) := by decide +kernel
theorem dL_law_1484 : decode cL_law 1484 = .ok (.aload_n 2, 1) := by decide +kernel
theorem dL_law_1485 : decode cL_law 1485 = .ok (.aload_n 0, 1) := by decide +kernel
theorem dL_law_1486 : decode cL_law 1486 = .ok (.iload 4, 2) := by decide +kernel
theorem dL_law_1488 : decode cL_law 1488 = .ok (.iconst 1, 1) := by decide +kernel
theorem dL_law_1489 : decode cL_law 1489 = .ok (.iadd, 1) := by decide +kernel
theorem dL_law_1490 : decode cL_law 1490 = .ok (.iaload, 1) := by decide +kernel
theorem dL_law_1491 : decode cL_law 1491 = .ok (.invokevirtual 194, 3) := by decide +kernel
theorem dL_law_1494 : decode cL_law 1494 = .ok (.istore 6, 2) := by decide +kernel
theorem dL_law_1496 : decode cL_law 1496 = .ok (.aload_n 2, 1) := by decide +kernel
theorem dL_law_1497 : decode cL_law 1497 = .ok (.invokevirtual 103, 3) := by decide +kernel
theorem dL_law_1500 : decode cL_law 1500 = .ok (.iload 5, 2) := by decide +kernel
theorem dL_law_1502 : decode cL_law 1502 = .ok (.if_icmp .eq 5, 3) := by decide +kernel
theorem dL_law_1505 : decode cL_law 1505 = .ok (.iconst 0, 1) := by decide +kernel
theorem dL_law_1506 : decode cL_law 1506 = .ok (.ireturn, 1) := by decide +kernel
theorem dL_law_1507 : decode cL_law 1507 = .ok (.iload 5, 2) := by decide +kernel
theorem dL_law_1509 : decode cL_law 1509 = .ok (.ifCond .ne 15, 3) := by decide +kernel
theorem dL_law_1512 : decode cL_law 1512 = .ok (.aload_n 3, 1) := by decide +kernel
theorem dL_law_1513 : decode cL_law 1513 = .ok (.iconst 0, 1) := by decide +kernel
theorem dL_law_1514 : decode cL_law 1514 = .ok (.laload, 1) := by decide +kernel
theorem dL_law_1515 : decode cL_law 1515 = .ok (.iload 6, 2) := by decide +kernel
theorem dL_law_1517 : decode cL_law 1517 = .ok (.i2l, 1) := by decide +kernel
theorem dL_law_1518 : decode cL_law 1518 = .ok (.lcmp, 1) := by decide +kernel
theorem dL_law_1519 : decode cL_law 1519 = .ok (.ifCond .eq 5, 3) := by decide +kernel
theorem dL_law_1522 : decode cL_law 1522 = .ok (.iconst 0, 1) := by decide +kernel
theorem dL_law_1523 : decode cL_law 1523 = .ok (.ireturn, 1) := by decide +kernel
theorem dL_law_1524 : decode cL_law 1524 = .ok (.goto 328, 3) := by decide +kernel
theorem dL_law_1527 : decode cL_law 1527 = .ok (.aload_n 1, 1) := by decide +kernel
theorem dL_law_1528 : decode cL_law 1528 = .ok (.invokevirtual 195, 3) := by decide +kernel
theorem dL_law_1531 : decode cL_law 1531 = .ok (.aload_n 2, 1) := by decide +kernel
theorem dL_law_1532 : decode cL_law 1532 = .ok (.invokevirtual 198, 3) := by decide +kernel
theorem dL_law_1535 : decode cL_law 1535 = .ok (.if_icmp .eq 317, 3) := by decide +kernel
theorem dL_law_1538 : decode cL_law 1538 = .ok (.iconst 0, 1) := by decide +kernel
theorem dL_law_1539 : decode cL_law 1539 = .ok (.ireturn, 1) := by decide +kernel
theorem dL_law_1540 : decode cL_law 1540 = .ok (.aload_n 1, 1) := by decide +kernel
theorem dL_law_1541 : decode cL_law 1541 = .ok (.aload_n 0, 1) := by decide +kernel
theorem dL_law_1542 : decode cL_law 1542 = .ok (.iload 4, 2) := by decide +kernel
theorem dL_law_1544 : decode cL_law 1544 = .ok (.iconst 1, 1) := by decide +kernel
theorem dL_law_1545 : decode cL_law 1545 = .ok (.iadd, 1) := by decide +kernel
theorem dL_law_1546 : decode cL_law 1546 = .ok (.iaload, 1) := by decide +kernel
theorem dL_law_1547 : decode cL_law 1547 = .ok (.aload_n 0, 1) := by decide +kernel
theorem dL_law_1548 : decode cL_law 1548 = .ok (.iload 4, 2) := by decide +kernel
theorem dL_law_1550 : decode cL_law 1550 = .ok (.iconst 2, 1) := by decide +kernel
theorem dL_law_1551 : decode cL_law 1551 = .ok (.iadd, 1) := by decide +kernel
theorem dL_law_1552 : decode cL_law 1552 = .ok (.iaload, 1) := by decide +kernel
theorem dL_law_1553 : decode cL_law 1553 = .ok (.i2l, 1) := by decide +kernel
theorem dL_law_1554 : decode cL_law 1554 = .ok (.bipush 32, 2) := by decide +kernel
theorem dL_law_1556 : decode cL_law 1556 = .ok (.lshl, 1) := by decide +kernel
theorem dL_law_1557 : decode cL_law 1557 = .ok (.aload_n 0, 1) := by decide +kernel
theorem dL_law_1558 : decode cL_law 1558 = .ok (.iload 4, 2) := by decide +kernel
theorem dL_law_1560 : decode cL_law 1560 = .ok (.iconst 3, 1) := by decide +kernel
theorem dL_law_1561 : decode cL_law 1561 = .ok (.iadd, 1) := by decide +kernel
theorem dL_law_1562 : decode cL_law 1562 = .ok (.iaload, 1) := by decide +kernel
theorem dL_law_1563 : decode cL_law 1563 = .ok (.i2l, 1) := by decide +kernel
theorem dL_law_1564 : decode cL_law 1564 = .ok (.ldc2_w 199, 3) := by decide +kernel
theorem dL_law_1567 : decode cL_law 1567 = .ok (.land, 1) := by decide +kernel
theorem dL_law_1568 : decode cL_law 1568 = .ok (.lor, 1) := by decide +kernel
theorem dL_law_1569 : decode cL_law 1569 = .ok (.aload_n 3, 1) := by decide +kernel
theorem dL_law_1570 : decode cL_law 1570 = .ok (.invokestatic 201, 3) := by decide +kernel
theorem dL_law_1573 : decode cL_law 1573 = .ok (.istore 5, 2) := by decide +kernel
theorem dL_law_1575 : decode cL_law 1575 = .ok (.aload_n 2, 1) := by decide +kernel
theorem dL_law_1576 : decode cL_law 1576 = .ok (.aload_n 0, 1) := by decide +kernel
theorem dL_law_1577 : decode cL_law 1577 = .ok (.iload 4, 2) := by decide +kernel
theorem dL_law_1579 : decode cL_law 1579 = .ok (.iconst 1, 1) := by decide +kernel
theorem dL_law_1580 : decode cL_law 1580 = .ok (.iadd, 1) := by decide +kernel
theorem dL_law_1581 : decode cL_law 1581 = .ok (.iaload, 1) := by decide +kernel
theorem dL_law_1582 : decode cL_law 1582 = .ok (.aload_n 0, 1) := by decide +kernel
theorem dL_law_1583 : decode cL_law 1583 = .ok (.iload 4, 2) := by decide +kernel
theorem dL_law_1585 : decode cL_law 1585 = .ok (.iconst 2, 1) := by decide +kernel
theorem dL_law_1586 : decode cL_law 1586 = .ok (.iadd, 1) := by decide +kernel
theorem dL_law_1587 : decode cL_law 1587 = .ok (.iaload, 1) := by decide +kernel
theorem dL_law_1588 : decode cL_law 1588 = .ok (.i2l, 1) := by decide +kernel
theorem dL_law_1589 : decode cL_law 1589 = .ok (.bipush 32, 2) := by decide +kernel
theorem dL_law_1591 : decode cL_law 1591 = .ok (.lshl, 1) := by decide +kernel
theorem dL_law_1592 : decode cL_law 1592 = .ok (.aload_n 0, 1) := by decide +kernel
theorem dL_law_1593 : decode cL_law 1593 = .ok (.iload 4, 2) := by decide +kernel
theorem dL_law_1595 : decode cL_law 1595 = .ok (.iconst 3, 1) := by decide +kernel
theorem dL_law_1596 : decode cL_law 1596 = .ok (.iadd, 1) := by decide +kernel
theorem dL_law_1597 : decode cL_law 1597 = .ok (.iaload, 1) := by decide +kernel
theorem dL_law_1598 : decode cL_law 1598 = .ok (.i2l, 1) := by decide +kernel
theorem dL_law_1599 : decode cL_law 1599 = .ok (.ldc2_w 199, 3) := by decide +kernel
theorem dL_law_1602 : decode cL_law 1602 = .ok (.land, 1) := by decide +kernel
theorem dL_law_1603 : decode cL_law 1603 = .ok (.lor, 1) := by decide +kernel
theorem dL_law_1604 : decode cL_law 1604 = .ok (.invokevirtual 204, 3) := by decide +kernel
theorem dL_law_1607 : decode cL_law 1607 = .ok (.istore 6, 2) := by decide +kernel
theorem dL_law_1609 : decode cL_law 1609 = .ok (.aload_n 2, 1) := by decide +kernel
theorem dL_law_1610 : decode cL_law 1610 = .ok (.invokevirtual 103, 3) := by decide +kernel
theorem dL_law_1613 : decode cL_law 1613 = .ok (.iload 5, 2) := by decide +kernel
theorem dL_law_1615 : decode cL_law 1615 = .ok (.if_icmp .eq 5, 3) := by decide +kernel
theorem dL_law_1618 : decode cL_law 1618 = .ok (.iconst 0, 1) := by decide +kernel
theorem dL_law_1619 : decode cL_law 1619 = .ok (.ireturn, 1) := by decide +kernel
theorem dL_law_1620 : decode cL_law 1620 = .ok (.iload 5, 2) := by decide +kernel
theorem dL_law_1622 : decode cL_law 1622 = .ok (.ifCond .ne 15, 3) := by decide +kernel
theorem dL_law_1625 : decode cL_law 1625 = .ok (.aload_n 3, 1) := by decide +kernel
theorem dL_law_1626 : decode cL_law 1626 = .ok (.iconst 0, 1) := by decide +kernel
theorem dL_law_1627 : decode cL_law 1627 = .ok (.laload, 1) := by decide +kernel
theorem dL_law_1628 : decode cL_law 1628 = .ok (.iload 6, 2) := by decide +kernel
theorem dL_law_1630 : decode cL_law 1630 = .ok (.i2l, 1) := by decide +kernel
theorem dL_law_1631 : decode cL_law 1631 = .ok (.lcmp, 1) := by decide +kernel
theorem dL_law_1632 : decode cL_law 1632 = .ok (.ifCond .eq 5, 3) := by decide +kernel
theorem dL_law_1635 : decode cL_law 1635 = .ok (.iconst 0, 1) := by decide +kernel
theorem dL_law_1636 : decode cL_law 1636 = .ok (.ireturn, 1) := by decide +kernel
theorem dL_law_1637 : decode cL_law 1637 = .ok (.goto 215, 3) := by decide +kernel
theorem dL_law_1640 : decode cL_law 1640 = .ok (.aload_n 1, 1) := by decide +kernel
theorem dL_law_1641 : decode cL_law 1641 = .ok (.aload_n 0, 1) := by decide +kernel
theorem dL_law_1642 : decode cL_law 1642 = .ok (.iload 4, 2) := by decide +kernel
theorem dL_law_1644 : decode cL_law 1644 = .ok (.iconst 1, 1) := by decide +kernel
theorem dL_law_1645 : decode cL_law 1645 = .ok (.iadd, 1) := by decide +kernel
theorem dL_law_1646 : decode cL_law 1646 = .ok (.iaload, 1) := by decide +kernel
theorem dL_law_1647 : decode cL_law 1647 = .ok (.i2l, 1) := by decide +kernel
theorem dL_law_1648 : decode cL_law 1648 = .ok (.bipush 32, 2) := by decide +kernel
theorem dL_law_1650 : decode cL_law 1650 = .ok (.lshl, 1) := by decide +kernel
theorem dL_law_1651 : decode cL_law 1651 = .ok (.aload_n 0, 1) := by decide +kernel
theorem dL_law_1652 : decode cL_law 1652 = .ok (.iload 4, 2) := by decide +kernel
theorem dL_law_1654 : decode cL_law 1654 = .ok (.iconst 2, 1) := by decide +kernel
theorem dL_law_1655 : decode cL_law 1655 = .ok (.iadd, 1) := by decide +kernel
theorem dL_law_1656 : decode cL_law 1656 = .ok (.iaload, 1) := by decide +kernel
theorem dL_law_1657 : decode cL_law 1657 = .ok (.i2l, 1) := by decide +kernel
theorem dL_law_1658 : decode cL_law 1658 = .ok (.ldc2_w 199, 3) := by decide +kernel
theorem dL_law_1661 : decode cL_law 1661 = .ok (.land, 1) := by decide +kernel
theorem dL_law_1662 : decode cL_law 1662 = .ok (.lor, 1) := by decide +kernel
theorem dL_law_1663 : decode cL_law 1663 = .ok (.aload_n 0, 1) := by decide +kernel
theorem dL_law_1664 : decode cL_law 1664 = .ok (.iload 4, 2) := by decide +kernel
theorem dL_law_1666 : decode cL_law 1666 = .ok (.iconst 3, 1) := by decide +kernel
theorem dL_law_1667 : decode cL_law 1667 = .ok (.iadd, 1) := by decide +kernel
theorem dL_law_1668 : decode cL_law 1668 = .ok (.iaload, 1) := by decide +kernel
theorem dL_law_1669 : decode cL_law 1669 = .ok (.aload_n 3, 1) := by decide +kernel
theorem dL_law_1670 : decode cL_law 1670 = .ok (.invokestatic 205, 3) := by decide +kernel
theorem dL_law_1673 : decode cL_law 1673 = .ok (.istore 5, 2) := by decide +kernel
theorem dL_law_1675 : decode cL_law 1675 = .ok (.aload_n 2, 1) := by decide +kernel
theorem dL_law_1676 : decode cL_law 1676 = .ok (.aload_n 0, 1) := by decide +kernel
theorem dL_law_1677 : decode cL_law 1677 = .ok (.iload 4, 2) := by decide +kernel
theorem dL_law_1679 : decode cL_law 1679 = .ok (.iconst 1, 1) := by decide +kernel
theorem dL_law_1680 : decode cL_law 1680 = .ok (.iadd, 1) := by decide +kernel
theorem dL_law_1681 : decode cL_law 1681 = .ok (.iaload, 1) := by decide +kernel
theorem dL_law_1682 : decode cL_law 1682 = .ok (.i2l, 1) := by decide +kernel
theorem dL_law_1683 : decode cL_law 1683 = .ok (.bipush 32, 2) := by decide +kernel
theorem dL_law_1685 : decode cL_law 1685 = .ok (.lshl, 1) := by decide +kernel
theorem dL_law_1686 : decode cL_law 1686 = .ok (.aload_n 0, 1) := by decide +kernel
theorem dL_law_1687 : decode cL_law 1687 = .ok (.iload 4, 2) := by decide +kernel
theorem dL_law_1689 : decode cL_law 1689 = .ok (.iconst 2, 1) := by decide +kernel
theorem dL_law_1690 : decode cL_law 1690 = .ok (.iadd, 1) := by decide +kernel
theorem dL_law_1691 : decode cL_law 1691 = .ok (.iaload, 1) := by decide +kernel
theorem dL_law_1692 : decode cL_law 1692 = .ok (.i2l, 1) := by decide +kernel
theorem dL_law_1693 : decode cL_law 1693 = .ok (.ldc2_w 199, 3) := by decide +kernel
theorem dL_law_1696 : decode cL_law 1696 = .ok (.land, 1) := by decide +kernel
theorem dL_law_1697 : decode cL_law 1697 = .ok (.lor, 1) := by decide +kernel
theorem dL_law_1698 : decode cL_law 1698 = .ok (.aload_n 0, 1) := by decide +kernel
theorem dL_law_1699 : decode cL_law 1699 = .ok (.iload 4, 2) := by decide +kernel
theorem dL_law_1701 : decode cL_law 1701 = .ok (.iconst 3, 1) := by decide +kernel
theorem dL_law_1702 : decode cL_law 1702 = .ok (.iadd, 1) := by decide +kernel
theorem dL_law_1703 : decode cL_law 1703 = .ok (.iaload, 1) := by decide +kernel
theorem dL_law_1704 : decode cL_law 1704 = .ok (.invokevirtual 208, 3) := by decide +kernel
theorem dL_law_1707 : decode cL_law 1707 = .ok (.istore 6, 2) := by decide +kernel
theorem dL_law_1709 : decode cL_law 1709 = .ok (.aload_n 2, 1) := by decide +kernel
theorem dL_law_1710 : decode cL_law 1710 = .ok (.invokevirtual 103, 3) := by decide +kernel
theorem dL_law_1713 : decode cL_law 1713 = .ok (.iload 5, 2) := by decide +kernel
theorem dL_law_1715 : decode cL_law 1715 = .ok (.if_icmp .eq 5, 3) := by decide +kernel
theorem dL_law_1718 : decode cL_law 1718 = .ok (.iconst 0, 1) := by decide +kernel
theorem dL_law_1719 : decode cL_law 1719 = .ok (.ireturn, 1) := by decide +kernel
theorem dL_law_1720 : decode cL_law 1720 = .ok (.iload 5, 2) := by decide +kernel
theorem dL_law_1722 : decode cL_law 1722 = .ok (.ifCond .ne 15, 3) := by decide +kernel
theorem dL_law_1725 : decode cL_law 1725 = .ok (.aload_n 3, 1) := by decide +kernel
theorem dL_law_1726 : decode cL_law 1726 = .ok (.iconst 0, 1) := by decide +kernel
theorem dL_law_1727 : decode cL_law 1727 = .ok (.laload, 1) := by decide +kernel
theorem dL_law_1728 : decode cL_law 1728 = .ok (.iload 6, 2) := by decide +kernel
theorem dL_law_1730 : decode cL_law 1730 = .ok (.i2l, 1) := by decide +kernel
theorem dL_law_1731 : decode cL_law 1731 = .ok (.lcmp, 1) := by decide +kernel
theorem dL_law_1732 : decode cL_law 1732 = .ok (.ifCond .eq 5, 3) := by decide +kernel
theorem dL_law_1735 : decode cL_law 1735 = .ok (.iconst 0, 1) := by decide +kernel
theorem dL_law_1736 : decode cL_law 1736 = .ok (.ireturn, 1) := by decide +kernel
theorem dL_law_1737 : decode cL_law 1737 = .ok (.goto 115, 3) := by decide +kernel
theorem dL_law_1740 : decode cL_law 1740 = .ok (.aload_n 1, 1) := by decide +kernel
theorem dL_law_1741 : decode cL_law 1741 = .ok (.aload_n 0, 1) := by decide +kernel
theorem dL_law_1742 : decode cL_law 1742 = .ok (.iload 4, 2) := by decide +kernel
theorem dL_law_1744 : decode cL_law 1744 = .ok (.iconst 1, 1) := by decide +kernel
theorem dL_law_1745 : decode cL_law 1745 = .ok (.iadd, 1) := by decide +kernel
theorem dL_law_1746 : decode cL_law 1746 = .ok (.iaload, 1) := by decide +kernel
theorem dL_law_1747 : decode cL_law 1747 = .ok (.aload_n 3, 1) := by decide +kernel
theorem dL_law_1748 : decode cL_law 1748 = .ok (.invokestatic 209, 3) := by decide +kernel
theorem dL_law_1751 : decode cL_law 1751 = .ok (.istore 5, 2) := by decide +kernel
theorem dL_law_1753 : decode cL_law 1753 = .ok (.aload_n 2, 1) := by decide +kernel
theorem dL_law_1754 : decode cL_law 1754 = .ok (.aload_n 0, 1) := by decide +kernel
theorem dL_law_1755 : decode cL_law 1755 = .ok (.iload 4, 2) := by decide +kernel
theorem dL_law_1757 : decode cL_law 1757 = .ok (.iconst 1, 1) := by decide +kernel
theorem dL_law_1758 : decode cL_law 1758 = .ok (.iadd, 1) := by decide +kernel
theorem dL_law_1759 : decode cL_law 1759 = .ok (.iaload, 1) := by decide +kernel
theorem dL_law_1760 : decode cL_law 1760 = .ok (.invokevirtual 211, 3) := by decide +kernel
theorem dL_law_1763 : decode cL_law 1763 = .ok (.istore 6, 2) := by decide +kernel
theorem dL_law_1765 : decode cL_law 1765 = .ok (.aload_n 2, 1) := by decide +kernel
theorem dL_law_1766 : decode cL_law 1766 = .ok (.invokevirtual 103, 3) := by decide +kernel
theorem dL_law_1769 : decode cL_law 1769 = .ok (.iload 5, 2) := by decide +kernel
theorem dL_law_1771 : decode cL_law 1771 = .ok (.if_icmp .eq 5, 3) := by decide +kernel
theorem dL_law_1774 : decode cL_law 1774 = .ok (.iconst 0, 1) := by decide +kernel
theorem dL_law_1775 : decode cL_law 1775 = .ok (.ireturn, 1) := by decide +kernel
theorem dL_law_1776 : decode cL_law 1776 = .ok (.iload 5, 2) := by decide +kernel
theorem dL_law_1778 : decode cL_law 1778 = .ok (.ifCond .ne 15, 3) := by decide +kernel
theorem dL_law_1781 : decode cL_law 1781 = .ok (.aload_n 3, 1) := by decide +kernel
theorem dL_law_1782 : decode cL_law 1782 = .ok (.iconst 0, 1) := by decide +kernel
theorem dL_law_1783 : decode cL_law 1783 = .ok (.laload, 1) := by decide +kernel
theorem dL_law_1784 : decode cL_law 1784 = .ok (.iload 6, 2) := by decide +kernel
theorem dL_law_1786 : decode cL_law 1786 = .ok (.i2l, 1) := by decide +kernel
theorem dL_law_1787 : decode cL_law 1787 = .ok (.lcmp, 1) := by decide +kernel
theorem dL_law_1788 : decode cL_law 1788 = .ok (.ifCond .eq 5, 3) := by decide +kernel
theorem dL_law_1791 : decode cL_law 1791 = .ok (.iconst 0, 1) := by decide +kernel
theorem dL_law_1792 : decode cL_law 1792 = .ok (.ireturn, 1) := by decide +kernel
theorem dL_law_1793 : decode cL_law 1793 = .ok (.goto 59, 3) := by decide +kernel
theorem dL_law_1796 : decode cL_law 1796 = .ok (.aload_n 1, 1) := by decide +kernel
theorem dL_law_1797 : decode cL_law 1797 = .ok (.aload_n 0, 1) := by decide +kernel
theorem dL_law_1798 : decode cL_law 1798 = .ok (.iload 4, 2) := by decide +kernel
theorem dL_law_1800 : decode cL_law 1800 = .ok (.iconst 1, 1) := by decide +kernel
theorem dL_law_1801 : decode cL_law 1801 = .ok (.iadd, 1) := by decide +kernel
theorem dL_law_1802 : decode cL_law 1802 = .ok (.iaload, 1) := by decide +kernel
theorem dL_law_1803 : decode cL_law 1803 = .ok (.aload_n 3, 1) := by decide +kernel
theorem dL_law_1804 : decode cL_law 1804 = .ok (.invokestatic 212, 3) := by decide +kernel
theorem dL_law_1807 : decode cL_law 1807 = .ok (.istore 5, 2) := by decide +kernel
theorem dL_law_1809 : decode cL_law 1809 = .ok (.aload_n 2, 1) := by decide +kernel
theorem dL_law_1810 : decode cL_law 1810 = .ok (.aload_n 0, 1) := by decide +kernel
theorem dL_law_1811 : decode cL_law 1811 = .ok (.iload 4, 2) := by decide +kernel
theorem dL_law_1813 : decode cL_law 1813 = .ok (.iconst 1, 1) := by decide +kernel
theorem dL_law_1814 : decode cL_law 1814 = .ok (.iadd, 1) := by decide +kernel
theorem dL_law_1815 : decode cL_law 1815 = .ok (.iaload, 1) := by decide +kernel
theorem dL_law_1816 : decode cL_law 1816 = .ok (.invokevirtual 214, 3) := by decide +kernel
theorem dL_law_1819 : decode cL_law 1819 = .ok (.istore 6, 2) := by decide +kernel
theorem dL_law_1821 : decode cL_law 1821 = .ok (.aload_n 2, 1) := by decide +kernel
theorem dL_law_1822 : decode cL_law 1822 = .ok (.invokevirtual 103, 3) := by decide +kernel
theorem dL_law_1825 : decode cL_law 1825 = .ok (.iload 5, 2) := by decide +kernel
theorem dL_law_1827 : decode cL_law 1827 = .ok (.if_icmp .eq 5, 3) := by decide +kernel
theorem dL_law_1830 : decode cL_law 1830 = .ok (.iconst 0, 1) := by decide +kernel
theorem dL_law_1831 : decode cL_law 1831 = .ok (.ireturn, 1) := by decide +kernel
theorem dL_law_1832 : decode cL_law 1832 = .ok (.iload 5, 2) := by decide +kernel
theorem dL_law_1834 : decode cL_law 1834 = .ok (.ifCond .ne 15, 3) := by decide +kernel
theorem dL_law_1837 : decode cL_law 1837 = .ok (.aload_n 3, 1) := by decide +kernel
theorem dL_law_1838 : decode cL_law 1838 = .ok (.iconst 0, 1) := by decide +kernel
theorem dL_law_1839 : decode cL_law 1839 = .ok (.laload, 1) := by decide +kernel
theorem dL_law_1840 : decode cL_law 1840 = .ok (.iload 6, 2) := by decide +kernel
theorem dL_law_1842 : decode cL_law 1842 = .ok (.i2l, 1) := by decide +kernel
theorem dL_law_1843 : decode cL_law 1843 = .ok (.lcmp, 1) := by decide +kernel
theorem dL_law_1844 : decode cL_law 1844 = .ok (.ifCond .eq 5, 3) := by decide +kernel
theorem dL_law_1847 : decode cL_law 1847 = .ok (.iconst 0, 1) := by decide +kernel
theorem dL_law_1848 : decode cL_law 1848 = .ok (.ireturn, 1) := by decide +kernel
theorem dL_law_1849 : decode cL_law 1849 = .ok (.goto 3, 3) := by decide +kernel
theorem dL_law_1852 : decode cL_law 1852 = .ok (.iinc 4 4, 3) := by decide +kernel
theorem dL_law_1855 : decode cL_law 1855 = .ok (.goto (-1832), 3) := by decide +kernel
theorem dL_law_1858 : decode cL_law 1858 = .ok (.iconst 1, 1) := by decide +kernel
theorem dL_law_1859 : decode cL_law 1859 = .ok (.ireturn, 1) := by decide +kernel
end
section
/-! The judgement PW: a frame over a heap that is a function of addresses; a row an instruction; Run: a method's contract over such heaps. -/
def GW : List Cond := lw_tbl.filter goodWord
theorem gw_of {x : Cond} (i : Nat) (h : lw_tbl[i]? = some x) (g : goodWord x = true) : x ∈ GW := List.mem_filter.mpr ⟨List.mem_of_getElem? h, g⟩
theorem goodGW {L : List Cond} (h : ∀ x ∈ L, x ∈ GW) : GoodIn GW L := fun x hx => ⟨h x hx, good_of_word (List.mem_filter.mp (h x hx)).2⟩
def isXW : Cond → Bool
  | .castable .. => true
  | .declares .. => true
  | .methodLinkNest .. => true
  | _ => false
def XW : List Cond := lw_tbl.filter isXW
theorem xw_of {x : Cond} (i : Nat) (h : lw_tbl[i]? = some x) (g : isXW x = true) : x ∈ XW := List.mem_filter.mpr ⟨List.mem_of_getElem? h, g⟩
def XWF (U : State) : Prop := ∀ x ∈ XW, va_Nw x U
theorem XWF.warm {s U : State} (hW : s.WarmedH U.vm) (h : XWF s) : XWF U := by
  intro x hx
  have g := (List.mem_filter.mp hx).2
  have h1 := h x hx
  cases x <;> first | (simp [isXW] at g; done) | exact va_Nw.warmC hW h1 | exact va_Nw.warmD hW h1 | exact va_Nw.warmM hW h1
def SW : List (String × Nat × String) := lw_tbl.filterMap fun x => match x with
  | .stringRef a k t => some (a, k, t)
  | _ => none
def SWF (U : State) : Prop := ∀ q ∈ SW, ∃ a, vk_R q.1 q.2.1 q.2.2 a U
theorem SWF.warm {s U : State} (hW : s.WarmedH U.vm) (h : SWF s) : SWF U := fun q hq => by
  obtain ⟨a, ha⟩ := h q hq
  exact ⟨a, vk_R.warm hW ha⟩
theorem sw_of {a t : String} {k : Nat} (i : Nat) (h : lw_tbl[i]? = some (.stringRef a k t)) : (a, k, t) ∈ SW := List.mem_filterMap.mpr ⟨_, List.mem_of_getElem? h, rfl⟩
abbrev PH : Type := Nat × (Nat → Option va_E)
abbrev GC : Type := va_G × List (ClassId × FieldType) × Nat
/-- a method: its name, code, locals, answer's type, frames and locals of its room -/
abbrev MI : Type := MethodName × ByteArray × Nat × Option FieldType × Nat × Nat
abbrev CX : Type := Program × Launch × Env × Room × State × MethodId × Array Value × List Frame × Method × Code
abbrev OC : Type := Option Value ⊕ String
abbrev LL : Type := List (Option Value)
def AB (G : GC) : Nat → Prop := fun q => G.2.2 ≤ q
def tyL : List FieldType := [.int, .char, .boolean, .long, .object "AshlarLodge$Lodge"]
def pmE (G : GC) (x : va_E) : va_E := match x with
  | .inl (t, y) => .inl ((G.2.1.getD t (0, .int)).1, y)
  | .inr y => .inr y
def Sim (G : GC) (M : PH) (H : Heap) : Prop := M.1 = H.size ∧ ∀ (a : Nat) (x : va_E), M.2 a = some x → G.2.2 ≤ a ∧ va_at G.1 vwCl (a, pmE G x) H
def KS (G : GC) (U : State) : Prop := va_K G.1 vwCl G.2.1 U ∧ G.2.1.map (fun q => q.2) = tyL ∧ vx_Zq Bundle.tN "UNASSIGNED_STACK" Bundle.steD (AB G) U U.heap ∧ vx_Zq Bundle.tN "SUPPRESSED_SENTINEL" Bundle.listD (AB G) U U.heap ∧ G.2.2 ≤ U.heap.size ∧ XWF U ∧ SWF U ∧ va_AO "AshlarLodge$Lodge" U
theorem KS.go {G : GC} {s U : State} {H : Heap} {locs : List Loc} (hS : va_S (AB G) s.heap H locs) (hU : U.heap = H) (hW : s.WarmedH U.vm) (h : KS G s) : KS G U := by
  obtain ⟨h1, h2, h3, h4, h5, h6, h7, h8⟩ := h
  refine ⟨va_K.moved hW.alike h1, h2, ?_, ?_, ?_, XWF.warm hW h6, SWF.warm hW h7, va_AO.moved hW.alike h8⟩
  · rw [hU]; exact vx_Zq.moved hW.alike (vx_Zq.kept h3 hS.2.1)
  · rw [hU]; exact vx_Zq.moved hW.alike (vx_Zq.kept h4 hS.2.1)
  · rw [hU]; exact Nat.le_trans h5 hS.1
theorem KS.calling {G : GC} {U : State} {g : JFrame} {mk : MethodId} {a : Array Value} (h : KS G U) : KS G (U.calling g mk a) := by
  obtain ⟨h1, h2, h3, h4, h5, h6, h7, h8⟩ := h
  exact ⟨va_K.moved (u := U) (U := U.calling g mk a) (Vm.Alike.refl U.vm) h1, h2, vx_Zq.moved (u := U) (U := U.calling g mk a) (Vm.Alike.refl U.vm) h3, vx_Zq.moved (u := U) (U := U.calling g mk a) (Vm.Alike.refl U.vm) h4, h5,
    XWF.warm (s := U) (U := U.calling g mk a) (State.WarmedH.refl U) h6, SWF.warm (s := U) (U := U.calling g mk a) (State.WarmedH.refl U) h7, va_AO.moved (u := U) (U := U.calling g mk a) (Vm.Alike.refl U.vm) h8⟩
theorem Sim.P1 {G : GC} {M : PH} {H : Heap} {a : Nat} {x : va_E} (hM : Sim G M H) (ha : M.2 a = some x) : va_P G.1 vwCl [(a, pmE G x)] H := by
  intro k q hk
  cases k with
  | zero => cases hk; exact (hM.2 a x ha).2
  | succ k => simp at hk
def hput (M : PH) (a : Nat) (x : va_E) : PH := (M.1, fun q => if q = a then some x else M.2 q)
def hnew (M : PH) (x : va_E) : PH := (M.1 + 1, fun q => if q = M.1 then some x else M.2 q)
def hbump (M : PH) : PH := (M.1 + 1, M.2)
theorem Sim.put {G : GC} {M : PH} {H H1 : Heap} {a : Nat} {x : va_E} (hM : Sim G M H) (hz : H1.size = H.size) (ho : ∀ q : Nat, q ≠ a → H1[q]? = H[q]?) (hb : G.2.2 ≤ a) (hn : va_at G.1 vwCl (a, pmE G x) H1) : Sim G (hput M a x) H1 := by
  refine ⟨hM.1.trans hz.symm, fun q y hy => ?_⟩
  simp only [hput] at hy
  by_cases hq : q = a
  · subst hq
    rw [if_pos rfl] at hy
    cases hy
    exact ⟨hb, hn⟩
  · rw [if_neg hq] at hy
    obtain ⟨h1, h2⟩ := hM.2 q y hy
    exact ⟨h1, h2.kept (ho q hq)⟩
theorem Sim.new {G : GC} {M : PH} {H H1 : Heap} {x : va_E} (hM : Sim G M H) (hz : H1.size = H.size + 1) (ho : ∀ q : Nat, q < H.size → H1[q]? = H[q]?) (hb : G.2.2 ≤ H.size) (hn : va_at G.1 vwCl (H.size, pmE G x) H1) : Sim G (hnew M x) H1 := by
  refine ⟨by show M.1 + 1 = _; rw [hM.1, hz], fun q y hy => ?_⟩
  simp only [hnew] at hy
  by_cases hq : q = M.1
  · rw [if_pos hq] at hy
    cases hy
    rw [hq, hM.1]
    exact ⟨hb, hn⟩
  · rw [if_neg hq] at hy
    obtain ⟨h1, h2⟩ := hM.2 q y hy
    exact ⟨h1, h2.kept (ho q h2.lt)⟩
theorem Sim.bump {G : GC} {M : PH} {H H1 : Heap} (hM : Sim G M H) (hz : H1.size = H.size + 1) (ho : ∀ q : Nat, q < H.size → H1[q]? = H[q]?) : Sim G (hbump M) H1 := by
  refine ⟨by show M.1 + 1 = _; rw [hM.1, hz], fun q y hy => ?_⟩
  obtain ⟨h1, h2⟩ := hM.2 q y hy
  exact ⟨h1, h2.kept (ho q h2.lt)⟩
-- locals
def lk : LL → Nat → Option Value
  | [], _ => none
  | x :: _, 0 => x
  | _ :: t, n + 1 => lk t n
def lset : LL → Nat → Option Value → LL
  | [], _, _ => []
  | _ :: t, 0, v => v :: t
  | x :: t, n + 1, v => x :: lset t n v
theorem lset_len : ∀ (l : LL) (i : Nat) (v : Option Value), (lset l i v).length = l.length
  | [], _, _ => rfl
  | _ :: _, 0, _ => rfl
  | _ :: t, n + 1, v => by simp [lset, lset_len t n v]
theorem lk_lset : ∀ (l : LL) (i : Nat) (v : Option Value) (j : Nat), i < l.length → lk (lset l i v) j = if j = i then v else lk l j
  | [], i, _, _, h => absurd h (Nat.not_lt_zero i)
  | _ :: _, 0, _, 0, _ => rfl
  | _ :: _, 0, _, _ + 1, _ => rfl
  | _ :: _, _ + 1, _, 0, _ => rfl
  | _ :: t, n + 1, v, j + 1, h => by
    show lk (lset t n v) j = if j + 1 = n + 1 then v else lk t j
    rw [lk_lset t n v j (Nat.lt_of_succ_lt_succ h)]
    by_cases hj : j = n
    · simp [hj]
    · simp [hj]
theorem lk_lt : ∀ (l : LL) (i : Nat) (v : Value), lk l i = some v → i < l.length
  | [], _, _, h => by simp [lk] at h
  | _ :: _, 0, _, _ => Nat.succ_pos _
  | _ :: t, n + 1, v, h => Nat.succ_lt_succ (lk_lt t n v h)
def okst (l : LL) (i : Nat) : Bool := match i with
  | 0 => true
  | j + 1 => match lk l j with
    | some v => v.category != 2
    | none => true
def LV (A : Array Slot) (nL : Nat) (l : LL) : Prop := A.size = nL ∧ lv_wf A ∧ l.length = nL ∧ ∀ (i : Nat) (v : Value), lk l i = some v → A[i]? = some (.val v)
def lasc (l : LL) : List (Nat × Value) := (List.range l.length).filterMap fun i => (lk l i).map fun v => (i, v)
theorem mem_lasc {l : LL} {i : Nat} {v : Value} : (i, v) ∈ lasc l ↔ lk l i = some v := by
  unfold lasc
  rw [List.mem_filterMap]
  constructor
  · rintro ⟨a, -, h⟩
    obtain ⟨y, h1, h2⟩ := Option.map_eq_some_iff.mp h
    cases h2
    exact h1
  · intro h
    exact ⟨i, List.mem_range.mpr (lk_lt l i v h), by rw [h]; rfl⟩
theorem LV.has {A : Array Slot} {nL : Nat} {l : LL} (h : LV A nL l) : lv_has A nL (lasc l) := ⟨h.1, h.2.1, fun q hq => by
  obtain ⟨i, v⟩ := q
  exact h.2.2.2 i v (mem_lasc.mp hq)⟩
theorem LV.at {A : Array Slot} {nL : Nat} {l : LL} (h : LV A nL l) {i : Nat} {v : Value} (hk : lk l i = some v) : A[i]? = some (.val v) := h.2.2.2 i v hk
theorem LV.st1 {A B : Array Slot} {nL i : Nat} {l : LL} {v : Value} (h : LV A nL l) (hok : okst l i = true) (hi : i < nL) (hB : lv_has B nL ((i, v) :: (lasc l).filter (fun q => !(q.1 == i) && !(q.1 + 1 == i && q.2.category == 2)))) : LV B nL (lset l i (some v)) := by
  refine ⟨hB.1, hB.2.1, by rw [lset_len]; exact h.2.2.1, fun j x hj => ?_⟩
  rw [lk_lset l i _ j (by rw [h.2.2.1]; exact hi)] at hj
  by_cases hji : j = i
  · subst hji
    rw [if_pos rfl] at hj
    cases hj
    exact hB.2.2 (j, v) List.mem_cons_self
  · rw [if_neg hji] at hj
    refine hB.2.2 (j, x) (List.mem_cons_of_mem _ (List.mem_filter.mpr ⟨mem_lasc.mpr hj, ?_⟩))
    by_cases h2 : j + 1 = i
    · subst h2
      have hc : x.category ≠ 2 := by
        simp only [okst, hj] at hok
        simpa using hok
      simp [hji, hc]
    · simp [hji, h2]
theorem LV.st2 {A B : Array Slot} {nL i : Nat} {l : LL} {v : Value} (h : LV A nL l) (hok : okst l i = true) (hi : i + 1 < nL) (hB : lv_has B nL ((i, v) :: (lasc l).filter (fun q => !(q.1 == i) && (!(q.1 == i + 1) && !(q.1 + 1 == i && q.2.category == 2))))) : LV B nL (lset (lset l i (some v)) (i + 1) none) := by
  refine ⟨hB.1, hB.2.1, by rw [lset_len, lset_len]; exact h.2.2.1, fun j x hj => ?_⟩
  rw [lk_lset _ (i + 1) _ j (by rw [lset_len, h.2.2.1]; exact hi)] at hj
  by_cases hj1 : j = i + 1
  · rw [if_pos hj1] at hj; cases hj
  · rw [if_neg hj1, lk_lset l i _ j (by rw [h.2.2.1]; omega)] at hj
    by_cases hji : j = i
    · subst hji
      rw [if_pos rfl] at hj
      cases hj
      exact hB.2.2 (j, v) List.mem_cons_self
    · rw [if_neg hji] at hj
      refine hB.2.2 (j, x) (List.mem_cons_of_mem _ (List.mem_filter.mpr ⟨mem_lasc.mpr hj, ?_⟩))
      by_cases h2 : j + 1 = i
      · subst h2
        have hc : x.category ≠ 2 := by
          simp only [okst, hj] at hok
          simpa using hok
        simp [hji, hj1, hc]
      · simp [hji, hj1, h2]
-- the context of a body, the judgement
def Cx (Γ : CX) (G : GC) (i : MI) (T : List ExceptionTableEntry) (mc ms : Nat) : Prop := match Γ with
  | (p, l, e, R, s, m, args, below, meth, c) => p.tables.exec = Jvm.exec ∧ c.code = i.2.1 ∧ c.maxLocals = i.2.2.1 ∧ s.vm.findClass i.1.cls = some m.cls ∧ (∀ x ∈ GW, x.before args s = true) ∧ meth.sig.returnType = i.2.2.2.1 ∧ meth.locks = false ∧ meth.name = i.1.name ∧ l.stackTraces = false ∧ c.exceptionTable.toList = T ∧ KS G s ∧ R.frames = i.2.2.2.2.1 ∧ R.locals = i.2.2.2.2.2 ∧ R.cells = mc ∧ R.slots = ms
def PW (Γ : CX) (G : GC) (Z : State → Prop) (pc : Nat) (ls : LL) (st : List Value) (M : PH) (k n : Nat) : Prop := match Γ with
  | (p, l, e, R, s, m, args, below, meth, c) => ∀ (A : Array Slot) (H : Heap) (locs : List Loc), LV A c.maxLocals ls → Sim G M H → va_S (AB G) s.heap H locs → W p l e R s m args below meth c H locs k n Z (F0 m pc A st)
def QcOf (G : GC) (Q : OC → PH → Prop) : Array Value → State → Outcome → State → Prop := fun _ st oc t => (∃ (v : Option Value) (M : PH), oc = .returned v ∧ Q (.inl v) M ∧ Sim G M t.heap) ∧ va_F (AB G) st t
def XCOf (G : GC) (Q : OC → PH → Prop) : String → State → State → Prop := fun E st t => (∃ M : PH, Q (.inr E) M ∧ Sim G M t.heap) ∧ va_F (AB G) st t
def PcOf (G : GC) (as : List Value) (M : PH) : Array Value → State → Prop := fun a U => a = as.toArray ∧ Sim G M U.heap ∧ KS G U
def ZJ (Γ : CX) (G : GC) (mc ms : Nat) (Q : OC → PH → Prop) : State → Prop := match Γ with
  | (_, _, _, _, s, _, args, below, _, _) => vx_MQ below (QcOf G Q) (XCOf G Q) args s mc ms (AB G)
def wsC (i : MI) : List Cond := .code i.1 i.2.1 i.2.2.1 i.2.2.2.1 :: GW
def wsH (i : MI) (hh : List (Nat × Nat × Nat × Nat)) : List Cond := .codeWith i.1 i.2.1 i.2.2.1 i.2.2.2.1 hh :: GW
def rmOf (i : MI) (mc ms : Nat) : Room := { frames := i.2.2.2.2.1, cells := mc, slots := ms, locals := i.2.2.2.2.2 }
def Run (i : MI) (as : List Value) (M : PH) (mc ms : Nat) (Q : OC → PH → Prop) : Prop := ∀ (l : Launch) (G : GC), l.stackTraces = false → vx_Met l i.1 (wsC i) (rmOf i mc ms) (PcOf G as M) (QcOf G Q) (XCOf G Q) mc ms (AB G)
def RunH (i : MI) (hh : List (Nat × Nat × Nat × Nat)) (as : List Value) (M : PH) (mc ms : Nat) (Q : OC → PH → Prop) : Prop := ∀ (l : Launch) (G : GC), l.stackTraces = false → vx_Met l i.1 (wsH i hh) (rmOf i mc ms) (PcOf G as M) (QcOf G Q) (XCOf G Q) mc ms (AB G)
def afind : List (Nat × Value) → Nat → Option Value
  | [], _ => none
  | (j, v) :: t, i => if j = i then some v else afind t i
theorem afind_mem : ∀ (l : List (Nat × Value)) (i : Nat) (v : Value), afind l i = some v → (i, v) ∈ l
  | [], _, _, h => by simp [afind] at h
  | (j, x) :: t, i, v, h => by
    unfold afind at h
    by_cases hj : j = i
    · rw [if_pos hj] at h
      cases h
      subst hj
      exact List.mem_cons_self
    · rw [if_neg hj] at h
      exact List.mem_cons_of_mem _ (afind_mem t i v h)
def lent (vs : List Value) (n : Nat) : LL := (List.range n).map (afind (lv_args 0 vs))
theorem lk_get : ∀ (l : LL) (i : Nat), lk l i = (l[i]?).getD none
  | [], _ => rfl
  | _ :: _, 0 => rfl
  | _ :: t, n + 1 => by
    show lk t n = _
    rw [lk_get t n]
    rfl
theorem lk_lent {vs : List Value} {n i : Nat} {v : Value} (h : lk (lent vs n) i = some v) : (i, v) ∈ lv_args 0 vs := by
  rw [lk_get] at h
  unfold lent at h
  rw [List.getElem?_map] at h
  by_cases hi : i < n
  · rw [List.getElem?_range hi] at h
    exact afind_mem _ _ _ h
  · rw [List.getElem?_eq_none (by simpa using hi)] at h
    cases h
theorem LV.entry {vs : List Value} {n : Nat} {l : LL} (h : (lg_sl vs).length ≤ n) (hl : lent vs n = l) : LV ((lg_sl vs ++ List.replicate (n - (lg_sl vs).length) Slot.unset).toArray) n l := by
  subst hl
  obtain ⟨h1, h2, h3⟩ := lv_entry vs h
  exact ⟨h1, h2, by simp [lent], fun i v hk => h3 (i, v) (lk_lent hk)⟩
theorem Run.of {i : MI} {as : List Value} {M : PH} {mc ms : Nat} {Q : OC → PH → Prop} {l0 : LL} (hy : plainName i.1.cls = true) (hfit : (lg_sl as).length ≤ i.2.2.1) (hl0 : lent as i.2.2.1 = l0)
    (body : ∀ (Γ : CX) (G : GC), Cx Γ G i [] mc ms → PW Γ G (ZJ Γ G mc ms Q) 0 l0 [] M 0 0) : Run i as M mc ms Q := by
  intro l G hst
  refine vx_ofW (cc := i.2.1) (maxL := i.2.2.1) (ret := i.2.2.2.1) hy rfl ?_
  intro p e s m args below meth c s₁ B hml ht hv
  obtain ⟨rfl, hM, hK⟩ := hv
  have hts := atoms_spec (ws := wsC i) B.pre
  have hown : s.vm.findClass i.1.cls = some m.cls := findClass_of_methodNamed B.named
  have hC : Cx (p, l, e, (headSpec (wsC i) (rmOf i mc ms)).room, s, m, as.toArray, below, meth, c) G i [] mc ms :=
    ⟨B.exec, B.bytes, hml, hown, fun x hx => hts x (List.mem_cons_of_mem _ hx), B.returns, B.notSynchronized, (name_of_methodNamed B.named B.method).1, hst, by
      cases h9 : c.exceptionTable.toList with
      | nil => rfl
      | cons x t => exact (ht x (by rw [h9]; exact List.mem_cons_self)).elim, hK, rfl, rfl, rfl, rfl⟩
  have K := body _ G hC
  rw [lg_entry_eq]
  exact K _ _ [] (by rw [hml]; exact LV.entry hfit hl0) hM va_S.rf
theorem RunH.of {i : MI} {hh : List (Nat × Nat × Nat × Nat)} {as : List Value} {M : PH} {mc ms : Nat} {Q : OC → PH → Prop} {l0 : LL} (hy : plainName i.1.cls = true) (hfit : (lg_sl as).length ≤ i.2.2.1) (hl0 : lent as i.2.2.1 = l0)
    (body : ∀ (Γ : CX) (G : GC), Cx Γ G i (tableOf hh) mc ms → PW Γ G (ZJ Γ G mc ms Q) 0 l0 [] M 0 0) : RunH i hh as M mc ms Q := by
  intro l G hst
  refine vx_ofWH (cc := i.2.1) (maxL := i.2.2.1) (ret := i.2.2.2.1) (hh := hh) hy rfl ?_
  intro p e s m args below meth c s₁ B hml hv
  obtain ⟨rfl, hM, hK⟩ := hv
  have hts := atoms_spec (ws := wsH i hh) B.pre
  have hown : s.vm.findClass i.1.cls = some m.cls := findClass_of_methodNamed B.named
  have hC : Cx (p, l, e, (headSpec (wsH i hh) (rmOf i mc ms)).room, s, m, as.toArray, below, meth, c) G i (tableOf hh) mc ms :=
    ⟨B.exec, B.bytes, hml, hown, fun x hx => hts x (List.mem_cons_of_mem _ hx), B.returns, B.notSynchronized, (name_of_methodNamed B.named B.method).1, hst, vx_table (x := i.1) (y := i.1) B (hts _ List.mem_cons_self), hK, rfl, rfl, rfl, rfl⟩
  have K := body _ G hC
  rw [lg_entry_eq]
  exact K _ _ [] (by rw [hml]; exact LV.entry hfit hl0) hM va_S.rf
theorem pw_iconst {Γ : CX} {G : GC} {Z : State → Prop} {i : MI} {T : List ExceptionTableEntry} {mc ms pc q k n : Nat} {ls : LL} {st : List Value} {M : PH} {z : Int} {v : Int32} (C : Cx Γ G i T mc ms) (d : decode i.2.1 pc = .ok (.iconst z, 1)) (hv : Int32.ofInt z = v) (hq : pc + 1 = q) (K : PW Γ G Z q ls (.int v :: st) M k n) : PW Γ G Z pc ls st M k n := by
  obtain ⟨p, l, e, R, s, m, args, below, meth, c⟩ := Γ
  obtain ⟨hx, hb, hml, hown, hts, hret, hlocks, hname, htr, hT, hK, hRf, hRl, hRc, hRs⟩ := C
  subst hq
  intro A H locs hl hM hS
  exact lv_iconst hx hb d hv (K A H locs hl hM hS)
theorem pw_bipush {Γ : CX} {G : GC} {Z : State → Prop} {i : MI} {T : List ExceptionTableEntry} {mc ms pc q k n : Nat} {ls : LL} {st : List Value} {M : PH} {z : Int} {v : Int32} (C : Cx Γ G i T mc ms) (d : decode i.2.1 pc = .ok (.bipush z, 2)) (hv : (Int8.ofInt z).toInt32 = v) (hq : pc + 2 = q) (K : PW Γ G Z q ls (.int v :: st) M k n) : PW Γ G Z pc ls st M k n := by
  obtain ⟨p, l, e, R, s, m, args, below, meth, c⟩ := Γ
  obtain ⟨hx, hb, hml, hown, hts, hret, hlocks, hname, htr, hT, hK, hRf, hRl, hRc, hRs⟩ := C
  subst hq
  intro A H locs hl hM hS
  exact lv_bipush hx hb d hv (K A H locs hl hM hS)
theorem pw_sipush {Γ : CX} {G : GC} {Z : State → Prop} {i : MI} {T : List ExceptionTableEntry} {mc ms pc q k n : Nat} {ls : LL} {st : List Value} {M : PH} {z : Int} {v : Int32} (C : Cx Γ G i T mc ms) (d : decode i.2.1 pc = .ok (.sipush z, 3)) (hv : (Int16.ofInt z).toInt32 = v) (hq : pc + 3 = q) (K : PW Γ G Z q ls (.int v :: st) M k n) : PW Γ G Z pc ls st M k n := by
  obtain ⟨p, l, e, R, s, m, args, below, meth, c⟩ := Γ
  obtain ⟨hx, hb, hml, hown, hts, hret, hlocks, hname, htr, hT, hK, hRf, hRl, hRc, hRs⟩ := C
  subst hq
  intro A H locs hl hM hS
  exact lv_sipush hx hb d hv (K A H locs hl hM hS)
theorem pw_lconst {Γ : CX} {G : GC} {Z : State → Prop} {i : MI} {T : List ExceptionTableEntry} {mc ms pc q k n : Nat} {ls : LL} {st : List Value} {M : PH} {z : Fin 2} {v : Int64} (C : Cx Γ G i T mc ms) (d : decode i.2.1 pc = .ok (.lconst z, 1)) (hv : Int64.ofNat (z : Nat) = v) (hq : pc + 1 = q) (K : PW Γ G Z q ls (.long v :: st) M k n) : PW Γ G Z pc ls st M k n := by
  obtain ⟨p, l, e, R, s, m, args, below, meth, c⟩ := Γ
  obtain ⟨hx, hb, hml, hown, hts, hret, hlocks, hname, htr, hT, hK, hRf, hRl, hRc, hRs⟩ := C
  subst hq
  intro A H locs hl hM hS
  exact lv_lconst hx hb d hv (K A H locs hl hM hS)
theorem pw_iload_n {Γ : CX} {G : GC} {Z : State → Prop} {i : MI} {T : List ExceptionTableEntry} {mc ms pc q k n : Nat} {ls : LL} {st : List Value} {M : PH} {z : Fin 4} {j : Nat} {x : Int32} (C : Cx Γ G i T mc ms) (d : decode i.2.1 pc = .ok (.iload_n z, 1)) (hj : (z : Nat) = j) (hk : lk ls j = some (.int x)) (hq : pc + 1 = q) (K : PW Γ G Z q ls (.int x :: st) M k n) : PW Γ G Z pc ls st M k n := by
  obtain ⟨p, l, e, R, s, m, args, below, meth, c⟩ := Γ
  obtain ⟨hx, hb, hml, hown, hts, hret, hlocks, hname, htr, hT, hK, hRf, hRl, hRc, hRs⟩ := C
  subst hq
  intro A H locs hl hM hS
  exact lv_iload_n hx hb d hj (hl.at hk) (K A H locs hl hM hS)
theorem pw_iload {Γ : CX} {G : GC} {Z : State → Prop} {i : MI} {T : List ExceptionTableEntry} {mc ms pc q k n : Nat} {ls : LL} {st : List Value} {M : PH} {j : Nat} {x : Int32} (C : Cx Γ G i T mc ms) (d : decode i.2.1 pc = .ok (.iload j, 2)) (hk : lk ls j = some (.int x)) (hq : pc + 2 = q) (K : PW Γ G Z q ls (.int x :: st) M k n) : PW Γ G Z pc ls st M k n := by
  obtain ⟨p, l, e, R, s, m, args, below, meth, c⟩ := Γ
  obtain ⟨hx, hb, hml, hown, hts, hret, hlocks, hname, htr, hT, hK, hRf, hRl, hRc, hRs⟩ := C
  subst hq
  intro A H locs hl hM hS
  exact lv_iload hx hb d (hl.at hk) (K A H locs hl hM hS)
theorem pw_istore_n {Γ : CX} {G : GC} {Z : State → Prop} {i : MI} {T : List ExceptionTableEntry} {mc ms pc q k n : Nat} {ls : LL} {st : List Value} {M : PH} {z : Fin 4} {j : Nat} {x : Int32} (C : Cx Γ G i T mc ms) (d : decode i.2.1 pc = .ok (.istore_n z, 1)) (hj : (z : Nat) = j) (hok : okst ls j = true) (hi : j < i.2.2.1) (hq : pc + 1 = q) (K : PW Γ G Z q (lset ls j (some (.int x))) st M k n) : PW Γ G Z pc ls (.int x :: st) M k n := by
  obtain ⟨p, l, e, R, s, m, args, below, meth, c⟩ := Γ
  obtain ⟨hx, hb, hml, hown, hts, hret, hlocks, hname, htr, hT, hK, hRf, hRl, hRc, hRs⟩ := C
  subst hq
  intro A H locs hl hM hS
  exact lv_istore_n hx hb d hj hl.has (by rw [hml]; exact hi) rfl fun B hB => K B H locs (hl.st1 hok (by rw [hml]; exact hi) hB) hM hS
theorem pw_istore {Γ : CX} {G : GC} {Z : State → Prop} {i : MI} {T : List ExceptionTableEntry} {mc ms pc q k n : Nat} {ls : LL} {st : List Value} {M : PH} {j : Nat} {x : Int32} (C : Cx Γ G i T mc ms) (d : decode i.2.1 pc = .ok (.istore j, 2))  (hok : okst ls j = true) (hi : j < i.2.2.1) (hq : pc + 2 = q) (K : PW Γ G Z q (lset ls j (some (.int x))) st M k n) : PW Γ G Z pc ls (.int x :: st) M k n := by
  obtain ⟨p, l, e, R, s, m, args, below, meth, c⟩ := Γ
  obtain ⟨hx, hb, hml, hown, hts, hret, hlocks, hname, htr, hT, hK, hRf, hRl, hRc, hRs⟩ := C
  subst hq
  intro A H locs hl hM hS
  exact lv_istore hx hb d  hl.has (by rw [hml]; exact hi) rfl fun B hB => K B H locs (hl.st1 hok (by rw [hml]; exact hi) hB) hM hS
theorem pw_lload_n {Γ : CX} {G : GC} {Z : State → Prop} {i : MI} {T : List ExceptionTableEntry} {mc ms pc q k n : Nat} {ls : LL} {st : List Value} {M : PH} {z : Fin 4} {j : Nat} {x : Int64} (C : Cx Γ G i T mc ms) (d : decode i.2.1 pc = .ok (.lload_n z, 1)) (hj : (z : Nat) = j) (hk : lk ls j = some (.long x)) (hq : pc + 1 = q) (K : PW Γ G Z q ls (.long x :: st) M k n) : PW Γ G Z pc ls st M k n := by
  obtain ⟨p, l, e, R, s, m, args, below, meth, c⟩ := Γ
  obtain ⟨hx, hb, hml, hown, hts, hret, hlocks, hname, htr, hT, hK, hRf, hRl, hRc, hRs⟩ := C
  subst hq
  intro A H locs hl hM hS
  exact lv_lload_n hx hb d hj (hl.at hk) (K A H locs hl hM hS)
theorem pw_lload {Γ : CX} {G : GC} {Z : State → Prop} {i : MI} {T : List ExceptionTableEntry} {mc ms pc q k n : Nat} {ls : LL} {st : List Value} {M : PH} {j : Nat} {x : Int64} (C : Cx Γ G i T mc ms) (d : decode i.2.1 pc = .ok (.lload j, 2)) (hk : lk ls j = some (.long x)) (hq : pc + 2 = q) (K : PW Γ G Z q ls (.long x :: st) M k n) : PW Γ G Z pc ls st M k n := by
  obtain ⟨p, l, e, R, s, m, args, below, meth, c⟩ := Γ
  obtain ⟨hx, hb, hml, hown, hts, hret, hlocks, hname, htr, hT, hK, hRf, hRl, hRc, hRs⟩ := C
  subst hq
  intro A H locs hl hM hS
  exact lv_lload hx hb d (hl.at hk) (K A H locs hl hM hS)
theorem pw_lstore_n {Γ : CX} {G : GC} {Z : State → Prop} {i : MI} {T : List ExceptionTableEntry} {mc ms pc q k n : Nat} {ls : LL} {st : List Value} {M : PH} {z : Fin 4} {j : Nat} {x : Int64} (C : Cx Γ G i T mc ms) (d : decode i.2.1 pc = .ok (.lstore_n z, 1)) (hj : (z : Nat) = j) (hok : okst ls j = true) (hi : j + 1 < i.2.2.1) (hq : pc + 1 = q) (K : PW Γ G Z q (lset (lset ls j (some (.long x))) (j + 1) none) st M k n) : PW Γ G Z pc ls (.long x :: st) M k n := by
  obtain ⟨p, l, e, R, s, m, args, below, meth, c⟩ := Γ
  obtain ⟨hx, hb, hml, hown, hts, hret, hlocks, hname, htr, hT, hK, hRf, hRl, hRc, hRs⟩ := C
  subst hq
  intro A H locs hl hM hS
  exact lv_lstore_n hx hb d hj hl.has (by rw [hml]; exact hi) rfl fun B hB => K B H locs (hl.st2 hok (by rw [hml]; exact hi) hB) hM hS
theorem pw_lstore {Γ : CX} {G : GC} {Z : State → Prop} {i : MI} {T : List ExceptionTableEntry} {mc ms pc q k n : Nat} {ls : LL} {st : List Value} {M : PH} {j : Nat} {x : Int64} (C : Cx Γ G i T mc ms) (d : decode i.2.1 pc = .ok (.lstore j, 2))  (hok : okst ls j = true) (hi : j + 1 < i.2.2.1) (hq : pc + 2 = q) (K : PW Γ G Z q (lset (lset ls j (some (.long x))) (j + 1) none) st M k n) : PW Γ G Z pc ls (.long x :: st) M k n := by
  obtain ⟨p, l, e, R, s, m, args, below, meth, c⟩ := Γ
  obtain ⟨hx, hb, hml, hown, hts, hret, hlocks, hname, htr, hT, hK, hRf, hRl, hRc, hRs⟩ := C
  subst hq
  intro A H locs hl hM hS
  exact lv_lstore hx hb d  hl.has (by rw [hml]; exact hi) rfl fun B hB => K B H locs (hl.st2 hok (by rw [hml]; exact hi) hB) hM hS
theorem pw_aload_n {Γ : CX} {G : GC} {Z : State → Prop} {i : MI} {T : List ExceptionTableEntry} {mc ms pc q k n : Nat} {ls : LL} {st : List Value} {M : PH} {z : Fin 4} {j : Nat} {x : Nat} (C : Cx Γ G i T mc ms) (d : decode i.2.1 pc = .ok (.aload_n z, 1)) (hj : (z : Nat) = j) (hk : lk ls j = some (.ref x)) (hq : pc + 1 = q) (K : PW Γ G Z q ls (.ref x :: st) M k n) : PW Γ G Z pc ls st M k n := by
  obtain ⟨p, l, e, R, s, m, args, below, meth, c⟩ := Γ
  obtain ⟨hx, hb, hml, hown, hts, hret, hlocks, hname, htr, hT, hK, hRf, hRl, hRc, hRs⟩ := C
  subst hq
  intro A H locs hl hM hS
  exact lv_aload_n hx hb d hj (hl.at hk) (K A H locs hl hM hS)
theorem pw_aload {Γ : CX} {G : GC} {Z : State → Prop} {i : MI} {T : List ExceptionTableEntry} {mc ms pc q k n : Nat} {ls : LL} {st : List Value} {M : PH} {j : Nat} {x : Nat} (C : Cx Γ G i T mc ms) (d : decode i.2.1 pc = .ok (.aload j, 2)) (hk : lk ls j = some (.ref x)) (hq : pc + 2 = q) (K : PW Γ G Z q ls (.ref x :: st) M k n) : PW Γ G Z pc ls st M k n := by
  obtain ⟨p, l, e, R, s, m, args, below, meth, c⟩ := Γ
  obtain ⟨hx, hb, hml, hown, hts, hret, hlocks, hname, htr, hT, hK, hRf, hRl, hRc, hRs⟩ := C
  subst hq
  intro A H locs hl hM hS
  exact lv_aload hx hb d (hl.at hk) (K A H locs hl hM hS)
theorem pw_astore_n {Γ : CX} {G : GC} {Z : State → Prop} {i : MI} {T : List ExceptionTableEntry} {mc ms pc q k n : Nat} {ls : LL} {st : List Value} {M : PH} {z : Fin 4} {j : Nat} {x : Nat} (C : Cx Γ G i T mc ms) (d : decode i.2.1 pc = .ok (.astore_n z, 1)) (hj : (z : Nat) = j) (hok : okst ls j = true) (hi : j < i.2.2.1) (hq : pc + 1 = q) (K : PW Γ G Z q (lset ls j (some (.ref x))) st M k n) : PW Γ G Z pc ls (.ref x :: st) M k n := by
  obtain ⟨p, l, e, R, s, m, args, below, meth, c⟩ := Γ
  obtain ⟨hx, hb, hml, hown, hts, hret, hlocks, hname, htr, hT, hK, hRf, hRl, hRc, hRs⟩ := C
  subst hq
  intro A H locs hl hM hS
  exact lv_astore_n hx hb d hj hl.has (by rw [hml]; exact hi) rfl fun B hB => K B H locs (hl.st1 hok (by rw [hml]; exact hi) hB) hM hS
theorem pw_astore {Γ : CX} {G : GC} {Z : State → Prop} {i : MI} {T : List ExceptionTableEntry} {mc ms pc q k n : Nat} {ls : LL} {st : List Value} {M : PH} {j : Nat} {x : Nat} (C : Cx Γ G i T mc ms) (d : decode i.2.1 pc = .ok (.astore j, 2))  (hok : okst ls j = true) (hi : j < i.2.2.1) (hq : pc + 2 = q) (K : PW Γ G Z q (lset ls j (some (.ref x))) st M k n) : PW Γ G Z pc ls (.ref x :: st) M k n := by
  obtain ⟨p, l, e, R, s, m, args, below, meth, c⟩ := Γ
  obtain ⟨hx, hb, hml, hown, hts, hret, hlocks, hname, htr, hT, hK, hRf, hRl, hRc, hRs⟩ := C
  subst hq
  intro A H locs hl hM hS
  exact lv_astore hx hb d  hl.has (by rw [hml]; exact hi) rfl fun B hB => K B H locs (hl.st1 hok (by rw [hml]; exact hi) hB) hM hS
theorem pw_iinc {Γ : CX} {G : GC} {Z : State → Prop} {i : MI} {T : List ExceptionTableEntry} {mc ms pc q k n : Nat} {ls : LL} {st : List Value} {M : PH} {j : Nat} {z : Int} {x v : Int32} (C : Cx Γ G i T mc ms) (d : decode i.2.1 pc = .ok (.iinc j z, 3)) (hk : lk ls j = some (.int x)) (hv : x + Int32.ofInt z = v) (hok : okst ls j = true) (hi : j < i.2.2.1) (hq : pc + 3 = q) (K : PW Γ G Z q (lset ls j (some (.int v))) st M k n) : PW Γ G Z pc ls st M k n := by
  obtain ⟨p, l, e, R, s, m, args, below, meth, c⟩ := Γ
  obtain ⟨hx, hb, hml, hown, hts, hret, hlocks, hname, htr, hT, hK, hRf, hRl, hRc, hRs⟩ := C
  subst hq
  intro A H locs hl hM hS
  obtain ⟨k0, hk0⟩ := List.getElem?_of_mem (mem_lasc.mpr hk)
  exact lv_iinc hx hb d hl.has hk0 hv (by rw [hml]; exact hi) rfl fun B hB => K B H locs (hl.st1 hok (by rw [hml]; exact hi) hB) hM hS
theorem pw_iadd {Γ : CX} {G : GC} {Z : State → Prop} {i : MI} {T : List ExceptionTableEntry} {mc ms pc q k n : Nat} {ls : LL} {st : List Value} {M : PH} {x y : Int32} (C : Cx Γ G i T mc ms) (d : decode i.2.1 pc = .ok (.iadd, 1))  (hq : pc + 1 = q) (K : PW Γ G Z q ls (.int (x + y) :: st) M k n) : PW Γ G Z pc ls (.int y :: .int x :: st) M k n := by
  obtain ⟨p, l, e, R, s, m, args, below, meth, c⟩ := Γ
  obtain ⟨hx, hb, hml, hown, hts, hret, hlocks, hname, htr, hT, hK, hRf, hRl, hRc, hRs⟩ := C
  subst hq
  intro A H locs hl hM hS
  exact lv_iadd hx hb d  (K A H locs hl hM hS)
theorem pw_ladd {Γ : CX} {G : GC} {Z : State → Prop} {i : MI} {T : List ExceptionTableEntry} {mc ms pc q k n : Nat} {ls : LL} {st : List Value} {M : PH} {x y : Int64} (C : Cx Γ G i T mc ms) (d : decode i.2.1 pc = .ok (.ladd, 1))  (hq : pc + 1 = q) (K : PW Γ G Z q ls (.long (x + y) :: st) M k n) : PW Γ G Z pc ls (.long y :: .long x :: st) M k n := by
  obtain ⟨p, l, e, R, s, m, args, below, meth, c⟩ := Γ
  obtain ⟨hx, hb, hml, hown, hts, hret, hlocks, hname, htr, hT, hK, hRf, hRl, hRc, hRs⟩ := C
  subst hq
  intro A H locs hl hM hS
  exact lv_ladd hx hb d  (K A H locs hl hM hS)
theorem pw_isub {Γ : CX} {G : GC} {Z : State → Prop} {i : MI} {T : List ExceptionTableEntry} {mc ms pc q k n : Nat} {ls : LL} {st : List Value} {M : PH} {x y : Int32} (C : Cx Γ G i T mc ms) (d : decode i.2.1 pc = .ok (.isub, 1))  (hq : pc + 1 = q) (K : PW Γ G Z q ls (.int (x - y) :: st) M k n) : PW Γ G Z pc ls (.int y :: .int x :: st) M k n := by
  obtain ⟨p, l, e, R, s, m, args, below, meth, c⟩ := Γ
  obtain ⟨hx, hb, hml, hown, hts, hret, hlocks, hname, htr, hT, hK, hRf, hRl, hRc, hRs⟩ := C
  subst hq
  intro A H locs hl hM hS
  exact lv_isub hx hb d  (K A H locs hl hM hS)
theorem pw_lsub {Γ : CX} {G : GC} {Z : State → Prop} {i : MI} {T : List ExceptionTableEntry} {mc ms pc q k n : Nat} {ls : LL} {st : List Value} {M : PH} {x y : Int64} (C : Cx Γ G i T mc ms) (d : decode i.2.1 pc = .ok (.lsub, 1))  (hq : pc + 1 = q) (K : PW Γ G Z q ls (.long (x - y) :: st) M k n) : PW Γ G Z pc ls (.long y :: .long x :: st) M k n := by
  obtain ⟨p, l, e, R, s, m, args, below, meth, c⟩ := Γ
  obtain ⟨hx, hb, hml, hown, hts, hret, hlocks, hname, htr, hT, hK, hRf, hRl, hRc, hRs⟩ := C
  subst hq
  intro A H locs hl hM hS
  exact lv_lsub hx hb d  (K A H locs hl hM hS)
theorem pw_imul {Γ : CX} {G : GC} {Z : State → Prop} {i : MI} {T : List ExceptionTableEntry} {mc ms pc q k n : Nat} {ls : LL} {st : List Value} {M : PH} {x y : Int32} (C : Cx Γ G i T mc ms) (d : decode i.2.1 pc = .ok (.imul, 1))  (hq : pc + 1 = q) (K : PW Γ G Z q ls (.int (x * y) :: st) M k n) : PW Γ G Z pc ls (.int y :: .int x :: st) M k n := by
  obtain ⟨p, l, e, R, s, m, args, below, meth, c⟩ := Γ
  obtain ⟨hx, hb, hml, hown, hts, hret, hlocks, hname, htr, hT, hK, hRf, hRl, hRc, hRs⟩ := C
  subst hq
  intro A H locs hl hM hS
  exact lv_imul hx hb d  (K A H locs hl hM hS)
theorem pw_lmul {Γ : CX} {G : GC} {Z : State → Prop} {i : MI} {T : List ExceptionTableEntry} {mc ms pc q k n : Nat} {ls : LL} {st : List Value} {M : PH} {x y : Int64} (C : Cx Γ G i T mc ms) (d : decode i.2.1 pc = .ok (.lmul, 1))  (hq : pc + 1 = q) (K : PW Γ G Z q ls (.long (x * y) :: st) M k n) : PW Γ G Z pc ls (.long y :: .long x :: st) M k n := by
  obtain ⟨p, l, e, R, s, m, args, below, meth, c⟩ := Γ
  obtain ⟨hx, hb, hml, hown, hts, hret, hlocks, hname, htr, hT, hK, hRf, hRl, hRc, hRs⟩ := C
  subst hq
  intro A H locs hl hM hS
  exact lv_lmul hx hb d  (K A H locs hl hM hS)
theorem pw_iand {Γ : CX} {G : GC} {Z : State → Prop} {i : MI} {T : List ExceptionTableEntry} {mc ms pc q k n : Nat} {ls : LL} {st : List Value} {M : PH} {x y : Int32} (C : Cx Γ G i T mc ms) (d : decode i.2.1 pc = .ok (.iand, 1))  (hq : pc + 1 = q) (K : PW Γ G Z q ls (.int (x &&& y) :: st) M k n) : PW Γ G Z pc ls (.int y :: .int x :: st) M k n := by
  obtain ⟨p, l, e, R, s, m, args, below, meth, c⟩ := Γ
  obtain ⟨hx, hb, hml, hown, hts, hret, hlocks, hname, htr, hT, hK, hRf, hRl, hRc, hRs⟩ := C
  subst hq
  intro A H locs hl hM hS
  exact lv_iand hx hb d  (K A H locs hl hM hS)
theorem pw_land {Γ : CX} {G : GC} {Z : State → Prop} {i : MI} {T : List ExceptionTableEntry} {mc ms pc q k n : Nat} {ls : LL} {st : List Value} {M : PH} {x y : Int64} (C : Cx Γ G i T mc ms) (d : decode i.2.1 pc = .ok (.land, 1))  (hq : pc + 1 = q) (K : PW Γ G Z q ls (.long (x &&& y) :: st) M k n) : PW Γ G Z pc ls (.long y :: .long x :: st) M k n := by
  obtain ⟨p, l, e, R, s, m, args, below, meth, c⟩ := Γ
  obtain ⟨hx, hb, hml, hown, hts, hret, hlocks, hname, htr, hT, hK, hRf, hRl, hRc, hRs⟩ := C
  subst hq
  intro A H locs hl hM hS
  exact lv_land hx hb d  (K A H locs hl hM hS)
theorem pw_ior {Γ : CX} {G : GC} {Z : State → Prop} {i : MI} {T : List ExceptionTableEntry} {mc ms pc q k n : Nat} {ls : LL} {st : List Value} {M : PH} {x y : Int32} (C : Cx Γ G i T mc ms) (d : decode i.2.1 pc = .ok (.ior, 1))  (hq : pc + 1 = q) (K : PW Γ G Z q ls (.int (x ||| y) :: st) M k n) : PW Γ G Z pc ls (.int y :: .int x :: st) M k n := by
  obtain ⟨p, l, e, R, s, m, args, below, meth, c⟩ := Γ
  obtain ⟨hx, hb, hml, hown, hts, hret, hlocks, hname, htr, hT, hK, hRf, hRl, hRc, hRs⟩ := C
  subst hq
  intro A H locs hl hM hS
  exact lv_ior hx hb d  (K A H locs hl hM hS)
theorem pw_lor {Γ : CX} {G : GC} {Z : State → Prop} {i : MI} {T : List ExceptionTableEntry} {mc ms pc q k n : Nat} {ls : LL} {st : List Value} {M : PH} {x y : Int64} (C : Cx Γ G i T mc ms) (d : decode i.2.1 pc = .ok (.lor, 1))  (hq : pc + 1 = q) (K : PW Γ G Z q ls (.long (x ||| y) :: st) M k n) : PW Γ G Z pc ls (.long y :: .long x :: st) M k n := by
  obtain ⟨p, l, e, R, s, m, args, below, meth, c⟩ := Γ
  obtain ⟨hx, hb, hml, hown, hts, hret, hlocks, hname, htr, hT, hK, hRf, hRl, hRc, hRs⟩ := C
  subst hq
  intro A H locs hl hM hS
  exact lv_lor hx hb d  (K A H locs hl hM hS)
theorem pw_ineg {Γ : CX} {G : GC} {Z : State → Prop} {i : MI} {T : List ExceptionTableEntry} {mc ms pc q k n : Nat} {ls : LL} {st : List Value} {M : PH} {x : Int32} (C : Cx Γ G i T mc ms) (d : decode i.2.1 pc = .ok (.ineg, 1))  (hq : pc + 1 = q) (K : PW Γ G Z q ls (.int (-x) :: st) M k n) : PW Γ G Z pc ls (.int x :: st) M k n := by
  obtain ⟨p, l, e, R, s, m, args, below, meth, c⟩ := Γ
  obtain ⟨hx, hb, hml, hown, hts, hret, hlocks, hname, htr, hT, hK, hRf, hRl, hRc, hRs⟩ := C
  subst hq
  intro A H locs hl hM hS
  exact lv_ineg hx hb d  (K A H locs hl hM hS)
theorem pw_idiv {Γ : CX} {G : GC} {Z : State → Prop} {i : MI} {T : List ExceptionTableEntry} {mc ms pc q k n : Nat} {ls : LL} {st : List Value} {M : PH} {x y : Int32} (C : Cx Γ G i T mc ms) (d : decode i.2.1 pc = .ok (.idiv, 1)) (hne : ¬ y = 0) (hq : pc + 1 = q) (K : PW Γ G Z q ls (.int (x / y) :: st) M k n) : PW Γ G Z pc ls (.int y :: .int x :: st) M k n := by
  obtain ⟨p, l, e, R, s, m, args, below, meth, c⟩ := Γ
  obtain ⟨hx, hb, hml, hown, hts, hret, hlocks, hname, htr, hT, hK, hRf, hRl, hRc, hRs⟩ := C
  subst hq
  intro A H locs hl hM hS
  exact lv_idiv hx hb d hne (K A H locs hl hM hS)
theorem pw_irem {Γ : CX} {G : GC} {Z : State → Prop} {i : MI} {T : List ExceptionTableEntry} {mc ms pc q k n : Nat} {ls : LL} {st : List Value} {M : PH} {x y : Int32} (C : Cx Γ G i T mc ms) (d : decode i.2.1 pc = .ok (.irem, 1)) (hne : ¬ y = 0) (hq : pc + 1 = q) (K : PW Γ G Z q ls (.int (x - (x / y) * y) :: st) M k n) : PW Γ G Z pc ls (.int y :: .int x :: st) M k n := by
  obtain ⟨p, l, e, R, s, m, args, below, meth, c⟩ := Γ
  obtain ⟨hx, hb, hml, hown, hts, hret, hlocks, hname, htr, hT, hK, hRf, hRl, hRc, hRs⟩ := C
  subst hq
  intro A H locs hl hM hS
  exact lv_irem hx hb d hne (K A H locs hl hM hS)
theorem pw_ldiv {Γ : CX} {G : GC} {Z : State → Prop} {i : MI} {T : List ExceptionTableEntry} {mc ms pc q k n : Nat} {ls : LL} {st : List Value} {M : PH} {x y : Int64} (C : Cx Γ G i T mc ms) (d : decode i.2.1 pc = .ok (.ldiv, 1)) (hne : ¬ y = 0) (hq : pc + 1 = q) (K : PW Γ G Z q ls (.long (x / y) :: st) M k n) : PW Γ G Z pc ls (.long y :: .long x :: st) M k n := by
  obtain ⟨p, l, e, R, s, m, args, below, meth, c⟩ := Γ
  obtain ⟨hx, hb, hml, hown, hts, hret, hlocks, hname, htr, hT, hK, hRf, hRl, hRc, hRs⟩ := C
  subst hq
  intro A H locs hl hM hS
  exact lv_ldiv hx hb d hne (K A H locs hl hM hS)
theorem pw_lrem {Γ : CX} {G : GC} {Z : State → Prop} {i : MI} {T : List ExceptionTableEntry} {mc ms pc q k n : Nat} {ls : LL} {st : List Value} {M : PH} {x y : Int64} (C : Cx Γ G i T mc ms) (d : decode i.2.1 pc = .ok (.lrem, 1)) (hne : ¬ y = 0) (hq : pc + 1 = q) (K : PW Γ G Z q ls (.long (x - (x / y) * y) :: st) M k n) : PW Γ G Z pc ls (.long y :: .long x :: st) M k n := by
  obtain ⟨p, l, e, R, s, m, args, below, meth, c⟩ := Γ
  obtain ⟨hx, hb, hml, hown, hts, hret, hlocks, hname, htr, hT, hK, hRf, hRl, hRc, hRs⟩ := C
  subst hq
  intro A H locs hl hM hS
  exact lv_lrem hx hb d hne (K A H locs hl hM hS)
theorem pw_i2l {Γ : CX} {G : GC} {Z : State → Prop} {i : MI} {T : List ExceptionTableEntry} {mc ms pc q k n : Nat} {ls : LL} {st : List Value} {M : PH} {x : Int32} (C : Cx Γ G i T mc ms) (d : decode i.2.1 pc = .ok (.i2l, 1))  (hq : pc + 1 = q) (K : PW Γ G Z q ls (.long x.toInt64 :: st) M k n) : PW Γ G Z pc ls (.int x :: st) M k n := by
  obtain ⟨p, l, e, R, s, m, args, below, meth, c⟩ := Γ
  obtain ⟨hx, hb, hml, hown, hts, hret, hlocks, hname, htr, hT, hK, hRf, hRl, hRc, hRs⟩ := C
  subst hq
  intro A H locs hl hM hS
  exact lv_i2l hx hb d rfl (K A H locs hl hM hS)
theorem pw_l2i {Γ : CX} {G : GC} {Z : State → Prop} {i : MI} {T : List ExceptionTableEntry} {mc ms pc q k n : Nat} {ls : LL} {st : List Value} {M : PH} {x : Int64} (C : Cx Γ G i T mc ms) (d : decode i.2.1 pc = .ok (.l2i, 1))  (hq : pc + 1 = q) (K : PW Γ G Z q ls (.int x.toInt32 :: st) M k n) : PW Γ G Z pc ls (.long x :: st) M k n := by
  obtain ⟨p, l, e, R, s, m, args, below, meth, c⟩ := Γ
  obtain ⟨hx, hb, hml, hown, hts, hret, hlocks, hname, htr, hT, hK, hRf, hRl, hRc, hRs⟩ := C
  subst hq
  intro A H locs hl hM hS
  exact lv_l2i hx hb d rfl (K A H locs hl hM hS)
theorem pw_i2c {Γ : CX} {G : GC} {Z : State → Prop} {i : MI} {T : List ExceptionTableEntry} {mc ms pc q k n : Nat} {ls : LL} {st : List Value} {M : PH} {x : Int32} (C : Cx Γ G i T mc ms) (d : decode i.2.1 pc = .ok (.i2c, 1))  (hq : pc + 1 = q) (K : PW Γ G Z q ls (.int (x.toUInt32 % 65536).toInt32 :: st) M k n) : PW Γ G Z pc ls (.int x :: st) M k n := by
  obtain ⟨p, l, e, R, s, m, args, below, meth, c⟩ := Γ
  obtain ⟨hx, hb, hml, hown, hts, hret, hlocks, hname, htr, hT, hK, hRf, hRl, hRc, hRs⟩ := C
  subst hq
  intro A H locs hl hM hS
  exact lv_i2c hx hb d rfl (K A H locs hl hM hS)
theorem pw_lushr {Γ : CX} {G : GC} {Z : State → Prop} {i : MI} {T : List ExceptionTableEntry} {mc ms pc q k n : Nat} {ls : LL} {st : List Value} {M : PH} {x : Int64} {y : Int32} (C : Cx Γ G i T mc ms) (d : decode i.2.1 pc = .ok (.lushr, 1))  (hq : pc + 1 = q) (K : PW Γ G Z q ls (.long (x.toUInt64 >>> (y.toInt64.toUInt64 &&& Int64.toUInt64 63)).toInt64 :: st) M k n) : PW Γ G Z pc ls (.int y :: .long x :: st) M k n := by
  obtain ⟨p, l, e, R, s, m, args, below, meth, c⟩ := Γ
  obtain ⟨hx, hb, hml, hown, hts, hret, hlocks, hname, htr, hT, hK, hRf, hRl, hRc, hRs⟩ := C
  subst hq
  intro A H locs hl hM hS
  exact lv_lushr hx hb d rfl (K A H locs hl hM hS)
theorem pw_lshl {Γ : CX} {G : GC} {Z : State → Prop} {i : MI} {T : List ExceptionTableEntry} {mc ms pc q k n : Nat} {ls : LL} {st : List Value} {M : PH} {x : Int64} {y : Int32} (C : Cx Γ G i T mc ms) (d : decode i.2.1 pc = .ok (.lshl, 1))  (hq : pc + 1 = q) (K : PW Γ G Z q ls (.long (x <<< (y.toInt64 &&& 63)) :: st) M k n) : PW Γ G Z pc ls (.int y :: .long x :: st) M k n := by
  obtain ⟨p, l, e, R, s, m, args, below, meth, c⟩ := Γ
  obtain ⟨hx, hb, hml, hown, hts, hret, hlocks, hname, htr, hT, hK, hRf, hRl, hRc, hRs⟩ := C
  subst hq
  intro A H locs hl hM hS
  exact lv_lshl hx hb d rfl (K A H locs hl hM hS)
theorem pw_lcmp {Γ : CX} {G : GC} {Z : State → Prop} {i : MI} {T : List ExceptionTableEntry} {mc ms pc q k n : Nat} {ls : LL} {st : List Value} {M : PH} {x y : Int64} (C : Cx Γ G i T mc ms) (d : decode i.2.1 pc = .ok (.lcmp, 1))  (hq : pc + 1 = q) (K : PW Γ G Z q ls (.int (lg_cmp x y) :: st) M k n) : PW Γ G Z pc ls (.long y :: .long x :: st) M k n := by
  obtain ⟨p, l, e, R, s, m, args, below, meth, c⟩ := Γ
  obtain ⟨hx, hb, hml, hown, hts, hret, hlocks, hname, htr, hT, hK, hRf, hRl, hRc, hRs⟩ := C
  subst hq
  intro A H locs hl hM hS
  exact W.lcmp hx hb d  (K A H locs hl hM hS)
theorem pw_dup {Γ : CX} {G : GC} {Z : State → Prop} {i : MI} {T : List ExceptionTableEntry} {mc ms pc q k n : Nat} {ls : LL} {st : List Value} {M : PH} {va : Value} (C : Cx Γ G i T mc ms) (d : decode i.2.1 pc = .ok (.dup, 1)) (hva : va.category = 1) (hq : pc + 1 = q) (K : PW Γ G Z q ls (va :: va :: st) M k n) : PW Γ G Z pc ls (va :: st) M k n := by
  obtain ⟨p, l, e, R, s, m, args, below, meth, c⟩ := Γ
  obtain ⟨hx, hb, hml, hown, hts, hret, hlocks, hname, htr, hT, hK, hRf, hRl, hRc, hRs⟩ := C
  subst hq
  intro A H locs hl hM hS
  exact lv_dup hx hb d hva (K A H locs hl hM hS)
theorem pw_pop {Γ : CX} {G : GC} {Z : State → Prop} {i : MI} {T : List ExceptionTableEntry} {mc ms pc q k n : Nat} {ls : LL} {st : List Value} {M : PH} {va : Value} (C : Cx Γ G i T mc ms) (d : decode i.2.1 pc = .ok (.pop, 1)) (hva : va.category = 1) (hq : pc + 1 = q) (K : PW Γ G Z q ls st M k n) : PW Γ G Z pc ls (va :: st) M k n := by
  obtain ⟨p, l, e, R, s, m, args, below, meth, c⟩ := Γ
  obtain ⟨hx, hb, hml, hown, hts, hret, hlocks, hname, htr, hT, hK, hRf, hRl, hRc, hRs⟩ := C
  subst hq
  intro A H locs hl hM hS
  exact lv_pop hx hb d hva (K A H locs hl hM hS)
theorem pw_dup2 {Γ : CX} {G : GC} {Z : State → Prop} {i : MI} {T : List ExceptionTableEntry} {mc ms pc q k n : Nat} {ls : LL} {st : List Value} {M : PH} {va vb : Value} (C : Cx Γ G i T mc ms) (d : decode i.2.1 pc = .ok (.dup2, 1)) (hva : va.category = 1) (hvb : vb.category = 1) (hq : pc + 1 = q) (K : PW Γ G Z q ls (va :: vb :: va :: vb :: st) M k n) : PW Γ G Z pc ls (va :: vb :: st) M k n := by
  obtain ⟨p, l, e, R, s, m, args, below, meth, c⟩ := Γ
  obtain ⟨hx, hb, hml, hown, hts, hret, hlocks, hname, htr, hT, hK, hRf, hRl, hRc, hRs⟩ := C
  subst hq
  intro A H locs hl hM hS
  exact lv_dup2_11 hx hb d hva hvb (K A H locs hl hM hS)
theorem pw_if_eq {Γ : CX} {G : GC} {Z : State → Prop} {i : MI} {T : List ExceptionTableEntry} {mc ms pc q k n : Nat} {ls : LL} {st : List Value} {M : PH} {x : Int32} {off : Int} (tgt : Nat) (C : Cx Γ G i T mc ms) (d : decode i.2.1 pc = .ok (.ifCond .eq off, 3)) (ht : (pc : Int) + off = (tgt : Int)) (hq : pc + 3 = q) (Kt : x = 0 → PW Γ G Z tgt ls st M k n) (Kf : ¬ x = 0 → PW Γ G Z q ls st M k n) : PW Γ G Z pc ls (.int x :: st) M k n := by
  obtain ⟨p, l, e, R, s, m, args, below, meth, c⟩ := Γ
  obtain ⟨hx, hb, hml, hown, hts, hret, hlocks, hname, htr, hT, hK, hRf, hRl, hRc, hRs⟩ := C
  subst hq
  intro A H locs hl hM hS
  exact lv_if_eq hx hb d ht (fun h => Kt h A H locs hl hM hS) (fun h => Kf (by first | exact h | exact Decidable.not_not.mp h) A H locs hl hM hS)
theorem pw_icmp_eq {Γ : CX} {G : GC} {Z : State → Prop} {i : MI} {T : List ExceptionTableEntry} {mc ms pc q k n : Nat} {ls : LL} {st : List Value} {M : PH} {x y : Int32} {off : Int} (tgt : Nat) (C : Cx Γ G i T mc ms) (d : decode i.2.1 pc = .ok (.if_icmp .eq off, 3)) (ht : (pc : Int) + off = (tgt : Int)) (hq : pc + 3 = q) (Kt : x = y → PW Γ G Z tgt ls st M k n) (Kf : ¬ x = y → PW Γ G Z q ls st M k n) : PW Γ G Z pc ls (.int y :: .int x :: st) M k n := by
  obtain ⟨p, l, e, R, s, m, args, below, meth, c⟩ := Γ
  obtain ⟨hx, hb, hml, hown, hts, hret, hlocks, hname, htr, hT, hK, hRf, hRl, hRc, hRs⟩ := C
  subst hq
  intro A H locs hl hM hS
  exact lv_icmp_eq hx hb d ht (fun h => Kt h A H locs hl hM hS) (fun h => Kf (by first | exact h | exact Decidable.not_not.mp h) A H locs hl hM hS)
theorem pw_if_ne {Γ : CX} {G : GC} {Z : State → Prop} {i : MI} {T : List ExceptionTableEntry} {mc ms pc q k n : Nat} {ls : LL} {st : List Value} {M : PH} {x : Int32} {off : Int} (tgt : Nat) (C : Cx Γ G i T mc ms) (d : decode i.2.1 pc = .ok (.ifCond .ne off, 3)) (ht : (pc : Int) + off = (tgt : Int)) (hq : pc + 3 = q) (Kt : ¬ x = 0 → PW Γ G Z tgt ls st M k n) (Kf : x = 0 → PW Γ G Z q ls st M k n) : PW Γ G Z pc ls (.int x :: st) M k n := by
  obtain ⟨p, l, e, R, s, m, args, below, meth, c⟩ := Γ
  obtain ⟨hx, hb, hml, hown, hts, hret, hlocks, hname, htr, hT, hK, hRf, hRl, hRc, hRs⟩ := C
  subst hq
  intro A H locs hl hM hS
  exact lv_if_ne hx hb d ht (fun h => Kt h A H locs hl hM hS) (fun h => Kf (by first | exact h | exact Decidable.not_not.mp h) A H locs hl hM hS)
theorem pw_icmp_ne {Γ : CX} {G : GC} {Z : State → Prop} {i : MI} {T : List ExceptionTableEntry} {mc ms pc q k n : Nat} {ls : LL} {st : List Value} {M : PH} {x y : Int32} {off : Int} (tgt : Nat) (C : Cx Γ G i T mc ms) (d : decode i.2.1 pc = .ok (.if_icmp .ne off, 3)) (ht : (pc : Int) + off = (tgt : Int)) (hq : pc + 3 = q) (Kt : ¬ x = y → PW Γ G Z tgt ls st M k n) (Kf : x = y → PW Γ G Z q ls st M k n) : PW Γ G Z pc ls (.int y :: .int x :: st) M k n := by
  obtain ⟨p, l, e, R, s, m, args, below, meth, c⟩ := Γ
  obtain ⟨hx, hb, hml, hown, hts, hret, hlocks, hname, htr, hT, hK, hRf, hRl, hRc, hRs⟩ := C
  subst hq
  intro A H locs hl hM hS
  exact lv_icmp_ne hx hb d ht (fun h => Kt h A H locs hl hM hS) (fun h => Kf (by first | exact h | exact Decidable.not_not.mp h) A H locs hl hM hS)
theorem pw_if_lt {Γ : CX} {G : GC} {Z : State → Prop} {i : MI} {T : List ExceptionTableEntry} {mc ms pc q k n : Nat} {ls : LL} {st : List Value} {M : PH} {x : Int32} {off : Int} (tgt : Nat) (C : Cx Γ G i T mc ms) (d : decode i.2.1 pc = .ok (.ifCond .lt off, 3)) (ht : (pc : Int) + off = (tgt : Int)) (hq : pc + 3 = q) (Kt : x < 0 → PW Γ G Z tgt ls st M k n) (Kf : ¬ x < 0 → PW Γ G Z q ls st M k n) : PW Γ G Z pc ls (.int x :: st) M k n := by
  obtain ⟨p, l, e, R, s, m, args, below, meth, c⟩ := Γ
  obtain ⟨hx, hb, hml, hown, hts, hret, hlocks, hname, htr, hT, hK, hRf, hRl, hRc, hRs⟩ := C
  subst hq
  intro A H locs hl hM hS
  exact lv_if_lt hx hb d ht (fun h => Kt h A H locs hl hM hS) (fun h => Kf (by first | exact h | exact Decidable.not_not.mp h) A H locs hl hM hS)
theorem pw_icmp_lt {Γ : CX} {G : GC} {Z : State → Prop} {i : MI} {T : List ExceptionTableEntry} {mc ms pc q k n : Nat} {ls : LL} {st : List Value} {M : PH} {x y : Int32} {off : Int} (tgt : Nat) (C : Cx Γ G i T mc ms) (d : decode i.2.1 pc = .ok (.if_icmp .lt off, 3)) (ht : (pc : Int) + off = (tgt : Int)) (hq : pc + 3 = q) (Kt : x < y → PW Γ G Z tgt ls st M k n) (Kf : ¬ x < y → PW Γ G Z q ls st M k n) : PW Γ G Z pc ls (.int y :: .int x :: st) M k n := by
  obtain ⟨p, l, e, R, s, m, args, below, meth, c⟩ := Γ
  obtain ⟨hx, hb, hml, hown, hts, hret, hlocks, hname, htr, hT, hK, hRf, hRl, hRc, hRs⟩ := C
  subst hq
  intro A H locs hl hM hS
  exact lv_icmp_lt hx hb d ht (fun h => Kt h A H locs hl hM hS) (fun h => Kf (by first | exact h | exact Decidable.not_not.mp h) A H locs hl hM hS)
theorem pw_if_ge {Γ : CX} {G : GC} {Z : State → Prop} {i : MI} {T : List ExceptionTableEntry} {mc ms pc q k n : Nat} {ls : LL} {st : List Value} {M : PH} {x : Int32} {off : Int} (tgt : Nat) (C : Cx Γ G i T mc ms) (d : decode i.2.1 pc = .ok (.ifCond .ge off, 3)) (ht : (pc : Int) + off = (tgt : Int)) (hq : pc + 3 = q) (Kt : 0 ≤ x → PW Γ G Z tgt ls st M k n) (Kf : ¬ 0 ≤ x → PW Γ G Z q ls st M k n) : PW Γ G Z pc ls (.int x :: st) M k n := by
  obtain ⟨p, l, e, R, s, m, args, below, meth, c⟩ := Γ
  obtain ⟨hx, hb, hml, hown, hts, hret, hlocks, hname, htr, hT, hK, hRf, hRl, hRc, hRs⟩ := C
  subst hq
  intro A H locs hl hM hS
  exact lv_if_ge hx hb d ht (fun h => Kt h A H locs hl hM hS) (fun h => Kf (by first | exact h | exact Decidable.not_not.mp h) A H locs hl hM hS)
theorem pw_icmp_ge {Γ : CX} {G : GC} {Z : State → Prop} {i : MI} {T : List ExceptionTableEntry} {mc ms pc q k n : Nat} {ls : LL} {st : List Value} {M : PH} {x y : Int32} {off : Int} (tgt : Nat) (C : Cx Γ G i T mc ms) (d : decode i.2.1 pc = .ok (.if_icmp .ge off, 3)) (ht : (pc : Int) + off = (tgt : Int)) (hq : pc + 3 = q) (Kt : y ≤ x → PW Γ G Z tgt ls st M k n) (Kf : ¬ y ≤ x → PW Γ G Z q ls st M k n) : PW Γ G Z pc ls (.int y :: .int x :: st) M k n := by
  obtain ⟨p, l, e, R, s, m, args, below, meth, c⟩ := Γ
  obtain ⟨hx, hb, hml, hown, hts, hret, hlocks, hname, htr, hT, hK, hRf, hRl, hRc, hRs⟩ := C
  subst hq
  intro A H locs hl hM hS
  exact lv_icmp_ge hx hb d ht (fun h => Kt h A H locs hl hM hS) (fun h => Kf (by first | exact h | exact Decidable.not_not.mp h) A H locs hl hM hS)
theorem pw_if_gt {Γ : CX} {G : GC} {Z : State → Prop} {i : MI} {T : List ExceptionTableEntry} {mc ms pc q k n : Nat} {ls : LL} {st : List Value} {M : PH} {x : Int32} {off : Int} (tgt : Nat) (C : Cx Γ G i T mc ms) (d : decode i.2.1 pc = .ok (.ifCond .gt off, 3)) (ht : (pc : Int) + off = (tgt : Int)) (hq : pc + 3 = q) (Kt : 0 < x → PW Γ G Z tgt ls st M k n) (Kf : ¬ 0 < x → PW Γ G Z q ls st M k n) : PW Γ G Z pc ls (.int x :: st) M k n := by
  obtain ⟨p, l, e, R, s, m, args, below, meth, c⟩ := Γ
  obtain ⟨hx, hb, hml, hown, hts, hret, hlocks, hname, htr, hT, hK, hRf, hRl, hRc, hRs⟩ := C
  subst hq
  intro A H locs hl hM hS
  exact lv_if_gt hx hb d ht (fun h => Kt h A H locs hl hM hS) (fun h => Kf (by first | exact h | exact Decidable.not_not.mp h) A H locs hl hM hS)
theorem pw_icmp_gt {Γ : CX} {G : GC} {Z : State → Prop} {i : MI} {T : List ExceptionTableEntry} {mc ms pc q k n : Nat} {ls : LL} {st : List Value} {M : PH} {x y : Int32} {off : Int} (tgt : Nat) (C : Cx Γ G i T mc ms) (d : decode i.2.1 pc = .ok (.if_icmp .gt off, 3)) (ht : (pc : Int) + off = (tgt : Int)) (hq : pc + 3 = q) (Kt : y < x → PW Γ G Z tgt ls st M k n) (Kf : ¬ y < x → PW Γ G Z q ls st M k n) : PW Γ G Z pc ls (.int y :: .int x :: st) M k n := by
  obtain ⟨p, l, e, R, s, m, args, below, meth, c⟩ := Γ
  obtain ⟨hx, hb, hml, hown, hts, hret, hlocks, hname, htr, hT, hK, hRf, hRl, hRc, hRs⟩ := C
  subst hq
  intro A H locs hl hM hS
  exact lv_icmp_gt hx hb d ht (fun h => Kt h A H locs hl hM hS) (fun h => Kf (by first | exact h | exact Decidable.not_not.mp h) A H locs hl hM hS)
theorem pw_if_le {Γ : CX} {G : GC} {Z : State → Prop} {i : MI} {T : List ExceptionTableEntry} {mc ms pc q k n : Nat} {ls : LL} {st : List Value} {M : PH} {x : Int32} {off : Int} (tgt : Nat) (C : Cx Γ G i T mc ms) (d : decode i.2.1 pc = .ok (.ifCond .le off, 3)) (ht : (pc : Int) + off = (tgt : Int)) (hq : pc + 3 = q) (Kt : x ≤ 0 → PW Γ G Z tgt ls st M k n) (Kf : ¬ x ≤ 0 → PW Γ G Z q ls st M k n) : PW Γ G Z pc ls (.int x :: st) M k n := by
  obtain ⟨p, l, e, R, s, m, args, below, meth, c⟩ := Γ
  obtain ⟨hx, hb, hml, hown, hts, hret, hlocks, hname, htr, hT, hK, hRf, hRl, hRc, hRs⟩ := C
  subst hq
  intro A H locs hl hM hS
  exact lv_if_le hx hb d ht (fun h => Kt h A H locs hl hM hS) (fun h => Kf (by first | exact h | exact Decidable.not_not.mp h) A H locs hl hM hS)
theorem pw_icmp_le {Γ : CX} {G : GC} {Z : State → Prop} {i : MI} {T : List ExceptionTableEntry} {mc ms pc q k n : Nat} {ls : LL} {st : List Value} {M : PH} {x y : Int32} {off : Int} (tgt : Nat) (C : Cx Γ G i T mc ms) (d : decode i.2.1 pc = .ok (.if_icmp .le off, 3)) (ht : (pc : Int) + off = (tgt : Int)) (hq : pc + 3 = q) (Kt : x ≤ y → PW Γ G Z tgt ls st M k n) (Kf : ¬ x ≤ y → PW Γ G Z q ls st M k n) : PW Γ G Z pc ls (.int y :: .int x :: st) M k n := by
  obtain ⟨p, l, e, R, s, m, args, below, meth, c⟩ := Γ
  obtain ⟨hx, hb, hml, hown, hts, hret, hlocks, hname, htr, hT, hK, hRf, hRl, hRc, hRs⟩ := C
  subst hq
  intro A H locs hl hM hS
  exact lv_icmp_le hx hb d ht (fun h => Kt h A H locs hl hM hS) (fun h => Kf (by first | exact h | exact Decidable.not_not.mp h) A H locs hl hM hS)
theorem pw_goto {Γ : CX} {G : GC} {Z : State → Prop} {i : MI} {T : List ExceptionTableEntry} {mc ms pc q k n : Nat} {ls : LL} {st : List Value} {M : PH} {off : Int} (tgt : Nat) (C : Cx Γ G i T mc ms) (d : decode i.2.1 pc = .ok (.goto off, 3)) (ht : (pc : Int) + off = (tgt : Int)) (K : PW Γ G Z tgt ls st M k n) : PW Γ G Z pc ls st M k n := by
  obtain ⟨p, l, e, R, s, m, args, below, meth, c⟩ := Γ
  obtain ⟨hx, hb, hml, hown, hts, hret, hlocks, hname, htr, hT, hK, hRf, hRl, hRc, hRs⟩ := C
  intro A H locs hl hM hS
  exact lv_goto hx hb d ht (K A H locs hl hM hS)
theorem pw_ifnull {Γ : CX} {G : GC} {Z : State → Prop} {i : MI} {T : List ExceptionTableEntry} {mc ms pc q k n : Nat} {ls : LL} {st : List Value} {M : PH} {off : Int} {a : Nat} (C : Cx Γ G i T mc ms) (d : decode i.2.1 pc = .ok (.ifnull off, 3)) (hq : pc + 3 = q) (K : PW Γ G Z q ls st M k n) : PW Γ G Z pc ls (.ref a :: st) M k n := by
  obtain ⟨p, l, e, R, s, m, args, below, meth, c⟩ := Γ
  obtain ⟨hx, hb, hml, hown, hts, hret, hlocks, hname, htr, hT, hK, hRf, hRl, hRc, hRs⟩ := C
  subst hq
  intro A H locs hl hM hS
  exact lv_ifnull hx hb d (K A H locs hl hM hS)
theorem pw_tableIn {Γ : CX} {G : GC} {Z : State → Prop} {i : MI} {T : List ExceptionTableEntry} {mc ms pc q k n : Nat} {ls : LL} {st : List Value} {M : PH} {dflt lo hi off : Int} {offs : Array Int} {len : Nat} {x : Int32} (tgt : Nat) (C : Cx Γ G i T mc ms) (d : decode i.2.1 pc = .ok (.tableswitch dflt lo hi offs, len)) (h1 : ¬ x.toInt < lo) (h2 : ¬ hi < x.toInt) (ho : offs[(x.toInt - lo).toNat]? = some off) (ht : (pc : Int) + off = (tgt : Int)) (K : PW Γ G Z tgt ls st M k n) : PW Γ G Z pc ls (.int x :: st) M k n := by
  obtain ⟨p, l, e, R, s, m, args, below, meth, c⟩ := Γ
  obtain ⟨hx, hb, hml, hown, hts, hret, hlocks, hname, htr, hT, hK, hRf, hRl, hRc, hRs⟩ := C
  intro A H locs hl hM hS
  exact lv_tableIn hx hb d h1 h2 ho ht (K A H locs hl hM hS)
theorem pw_tableOut {Γ : CX} {G : GC} {Z : State → Prop} {i : MI} {T : List ExceptionTableEntry} {mc ms pc q k n : Nat} {ls : LL} {st : List Value} {M : PH} {dflt lo hi : Int} {offs : Array Int} {len : Nat} {x : Int32} (tgt : Nat) (C : Cx Γ G i T mc ms) (d : decode i.2.1 pc = .ok (.tableswitch dflt lo hi offs, len)) (h : x.toInt < lo ∨ hi < x.toInt) (ht : (pc : Int) + dflt = (tgt : Int)) (K : PW Γ G Z tgt ls st M k n) : PW Γ G Z pc ls (.int x :: st) M k n := by
  obtain ⟨p, l, e, R, s, m, args, below, meth, c⟩ := Γ
  obtain ⟨hx, hb, hml, hown, hts, hret, hlocks, hname, htr, hT, hK, hRf, hRl, hRc, hRs⟩ := C
  intro A H locs hl hM hS
  exact lv_tableOut hx hb d h ht (K A H locs hl hM hS)
theorem pw_lookup {Γ : CX} {G : GC} {Z : State → Prop} {i : MI} {T : List ExceptionTableEntry} {mc ms pc q k n : Nat} {ls : LL} {st : List Value} {M : PH} {dflt off : Int} {ps : Array (Int × Int)} {len : Nat} {x : Int32} (tgt : Nat) (C : Cx Γ G i T mc ms) (d : decode i.2.1 pc = .ok (.lookupswitch dflt ps, len)) (hp : (ps.toList.zip (ps.toList.drop 1)).all (fun (a, next) => a.1 < next.1) = true) (ho : Op.lookupswitch.offset ps.toList dflt x.toInt = off) (ht : (pc : Int) + off = (tgt : Int)) (K : PW Γ G Z tgt ls st M k n) : PW Γ G Z pc ls (.int x :: st) M k n := by
  obtain ⟨p, l, e, R, s, m, args, below, meth, c⟩ := Γ
  obtain ⟨hx, hb, hml, hown, hts, hret, hlocks, hname, htr, hT, hK, hRf, hRl, hRc, hRs⟩ := C
  intro A H locs hl hM hS
  exact lv_lookup hx hb d hp ho ht (K A H locs hl hM hS)
theorem pw_ldc2 {Γ : CX} {G : GC} {Z : State → Prop} {i : MI} {T : List ExceptionTableEntry} {mc ms pc q k n : Nat} {ls : LL} {st : List Value} {M : PH} {idx : Nat} {v : Int64} (C : Cx Γ G i T mc ms) (d : decode i.2.1 pc = .ok (.ldc2_w idx, 3)) (hw : Cond.constantLong i.1.cls idx v ∈ GW) (hq : pc + 3 = q) (K : PW Γ G Z q ls (.long v :: st) M k n) : PW Γ G Z pc ls st M k n := by
  obtain ⟨p, l, e, R, s, m, args, below, meth, c⟩ := Γ
  obtain ⟨hx, hb, hml, hown, hts, hret, hlocks, hname, htr, hT, hK, hRf, hRl, hRc, hRs⟩ := C
  subst hq
  intro A H locs hl hM hS
  exact lv_ldc2 hx hb hown (hts _ hw) d  (K A H locs hl hM hS)
-- classes and fields
def KC (ci : Nat) (D : String) (T : u_T) (N : Nat) (ty : Nat → FieldType) : Prop := vwCl[ci]? = some (D, T, N) ∧ (∀ k, k < N → parseFieldDescriptor (T k).2.2.1 = some (ty k)) ∧ (∀ a, a < N → ∀ b, b < N → a ≠ b → (T a).2.1 ≠ (T b).2.1) ∧ ∀ x ∈ u_ws D T N, x ∈ GW
def FL (own : String) (idx ci kf : Nat) (ty : FieldType) (fin : Bool) : Prop := ∃ (D : String) (T : u_T) (N : Nat) (tf : Nat → FieldType), KC ci D T N tf ∧ kf < N ∧ Cond.fieldLink own idx (T kf).1 (T kf).2.1 (T kf).2.2.1 ∈ GW ∧ tf kf = ty ∧ (T kf).2.2.2 = fin ∧ (T kf).1 = D
def NC (own : String) (idx ci N : Nat) (fs : List Value) : Prop := ∃ (D : String) (T : u_T) (tf : Nat → FieldType), KC ci D T N tf ∧ Cond.classLink own idx D ∈ GW ∧ Cond.instantiable D N ∈ GW ∧ Cond.initialized D ∈ GW ∧ ∀ j, j < N → defaultValue (tf j) = vp_V fs j
theorem pw_getf {Γ : CX} {G : GC} {Z : State → Prop} {i : MI} {T : List ExceptionTableEntry} {mc ms pc q k n : Nat} {ls : LL} {st : List Value} {M : PH} {idx ci kf a : Nat} {ty : FieldType} {fin : Bool} {fs : List Value} {v : Value} (C : Cx Γ G i T mc ms) (d : decode i.2.1 pc = .ok (.getfield idx, 3)) (hf : FL i.1.cls idx ci kf ty fin) (hM0 : M.2 a = some (.inr (ci, fs))) (hv : fs[kf]? = some v) (hq : pc + 3 = q) (K : PW Γ G Z q ls (v :: st) M k n) : PW Γ G Z pc ls (.ref a :: st) M k n := by
  obtain ⟨p, l, e, R, s, m, args, below, meth, c⟩ := Γ
  obtain ⟨hx, hb, hml, hown, hts, hret, hlocks, hname, htr, hT, hK, hRf, hRl, hRc, hRs⟩ := C
  subst hq
  intro A H locs hl hM hS
  obtain ⟨D, T, N, tf, ⟨hc, hty, hnm, hin⟩, hk, hlink, -, -, -⟩ := hf
  exact va_get (ws := [(a, pmE G (.inr (ci, fs)))]) hx hb hts hin hown hK.1 (hM.P1 hM0) 0 rfl hc kf hk (hts _ hlink) (fun _ h9 => h9) hv d (K A H locs hl hM hS)
theorem pw_put {Γ : CX} {G : GC} {Z : State → Prop} {i : MI} {T : List ExceptionTableEntry} {mc ms pc q k n : Nat} {ls : LL} {st : List Value} {M : PH} {idx ci kf a : Nat} {ty : FieldType} {fs : List Value} {v : Value} (C : Cx Γ G i T mc ms) (d : decode i.2.1 pc = .ok (.putfield idx, 3)) (hf : FL i.1.cls idx ci kf ty false) (hM0 : M.2 a = some (.inr (ci, fs))) (hn : narrow ty v = v) (hfit : fits ty v = true) (hlen : kf < fs.length) (hq : pc + 3 = q) (K : PW Γ G Z q ls st (hput M a (.inr (ci, fs.set kf v))) k n) : PW Γ G Z pc ls (v :: .ref a :: st) M k n := by
  obtain ⟨p, l, e, R, s, m, args, below, meth, c⟩ := Γ
  obtain ⟨hx, hb, hml, hown, hts, hret, hlocks, hname, htr, hT, hK, hRf, hRl, hRc, hRs⟩ := C
  subst hq
  intro A H locs hl hM hS
  obtain ⟨D, T, N, tf, ⟨hc, hty, hnm, hin⟩, hk, hlink, htf, hfin, hdec⟩ := hf
  subst htf
  have hP := hM.P1 hM0
  have hap := va_apart (own := i.1.cls) hts hin tf hty hnm hK.1 hc
  obtain ⟨r, h1, cell, q1, q2, q3, q4⟩ := hP 0 _ rfl
  have hr : r = (D, T, N) := Option.some.inj (h1.symm.trans hc)
  subst hr
  obtain ⟨hS1, hfc, kC, hkC, hkind⟩ := hK.1.1 ci _ hc
  obtain ⟨cf, kf0, fi, f, hi, hsl⟩ := hS1 kf hk
  have hbase := (hM.2 a _ hM0).1
  have hlay := hts _ (hin _ (u_in_lay hk))
  unfold u_lay at hlay
  rw [if_neg (by rw [hfin]; decide)] at hlay
  have hst := (u_facts hfc hkC (u_lays hts hin hk) hi).1
  have h6 := u_store hfc hkC hkind hlay hi (hty kf hk) hn hfit
  refine W.putK hx hb (f := f) ⟨hown, hts _ hlink, ⟨_, _, _, hi⟩, hst⟩ (by rw [q2]; exact h6) q1 q3 (by rw [hsl]; exact k2_hasslot (q4 kf hk)) rfl rfl d fun H1 e1 e2 e3 => ?_
  rw [hsl] at e1 ⊢
  exact K A H1 _ hl (hM.put e2 e3 hbase ⟨_, hc, t_OB.to (V := updV (vp_V fs) kf v) ⟨_, e1, q2, q3, t_set q4 hap hk v⟩ (fun j _ => vp_updV_set hlen v j)⟩) (hS.put e2 e3 hbase)
theorem pw_putF {Γ : CX} {G : GC} {Z : State → Prop} {i : MI} {T : List ExceptionTableEntry} {mc ms pc q k n : Nat} {ls : LL} {st : List Value} {M : PH} {idx ci kf a : Nat} {ty : FieldType} {fs : List Value} {v : Value} (C : Cx Γ G i T mc ms) (d : decode i.2.1 pc = .ok (.putfield idx, 3)) (hin2 : i.1.name = "<init>") (hf : FL i.1.cls idx ci kf ty true) (hcls : (vwCl[ci]?).map (fun r => r.1) = some i.1.cls) (hM0 : M.2 a = some (.inr (ci, fs))) (hn : narrow ty v = v) (hfit : fits ty v = true) (hlen : kf < fs.length) (hq : pc + 3 = q) (K : PW Γ G Z q ls st (hput M a (.inr (ci, fs.set kf v))) k n) : PW Γ G Z pc ls (v :: .ref a :: st) M k n := by
  obtain ⟨p, l, e, R, s, m, args, below, meth, c⟩ := Γ
  obtain ⟨hx, hb, hml, hown, hts, hret, hlocks, hname, htr, hT, hK, hRf, hRl, hRc, hRs⟩ := C
  subst hq
  intro A H locs hl hM hS
  obtain ⟨D, T, N, tf, ⟨hc, hty, hnm, hin⟩, hk, hlink, htf, hfin, hdec⟩ := hf
  subst htf
  have hP := hM.P1 hM0
  have hap := va_apart (own := i.1.cls) hts hin tf hty hnm hK.1 hc
  obtain ⟨r, h1, cell, q1, q2, q3, q4⟩ := hP 0 _ rfl
  have hr : r = (D, T, N) := Option.some.inj (h1.symm.trans hc)
  subst hr
  obtain ⟨hS1, hfc, kC, hkC, hkind⟩ := hK.1.1 ci _ hc
  obtain ⟨cf, kf0, fi, f, hi, hsl⟩ := hS1 kf hk
  have hbase := (hM.2 a _ hM0).1
  have hlay := hts _ (hin _ (u_in_lay hk))
  unfold u_lay at hlay
  rw [if_pos hfin] at hlay
  have hst := (u_facts hfc hkC (u_lays hts hin hk) hi).1
  have hD : D = i.1.cls := by rw [hc] at hcls; exact Option.some.inj hcls
  have hcf : m.cls = cf := by
    obtain ⟨_, _, c', _, _, _, -, -, hf', -, -, -, hown2, -⟩ := Cond.laysFinal_spec hlay
    have e1 : c' = cf := by have := hi.symm.trans hf'; simp at this; exact this.1.symm
    rw [hdec, hD] at hown2
    rw [← e1]; exact Option.some.inj (hown.symm.trans hown2)
  have h6 := u_fits hfc hkC hkind (Or.inr hlay) hi (hty kf hk) hn hfit
  refine W.putFinK hx hb hown (hts _ hlink) hi hst hcf (hname.trans hin2) (by rw [q2]; exact h6) q1 q3 (by rw [hsl]; exact k2_hasslot (q4 kf hk)) rfl rfl d fun H1 e1 e2 e3 => ?_
  rw [hsl] at e1 ⊢
  exact K A H1 _ hl (hM.put e2 e3 hbase ⟨_, hc, t_OB.to (V := updV (vp_V fs) kf v) ⟨_, e1, q2, q3, t_set q4 hap hk v⟩ (fun j _ => vp_updV_set hlen v j)⟩) (hS.put e2 e3 hbase)
theorem ks_ty {G : GC} {s : State} (hK : KS G s) {t : Nat} {ty : FieldType} (ht : tyL[t]? = some ty) : G.2.1[t]? = some ((G.2.1.getD t (0, .int)).1, ty) := by
  have h2 := hK.2.1
  rw [← h2, List.getElem?_map] at ht
  obtain ⟨y, hy, rfl⟩ := Option.map_eq_some_iff.mp ht
  rw [hy]
  simp [List.getD, hy]
theorem pw_iald {Γ : CX} {G : GC} {Z : State → Prop} {i : MI} {T : List ExceptionTableEntry} {mc ms pc q k n : Nat} {ls : LL} {st : List Value} {M : PH} {a z : Nat} {f : Nat → Int32} {j : Int32} (C : Cx Γ G i T mc ms) (d : decode i.2.1 pc = .ok (.iaload, 1)) (hM0 : M.2 a = some (.inl (0, z, .inl f))) (hin : vp_in j z) (hq : pc + 1 = q) (K : PW Γ G Z q ls (.int (f j.toNatClampNeg) :: st) M k n) : PW Γ G Z pc ls (.int j :: .ref a :: st) M k n := by
  obtain ⟨p, l, e, R, s, m, args, below, meth, c⟩ := Γ
  obtain ⟨hx, hb, hml, hown, hts, hret, hlocks, hname, htr, hT, hK, hRf, hRl, hRc, hRs⟩ := C
  subst hq
  intro A H locs hl hM hS
  exact va_iald (ws := [(a, pmE G (.inl (0, z, .inl f)))]) hx hb hK.1 (hM.P1 hM0) 0 0 rfl (ks_ty hK (t := 0) rfl) hin d (K A H locs hl hM hS)
theorem pw_cald {Γ : CX} {G : GC} {Z : State → Prop} {i : MI} {T : List ExceptionTableEntry} {mc ms pc q k n : Nat} {ls : LL} {st : List Value} {M : PH} {a z : Nat} {f : Nat → Int32} {j : Int32} (C : Cx Γ G i T mc ms) (d : decode i.2.1 pc = .ok (.caload, 1)) (hM0 : M.2 a = some (.inl (1, z, .inl f))) (hin : vp_in j z) (hq : pc + 1 = q) (K : PW Γ G Z q ls (.int (f j.toNatClampNeg) :: st) M k n) : PW Γ G Z pc ls (.int j :: .ref a :: st) M k n := by
  obtain ⟨p, l, e, R, s, m, args, below, meth, c⟩ := Γ
  obtain ⟨hx, hb, hml, hown, hts, hret, hlocks, hname, htr, hT, hK, hRf, hRl, hRc, hRs⟩ := C
  subst hq
  intro A H locs hl hM hS
  exact va_cald (ws := [(a, pmE G (.inl (1, z, .inl f)))]) hx hb hK.1 (hM.P1 hM0) 0 1 rfl (ks_ty hK (t := 1) rfl) hin d (K A H locs hl hM hS)
theorem pw_zald {Γ : CX} {G : GC} {Z : State → Prop} {i : MI} {T : List ExceptionTableEntry} {mc ms pc q k n : Nat} {ls : LL} {st : List Value} {M : PH} {a z : Nat} {f : Nat → Int32} {j : Int32} (C : Cx Γ G i T mc ms) (d : decode i.2.1 pc = .ok (.baload, 1)) (hM0 : M.2 a = some (.inl (2, z, .inl f))) (hin : vp_in j z) (hq : pc + 1 = q) (K : PW Γ G Z q ls (.int (f j.toNatClampNeg) :: st) M k n) : PW Γ G Z pc ls (.int j :: .ref a :: st) M k n := by
  obtain ⟨p, l, e, R, s, m, args, below, meth, c⟩ := Γ
  obtain ⟨hx, hb, hml, hown, hts, hret, hlocks, hname, htr, hT, hK, hRf, hRl, hRc, hRs⟩ := C
  subst hq
  intro A H locs hl hM hS
  exact va_zald (ws := [(a, pmE G (.inl (2, z, .inl f)))]) hx hb hK.1 (hM.P1 hM0) 0 2 rfl (ks_ty hK (t := 2) rfl) hin d (K A H locs hl hM hS)
theorem pw_lald {Γ : CX} {G : GC} {Z : State → Prop} {i : MI} {T : List ExceptionTableEntry} {mc ms pc q k n : Nat} {ls : LL} {st : List Value} {M : PH} {a z : Nat} {f : Nat → Int64} {j : Int32} (C : Cx Γ G i T mc ms) (d : decode i.2.1 pc = .ok (.laload, 1)) (hM0 : M.2 a = some (.inl (3, z, .inr (.inl f)))) (hin : vp_in j z) (hq : pc + 1 = q) (K : PW Γ G Z q ls (.long (f j.toNatClampNeg) :: st) M k n) : PW Γ G Z pc ls (.int j :: .ref a :: st) M k n := by
  obtain ⟨p, l, e, R, s, m, args, below, meth, c⟩ := Γ
  obtain ⟨hx, hb, hml, hown, hts, hret, hlocks, hname, htr, hT, hK, hRf, hRl, hRc, hRs⟩ := C
  subst hq
  intro A H locs hl hM hS
  exact va_lald (ws := [(a, pmE G (.inl (3, z, .inr (.inl f))))]) hx hb hK.1 (hM.P1 hM0) 0 3 rfl (ks_ty hK (t := 3) rfl) hin d (K A H locs hl hM hS)
theorem pw_aald {Γ : CX} {G : GC} {Z : State → Prop} {i : MI} {T : List ExceptionTableEntry} {mc ms pc q k n : Nat} {ls : LL} {st : List Value} {M : PH} {a z b : Nat} {f : Nat → Option Nat} {j : Int32} (C : Cx Γ G i T mc ms) (d : decode i.2.1 pc = .ok (.aaload, 1)) (hM0 : M.2 a = some (.inl (4, z, .inr (.inr (.inr (.inr f)))))) (hin : vp_in j z) (hv : f j.toNatClampNeg = some b) (hq : pc + 1 = q) (K : PW Γ G Z q ls (.ref b :: st) M k n) : PW Γ G Z pc ls (.int j :: .ref a :: st) M k n := by
  obtain ⟨p, l, e, R, s, m, args, below, meth, c⟩ := Γ
  obtain ⟨hx, hb, hml, hown, hts, hret, hlocks, hname, htr, hT, hK, hRf, hRl, hRc, hRs⟩ := C
  subst hq
  intro A H locs hl hM hS
  refine va_aldq (ws := [(a, pmE G (.inl (4, z, .inr (.inr (.inr (.inr f))))))]) hx hb hK.1 (hM.P1 hM0) 0 4 rfl (ks_ty hK (t := 4) rfl) hin d ?_
  rw [hv]
  exact K A H locs hl hM hS
theorem pw_alen {Γ : CX} {G : GC} {Z : State → Prop} {i : MI} {T : List ExceptionTableEntry} {mc ms pc q k n : Nat} {ls : LL} {st : List Value} {M : PH} {a z t : Nat} {y : vp_A} {ty : FieldType} {v : Int32} (C : Cx Γ G i T mc ms) (d : decode i.2.1 pc = .ok (.arraylength, 1)) (hM0 : M.2 a = some (.inl (t, y))) (ht : tyL[t]? = some ty) (hv : Int32.ofNat y.1 = v) (hq : pc + 1 = q) (K : PW Γ G Z q ls (.int v :: st) M k n) : PW Γ G Z pc ls (.ref a :: st) M k n := by
  obtain ⟨p, l, e, R, s, m, args, below, meth, c⟩ := Γ
  obtain ⟨hx, hb, hml, hown, hts, hret, hlocks, hname, htr, hT, hK, hRf, hRl, hRc, hRs⟩ := C
  subst hq
  intro A H locs hl hM hS
  exact va_alen (ws := [(a, pmE G (.inl (t, y)))]) hx hb hK.1 (hM.P1 hM0) 0 t rfl (ks_ty hK ht) hv d (K A H locs hl hM hS)
theorem pw_iast {Γ : CX} {G : GC} {Z : State → Prop} {i : MI} {T : List ExceptionTableEntry} {mc ms pc q k n : Nat} {ls : LL} {st : List Value} {M : PH} {a z : Nat} {f : Nat → Int32} {j : Int32} {x : Int32} (C : Cx Γ G i T mc ms) (d : decode i.2.1 pc = .ok (.iastore, 1)) (hM0 : M.2 a = some (.inl (0, z, .inl (f)))) (hin : vp_in j z) (hq : pc + 1 = q) (K : PW Γ G Z q ls st (hput M a (.inl (0, z, .inl (upd f j.toNatClampNeg x)))) k n) : PW Γ G Z pc ls (.int x :: .int j :: .ref a :: st) M k n := by
  obtain ⟨p, l, e, R, s, m, args, below, meth, c⟩ := Γ
  obtain ⟨hx, hb, hml, hown, hts, hret, hlocks, hname, htr, hT, hK, hRf, hRl, hRc, hRs⟩ := C
  subst hq
  intro A H locs hl hM hS
  have hP := hM.P1 hM0
  have hbase := (hM.2 a _ hM0).1
  have hty := ks_ty hK (t := 0) rfl
  refine W.iast hx hb (hP 0 _ rfl) ((hK.1.2 0 _ hty).1 z (fun j => .int (f j))) (fun q => by cases q) (by show ¬ (j < 0 ∨ (arrV _ _ _).slots.size ≤ _); rw [arrV_size]; exact hin) rfl rfl d fun H1 e1 e2 e3 => ?_
  refine K A H1 _ hl (hM.put e2 e3 hbase ?_) (hS.put e2 e3 hbase)
  show H1[a]? = some (vp_cell _ _)
  rw [e1]
  rw [vp_cell_i, vp_cell_i, arrV_store]
  congr 2
  funext q
  by_cases hq : q = j.toNatClampNeg
  · subst hq
    simp [updV, upd]
  · simp [updV, upd, hq]
theorem pw_cast {Γ : CX} {G : GC} {Z : State → Prop} {i : MI} {T : List ExceptionTableEntry} {mc ms pc q k n : Nat} {ls : LL} {st : List Value} {M : PH} {a z : Nat} {f : Nat → Int32} {j : Int32} {x : Int32} (C : Cx Γ G i T mc ms) (d : decode i.2.1 pc = .ok (.castore, 1)) (hM0 : M.2 a = some (.inl (1, z, .inl (f)))) (hin : vp_in j z) (hq : pc + 1 = q) (K : PW Γ G Z q ls st (hput M a (.inl (1, z, .inl (upd f j.toNatClampNeg (vp_nar .char x))))) k n) : PW Γ G Z pc ls (.int x :: .int j :: .ref a :: st) M k n := by
  obtain ⟨p, l, e, R, s, m, args, below, meth, c⟩ := Γ
  obtain ⟨hx, hb, hml, hown, hts, hret, hlocks, hname, htr, hT, hK, hRf, hRl, hRc, hRs⟩ := C
  subst hq
  intro A H locs hl hM hS
  have hP := hM.P1 hM0
  have hbase := (hM.2 a _ hM0).1
  have hty := ks_ty hK (t := 1) rfl
  refine W.cast hx hb (hP 0 _ rfl) ((hK.1.2 1 _ hty).1 z (fun j => .int (f j))) (fun q => by cases q) (by show ¬ (j < 0 ∨ (arrV _ _ _).slots.size ≤ _); rw [arrV_size]; exact hin) rfl rfl d fun H1 e1 e2 e3 => ?_
  refine K A H1 _ hl (hM.put e2 e3 hbase ?_) (hS.put e2 e3 hbase)
  show H1[a]? = some (vp_cell _ _)
  rw [e1]
  rw [vp_cell_i, vp_cell_i, arrV_store]
  congr 2
  funext q
  by_cases hq : q = j.toNatClampNeg
  · subst hq
    simp [updV, upd, vp_nar]
    try rfl
  · simp [updV, upd, hq]
theorem pw_zast {Γ : CX} {G : GC} {Z : State → Prop} {i : MI} {T : List ExceptionTableEntry} {mc ms pc q k n : Nat} {ls : LL} {st : List Value} {M : PH} {a z : Nat} {f : Nat → Int32} {j : Int32} {x : Int32} (C : Cx Γ G i T mc ms) (d : decode i.2.1 pc = .ok (.bastore, 1)) (hM0 : M.2 a = some (.inl (2, z, .inl (f)))) (hin : vp_in j z) (hq : pc + 1 = q) (K : PW Γ G Z q ls st (hput M a (.inl (2, z, .inl (upd f j.toNatClampNeg (vp_nar .boolean x))))) k n) : PW Γ G Z pc ls (.int x :: .int j :: .ref a :: st) M k n := by
  obtain ⟨p, l, e, R, s, m, args, below, meth, c⟩ := Γ
  obtain ⟨hx, hb, hml, hown, hts, hret, hlocks, hname, htr, hT, hK, hRf, hRl, hRc, hRs⟩ := C
  subst hq
  intro A H locs hl hM hS
  have hP := hM.P1 hM0
  have hbase := (hM.2 a _ hM0).1
  have hty := ks_ty hK (t := 2) rfl
  refine W.zast hx hb (hP 0 _ rfl) ((hK.1.2 2 _ hty).1 z (fun j => .int (f j))) (fun q => by cases q) (by show ¬ (j < 0 ∨ (arrV _ _ _).slots.size ≤ _); rw [arrV_size]; exact hin) rfl rfl d fun H1 e1 e2 e3 => ?_
  refine K A H1 _ hl (hM.put e2 e3 hbase ?_) (hS.put e2 e3 hbase)
  show H1[a]? = some (vp_cell _ _)
  rw [e1]
  rw [vp_cell_i, vp_cell_i, arrV_store]
  congr 2
  funext q
  by_cases hq : q = j.toNatClampNeg
  · subst hq
    simp [updV, upd, vp_nar]
    try rfl
  · simp [updV, upd, hq]
theorem pw_last {Γ : CX} {G : GC} {Z : State → Prop} {i : MI} {T : List ExceptionTableEntry} {mc ms pc q k n : Nat} {ls : LL} {st : List Value} {M : PH} {a z : Nat} {f : Nat → Int64} {j : Int32} {x : Int64} (C : Cx Γ G i T mc ms) (d : decode i.2.1 pc = .ok (.lastore, 1)) (hM0 : M.2 a = some (.inl (3, z, .inr (.inl (f))))) (hin : vp_in j z) (hq : pc + 1 = q) (K : PW Γ G Z q ls st (hput M a (.inl (3, z, .inr (.inl (vp_updL f j.toNatClampNeg x))))) k n) : PW Γ G Z pc ls (.long x :: .int j :: .ref a :: st) M k n := by
  obtain ⟨p, l, e, R, s, m, args, below, meth, c⟩ := Γ
  obtain ⟨hx, hb, hml, hown, hts, hret, hlocks, hname, htr, hT, hK, hRf, hRl, hRc, hRs⟩ := C
  subst hq
  intro A H locs hl hM hS
  have hP := hM.P1 hM0
  have hbase := (hM.2 a _ hM0).1
  have hty := ks_ty hK (t := 3) rfl
  refine W.last hx hb (hP 0 _ rfl) ((hK.1.2 3 _ hty).1 z (fun j => .long (f j))) (fun q => by cases q) (by show ¬ (j < 0 ∨ (arrV _ _ _).slots.size ≤ _); rw [arrV_size]; exact hin) rfl rfl d fun H1 e1 e2 e3 => ?_
  refine K A H1 _ hl (hM.put e2 e3 hbase ?_) (hS.put e2 e3 hbase)
  show H1[a]? = some (vp_cell _ _)
  rw [e1]
  rw [vp_cell_l, vp_cell_l, arrV_store]
  congr 2
  funext q
  by_cases hq : q = j.toNatClampNeg
  · subst hq
    simp [updV, vp_updL]
  · simp [updV, vp_updL, hq]
theorem pw_aast {Γ : CX} {G : GC} {Z : State → Prop} {i : MI} {T : List ExceptionTableEntry} {mc ms pc q k n : Nat} {ls : LL} {st : List Value} {M : PH} {a z b cb : Nat} {vs : List Value} {f : Nat → Option Nat} {j : Int32} (C : Cx Γ G i T mc ms) (d : decode i.2.1 pc = .ok (.aastore, 1)) (hM0 : M.2 a = some (.inl (4, z, .inr (.inr (.inr (.inr f)))))) (hin : vp_in j z) (hb0 : M.2 b = some (.inr (1, vs))) (hq : pc + 1 = q) (K : PW Γ G Z q ls st (hput M a (.inl (4, z, .inr (.inr (.inr (.inr (va_up f j.toNatClampNeg (some b)))))))) k n) : PW Γ G Z pc ls (.ref b :: .int j :: .ref a :: st) M k n := by
  obtain ⟨p, l, e, R, s, m, args, below, meth, c⟩ := Γ
  obtain ⟨hx, hb, hml, hown, hts, hret, hlocks, hname, htr, hT, hK, hRf, hRl, hRc, hRs⟩ := C
  subst hq
  intro A H locs hl hM hS
  have hP := hM.P1 hM0
  have hbase := (hM.2 a _ hM0).1
  have hty := ks_ty hK (t := 4) rfl
  have hlt : j.toNatClampNeg < z := Nat.not_le.mp fun q => hin (Or.inr q)
  have h0 : ¬ j < 0 := fun q => hin (Or.inl q)
  obtain ⟨r', hr', cellV, g1, g2, g3, -⟩ := hM.P1 hb0 0 _ rfl
  have hcls := (hK.1.1 1 _ rfl).2
  obtain ⟨kA, comp, k1, k2, k3, -⟩ := (hK.1.2 4 _ hty).2
  have hcomp : comp = G.1.1 1 := Option.some.inj (k3.symm.trans hcls.1)
  subst hcomp
  obtain ⟨kC, hkC, -⟩ := hcls.2
  refine W.aast hx hb (hP 0 _ rfl) (fun q h => by cases h) (fun h => by cases h) k1 k2 rfl hkC ⟨h0, by show _ < (arrV _ _ _).slots.size; rw [arrV_size]; exact hlt⟩ g1 (fun q h => by rw [g3] at h; cases h) (by rw [g2]; exact hkC) (by rw [g2]; exact va_assign hcls) rfl rfl d fun H1 e1 e2 e3 => ?_
  refine K A H1 _ hl (hM.put e2 e3 hbase ?_) (hS.put e2 e3 hbase)
  show H1[a]? = some (vp_cell _ _)
  rw [e1]
  rw [vp_cell_q, vp_cell_q, arrV_store]
  congr 2
  funext q
  by_cases hq : q = j.toNatClampNeg
  · subst hq
    simp [updV, va_up, va_rf]
  · simp [updV, va_up, hq]
theorem pw_new {Γ : CX} {G : GC} {Z : State → Prop} {i : MI} {T : List ExceptionTableEntry} {mc ms pc q k n : Nat} {ls : LL} {st : List Value} {M : PH} {idx ci N : Nat} {fs : List Value} (C : Cx Γ G i T mc ms) (d : decode i.2.1 pc = .ok (.new idx, 3)) (hn : NC i.1.cls idx ci N fs) (hroom : k + 1 ≤ mc ∧ n + N ≤ ms) (hq : pc + 3 = q) (K : PW Γ G Z q ls (.ref M.1 :: st) (hnew M (.inr (ci, fs))) (k + 1) (n + N)) : PW Γ G Z pc ls st M k n := by
  obtain ⟨p, l, e, R, s, m, args, below, meth, c⟩ := Γ
  obtain ⟨hx, hb, hml, hown, hts, hret, hlocks, hname, htr, hT, hK, hRf, hRl, hRc, hRs⟩ := C
  subst hq
  intro A H locs hl hM hS
  obtain ⟨D, T, tf, ⟨hc, hty, hnm, hin⟩, hcl, hins, hini, hfs⟩ := hn
  have hKn := hK.1.1 ci _ hc
  have hbase : G.2.2 ≤ H.size := Nat.le_trans hK.2.2.2.2.1 hS.1
  rw [← hRc, ← hRs] at hroom
  refine W.newcK hx hb hown (hts _ hcl) (hts _ hins) (hts _ hini) rfl d hroom.1 hroom.2 hKn.2.1 rfl fun H1 kC hkC e1 z1 o1 => ?_
  have h := K A H1 locs hl (hM.new z1 o1 hbase ⟨_, hc, (u_born tf hts hin hKn hkC e1 hty).to hfs⟩) ⟨Nat.le_trans hS.1 (by omega), fun x h1 h2 => (o1 x (Nat.lt_of_lt_of_le h1 hS.1)).trans (hS.2.1 x h1 h2), hS.2.2⟩
  rw [hM.1] at h
  exact h
theorem pw_newa_int {Γ : CX} {G : GC} {Z : State → Prop} {i : MI} {T : List ExceptionTableEntry} {mc ms pc q k n : Nat} {ls : LL} {st : List Value} {M : PH} {v : Int32} {N : Nat} (C : Cx Γ G i T mc ms) (d : decode i.2.1 pc = .ok (.newarray .int, 2)) (hw : Cond.arrayClass .int ∈ GW) (hn : ¬ v < 0) (hN : v.toNatClampNeg = N) (hbytes : N * componentBytes .int ≤ 536870912) (hroom : k + 1 ≤ mc ∧ n + N ≤ ms) (hq : pc + 2 = q) (K : PW Γ G Z q ls (.ref M.1 :: st) (hnew M (.inl (0, N, .inl (fun _ => 0)))) (k + 1) (n + N)) : PW Γ G Z pc ls (.int v :: st) M k n := by
  obtain ⟨p, l, e, R, s, m, args, below, meth, c⟩ := Γ
  obtain ⟨hx, hb, hml, hown, hts, hret, hlocks, hname, htr, hT, hK, hRf, hRl, hRc, hRs⟩ := C
  subst hq
  intro A H locs hl hM hS
  have hbase : G.2.2 ≤ H.size := Nat.le_trans hK.2.2.2.2.1 hS.1
  rw [← hRc, ← hRs] at hroom
  refine va_newaK (atype := .int) hx hb (hts _ hw) rfl d rfl hn hN hbytes hroom.1 hroom.2 rfl fun H1 cA e1 z1 o1 hAr hNm => ?_
  have hc : cA = (G.2.1.getD 0 (0, .int)).1 := by
    have h9 := (hK.1.2 0 _ (ks_ty hK (t := 0) rfl)).2
    exact Option.some.inj (hNm.symm.trans h9)
  subst hc
  have h := K A H1 locs hl (hM.new z1 o1 hbase (show H1[H.size]? = some (vp_cell _ _) from e1)) ⟨Nat.le_trans hS.1 (by omega), fun x h1 h2 => (o1 x (Nat.lt_of_lt_of_le h1 hS.1)).trans (hS.2.1 x h1 h2), hS.2.2⟩
  rw [hM.1] at h
  exact h
theorem pw_newa_char {Γ : CX} {G : GC} {Z : State → Prop} {i : MI} {T : List ExceptionTableEntry} {mc ms pc q k n : Nat} {ls : LL} {st : List Value} {M : PH} {v : Int32} {N : Nat} (C : Cx Γ G i T mc ms) (d : decode i.2.1 pc = .ok (.newarray .char, 2)) (hw : Cond.arrayClass .char ∈ GW) (hn : ¬ v < 0) (hN : v.toNatClampNeg = N) (hbytes : N * componentBytes .char ≤ 536870912) (hroom : k + 1 ≤ mc ∧ n + N ≤ ms) (hq : pc + 2 = q) (K : PW Γ G Z q ls (.ref M.1 :: st) (hnew M (.inl (1, N, .inl (fun _ => 0)))) (k + 1) (n + N)) : PW Γ G Z pc ls (.int v :: st) M k n := by
  obtain ⟨p, l, e, R, s, m, args, below, meth, c⟩ := Γ
  obtain ⟨hx, hb, hml, hown, hts, hret, hlocks, hname, htr, hT, hK, hRf, hRl, hRc, hRs⟩ := C
  subst hq
  intro A H locs hl hM hS
  have hbase : G.2.2 ≤ H.size := Nat.le_trans hK.2.2.2.2.1 hS.1
  rw [← hRc, ← hRs] at hroom
  refine va_newaK (atype := .char) hx hb (hts _ hw) rfl d rfl hn hN hbytes hroom.1 hroom.2 rfl fun H1 cA e1 z1 o1 hAr hNm => ?_
  have hc : cA = (G.2.1.getD 1 (0, .int)).1 := by
    have h9 := (hK.1.2 1 _ (ks_ty hK (t := 1) rfl)).2
    exact Option.some.inj (hNm.symm.trans h9)
  subst hc
  have h := K A H1 locs hl (hM.new z1 o1 hbase (show H1[H.size]? = some (vp_cell _ _) from e1)) ⟨Nat.le_trans hS.1 (by omega), fun x h1 h2 => (o1 x (Nat.lt_of_lt_of_le h1 hS.1)).trans (hS.2.1 x h1 h2), hS.2.2⟩
  rw [hM.1] at h
  exact h
theorem pw_newa_boolean {Γ : CX} {G : GC} {Z : State → Prop} {i : MI} {T : List ExceptionTableEntry} {mc ms pc q k n : Nat} {ls : LL} {st : List Value} {M : PH} {v : Int32} {N : Nat} (C : Cx Γ G i T mc ms) (d : decode i.2.1 pc = .ok (.newarray .boolean, 2)) (hw : Cond.arrayClass .boolean ∈ GW) (hn : ¬ v < 0) (hN : v.toNatClampNeg = N) (hbytes : N * componentBytes .boolean ≤ 536870912) (hroom : k + 1 ≤ mc ∧ n + N ≤ ms) (hq : pc + 2 = q) (K : PW Γ G Z q ls (.ref M.1 :: st) (hnew M (.inl (2, N, .inl (fun _ => 0)))) (k + 1) (n + N)) : PW Γ G Z pc ls (.int v :: st) M k n := by
  obtain ⟨p, l, e, R, s, m, args, below, meth, c⟩ := Γ
  obtain ⟨hx, hb, hml, hown, hts, hret, hlocks, hname, htr, hT, hK, hRf, hRl, hRc, hRs⟩ := C
  subst hq
  intro A H locs hl hM hS
  have hbase : G.2.2 ≤ H.size := Nat.le_trans hK.2.2.2.2.1 hS.1
  rw [← hRc, ← hRs] at hroom
  refine va_newaK (atype := .boolean) hx hb (hts _ hw) rfl d rfl hn hN hbytes hroom.1 hroom.2 rfl fun H1 cA e1 z1 o1 hAr hNm => ?_
  have hc : cA = (G.2.1.getD 2 (0, .int)).1 := by
    have h9 := (hK.1.2 2 _ (ks_ty hK (t := 2) rfl)).2
    exact Option.some.inj (hNm.symm.trans h9)
  subst hc
  have h := K A H1 locs hl (hM.new z1 o1 hbase (show H1[H.size]? = some (vp_cell _ _) from e1)) ⟨Nat.le_trans hS.1 (by omega), fun x h1 h2 => (o1 x (Nat.lt_of_lt_of_le h1 hS.1)).trans (hS.2.1 x h1 h2), hS.2.2⟩
  rw [hM.1] at h
  exact h
theorem pw_newa_long {Γ : CX} {G : GC} {Z : State → Prop} {i : MI} {T : List ExceptionTableEntry} {mc ms pc q k n : Nat} {ls : LL} {st : List Value} {M : PH} {v : Int32} {N : Nat} (C : Cx Γ G i T mc ms) (d : decode i.2.1 pc = .ok (.newarray .long, 2)) (hw : Cond.arrayClass .long ∈ GW) (hn : ¬ v < 0) (hN : v.toNatClampNeg = N) (hbytes : N * componentBytes .long ≤ 536870912) (hroom : k + 1 ≤ mc ∧ n + N ≤ ms) (hq : pc + 2 = q) (K : PW Γ G Z q ls (.ref M.1 :: st) (hnew M (.inl (3, N, .inr (.inl (fun _ => 0))))) (k + 1) (n + N)) : PW Γ G Z pc ls (.int v :: st) M k n := by
  obtain ⟨p, l, e, R, s, m, args, below, meth, c⟩ := Γ
  obtain ⟨hx, hb, hml, hown, hts, hret, hlocks, hname, htr, hT, hK, hRf, hRl, hRc, hRs⟩ := C
  subst hq
  intro A H locs hl hM hS
  have hbase : G.2.2 ≤ H.size := Nat.le_trans hK.2.2.2.2.1 hS.1
  rw [← hRc, ← hRs] at hroom
  refine va_newaK (atype := .long) hx hb (hts _ hw) rfl d rfl hn hN hbytes hroom.1 hroom.2 rfl fun H1 cA e1 z1 o1 hAr hNm => ?_
  have hc : cA = (G.2.1.getD 3 (0, .int)).1 := by
    have h9 := (hK.1.2 3 _ (ks_ty hK (t := 3) rfl)).2
    exact Option.some.inj (hNm.symm.trans h9)
  subst hc
  have h := K A H1 locs hl (hM.new z1 o1 hbase (show H1[H.size]? = some (vp_cell _ _) from e1)) ⟨Nat.le_trans hS.1 (by omega), fun x h1 h2 => (o1 x (Nat.lt_of_lt_of_le h1 hS.1)).trans (hS.2.1 x h1 h2), hS.2.2⟩
  rw [hM.1] at h
  exact h
theorem pw_anewa {Γ : CX} {G : GC} {Z : State → Prop} {i : MI} {T : List ExceptionTableEntry} {mc ms pc q k n : Nat} {ls : LL} {st : List Value} {M : PH} {v : Int32} {N idx : Nat} (C : Cx Γ G i T mc ms) (d : decode i.2.1 pc = .ok (.anewarray idx, 3)) (hcl : Cond.classLink i.1.cls idx "AshlarLodge$Lodge" ∈ GW) (hn : ¬ v < 0) (hN : v.toNatClampNeg = N) (hbytes : N * 4 ≤ 536870912) (hroom : k + 1 ≤ mc ∧ n + N ≤ ms) (hq : pc + 3 = q) (K : PW Γ G Z q ls (.ref M.1 :: st) (hnew M (.inl (4, N, .inr (.inr (.inr (.inr (fun _ => none))))))) (k + 1) (n + N)) : PW Γ G Z pc ls (.int v :: st) M k n := by
  obtain ⟨p, l, e, R, s, m, args, below, meth, c⟩ := Γ
  obtain ⟨hx, hb, hml, hown, hts, hret, hlocks, hname, htr, hT, hK, hRf, hRl, hRc, hRs⟩ := C
  subst hq
  intro A H locs hl hM hS
  have hbase : G.2.2 ≤ H.size := Nat.le_trans hK.2.2.2.2.1 hS.1
  rw [← hRc, ← hRs] at hroom
  subst hN
  refine W.anew hx hb hown (hts _ hcl) (va_AO.use hK.2.2.2.2.2.2.2) rfl d rfl hn hbytes hroom.1 hroom.2 fun cA kA comp h1 h2 h3 h4 => ?_
  have hc : cA = (G.2.1.getD 4 (0, .int)).1 := by
    obtain ⟨_, _, _, _, _, h9⟩ := (hK.1.2 4 _ (ks_ty hK (t := 4) rfl)).2
    exact Option.some.inj (h1.symm.trans h9)
  subst hc
  have z1 : (H.push ({ cls := (G.2.1.getD 4 (0, .int)).1, slots := Array.replicate v.toNatClampNeg .null, vm := .none } : Cell)).size = H.size + 1 := by simp
  have o1 : ∀ q : Nat, q < H.size → (H.push ({ cls := (G.2.1.getD 4 (0, .int)).1, slots := Array.replicate v.toNatClampNeg .null, vm := .none } : Cell))[q]? = H[q]? := fun q hq => by
    rw [Array.getElem?_push, if_neg (Nat.ne_of_lt hq)]
  have e1 : (H.push ({ cls := (G.2.1.getD 4 (0, .int)).1, slots := Array.replicate v.toNatClampNeg .null, vm := .none } : Cell))[H.size]? = some (vp_cell (G.2.1.getD 4 (0, .int)).1 (v.toNatClampNeg, .inr (.inr (.inr (.inr (fun _ => none)))))) := by
    rw [vp_cell_q]
    simp only [va_rf]
    rw [← arrV_new]
    simp
  have h := K A _ locs hl (hM.new z1 o1 hbase e1) ⟨Nat.le_trans hS.1 (by omega), fun x h1 h2 => (o1 x (Nat.lt_of_lt_of_le h1 hS.1)).trans (hS.2.1 x h1 h2), hS.2.2⟩
  rw [hM.1] at h
  exact h
theorem pw_iret {Γ : CX} {G : GC} {i : MI} {T : List ExceptionTableEntry} {mc ms pc k n : Nat} {ls : LL} {M : PH} {Q : OC → PH → Prop} {x : Int32} (C : Cx Γ G i T mc ms) (d : decode i.2.1 pc = .ok (.ireturn, 1)) (hr : i.2.2.2.1 = some .int)  (hkn : k ≤ mc ∧ n ≤ ms) (hQ : Q (.inl (some (.int x))) M) : PW Γ G (ZJ Γ G mc ms Q) pc ls [.int x] M k n := by
  obtain ⟨p, l, e, R, s, m, args, below, meth, c⟩ := Γ
  obtain ⟨hx, hb, hml, hown, hts, hret, hlocks, hname, htr, hT, hK, hRf, hRl, hRc, hRs⟩ := C
  intro A H locs hl hM hS
  refine W.widen hkn.1 hkn.2 ?_
  exact vx_ret (W.iret hx hb (hret.trans hr) (fun t ht hW => ⟨⟨_, M, rfl, hQ, by rw [ht]; exact hM⟩, hS.F ht⟩) hS.2.2 d)
theorem pw_zret {Γ : CX} {G : GC} {i : MI} {T : List ExceptionTableEntry} {mc ms pc k n : Nat} {ls : LL} {M : PH} {Q : OC → PH → Prop} {x : Int32} (C : Cx Γ G i T mc ms) (d : decode i.2.1 pc = .ok (.ireturn, 1)) (hr : i.2.2.2.1 = some .boolean) (hn : narrow .boolean (.int x) = .int x) (hkn : k ≤ mc ∧ n ≤ ms) (hQ : Q (.inl (some (.int x))) M) : PW Γ G (ZJ Γ G mc ms Q) pc ls [.int x] M k n := by
  obtain ⟨p, l, e, R, s, m, args, below, meth, c⟩ := Γ
  obtain ⟨hx, hb, hml, hown, hts, hret, hlocks, hname, htr, hT, hK, hRf, hRl, hRc, hRs⟩ := C
  intro A H locs hl hM hS
  refine W.widen hkn.1 hkn.2 ?_
  exact vx_ret (W.zret hx hb (hret.trans hr) hn (fun t ht hW => ⟨⟨_, M, rfl, hQ, by rw [ht]; exact hM⟩, hS.F ht⟩) hS.2.2 d)
theorem pw_cret {Γ : CX} {G : GC} {i : MI} {T : List ExceptionTableEntry} {mc ms pc k n : Nat} {ls : LL} {M : PH} {Q : OC → PH → Prop} {x : Int32} (C : Cx Γ G i T mc ms) (d : decode i.2.1 pc = .ok (.ireturn, 1)) (hr : i.2.2.2.1 = some .char) (hn : narrow .char (.int x) = .int x) (hkn : k ≤ mc ∧ n ≤ ms) (hQ : Q (.inl (some (.int x))) M) : PW Γ G (ZJ Γ G mc ms Q) pc ls [.int x] M k n := by
  obtain ⟨p, l, e, R, s, m, args, below, meth, c⟩ := Γ
  obtain ⟨hx, hb, hml, hown, hts, hret, hlocks, hname, htr, hT, hK, hRf, hRl, hRc, hRs⟩ := C
  intro A H locs hl hM hS
  refine W.widen hkn.1 hkn.2 ?_
  exact vx_ret (W.zret hx hb (hret.trans hr) hn (fun t ht hW => ⟨⟨_, M, rfl, hQ, by rw [ht]; exact hM⟩, hS.F ht⟩) hS.2.2 d)
theorem pw_lret {Γ : CX} {G : GC} {i : MI} {T : List ExceptionTableEntry} {mc ms pc k n : Nat} {ls : LL} {M : PH} {Q : OC → PH → Prop} {x : Int64} (C : Cx Γ G i T mc ms) (d : decode i.2.1 pc = .ok (.lreturn, 1)) (hr : i.2.2.2.1 = some .long)  (hkn : k ≤ mc ∧ n ≤ ms) (hQ : Q (.inl (some (.long x))) M) : PW Γ G (ZJ Γ G mc ms Q) pc ls [.long x] M k n := by
  obtain ⟨p, l, e, R, s, m, args, below, meth, c⟩ := Γ
  obtain ⟨hx, hb, hml, hown, hts, hret, hlocks, hname, htr, hT, hK, hRf, hRl, hRc, hRs⟩ := C
  intro A H locs hl hM hS
  refine W.widen hkn.1 hkn.2 ?_
  exact vx_ret (W.lret hx hb (hret.trans hr) (fun t ht hW => ⟨⟨_, M, rfl, hQ, by rw [ht]; exact hM⟩, hS.F ht⟩) hS.2.2 d)
theorem pw_vret {Γ : CX} {G : GC} {i : MI} {T : List ExceptionTableEntry} {mc ms pc k n : Nat} {ls : LL} {M : PH} {Q : OC → PH → Prop}  (C : Cx Γ G i T mc ms) (d : decode i.2.1 pc = .ok (.return_, 1)) (hr : i.2.2.2.1 = none)  (hkn : k ≤ mc ∧ n ≤ ms) (hQ : Q (.inl none) M) : PW Γ G (ZJ Γ G mc ms Q) pc ls [] M k n := by
  obtain ⟨p, l, e, R, s, m, args, below, meth, c⟩ := Γ
  obtain ⟨hx, hb, hml, hown, hts, hret, hlocks, hname, htr, hT, hK, hRf, hRl, hRc, hRs⟩ := C
  intro A H locs hl hM hS
  refine W.widen hkn.1 hkn.2 ?_
  exact vx_ret (W.vret hx hb (hret.trans hr) (fun t ht hW => ⟨⟨_, M, rfl, hQ, by rw [ht]; exact hM⟩, hS.F ht⟩) hS.2.2 d)
end
section
/-! Calls by contract. -/
theorem pw_objInit {Γ : CX} {G : GC} {Z : State → Prop} {i : MI} {T : List ExceptionTableEntry} {mc ms pc q k n : Nat} {ls : LL} {st rest : List Value} {M : PH} {idx a : Nat} (C : Cx Γ G i T mc ms) (d : decode i.2.1 pc = .ok (.invokespecial idx, 3)) (hl0 : Cond.methodLink i.1.cls idx Lib.objectInit ∈ GW) (hi0 : Cond.instanceMethod Lib.objectInit ∈ GW) (hc0 : Cond.code Lib.objectInit ⟨#[0xb1]⟩ 1 none ∈ GW)
    (hfr : 1 ≤ i.2.2.2.2.1 ∧ (st.map fun v => v.category).sum + 12 ≤ i.2.2.2.2.2) (hq : pc + 3 = q) (K : PW Γ G Z q ls st M k n) : PW Γ G Z pc ls (.ref a :: st) M k n := by
  obtain ⟨p, l, e, R, s, m, args, below, meth, c⟩ := Γ
  obtain ⟨hx, hb, hml, hown, hts, hret, hlocks, hname, htr, hT, hK, hRf, hRl, hRc, hRs⟩ := C
  subst hq
  intro A H locs hl hM hS
  exact W.objInit hx hb hown (hts _ hl0) (hts _ hi0) (hts _ hc0) rfl hl.1 rfl d (by rw [hRf]; exact hfr.1) (by rw [hRl]; show 2 * 0 + _ + 12 ≤ _; omega) (K A H locs hl hM hS)
theorem pw_max {Γ : CX} {G : GC} {Z : State → Prop} {i : MI} {T : List ExceptionTableEntry} {mc ms pc q k n : Nat} {ls : LL} {st rest : List Value} {M : PH} {idx : Nat} {x y : Int32} (C : Cx Γ G i T mc ms) (d : decode i.2.1 pc = .ok (.invokestatic idx, 3)) (hl0 : Cond.methodLink i.1.cls idx Lib.Math.max.name ∈ GW) (hs0 : Cond.static Lib.Math.max.name ∈ GW) (hi0 : Cond.initialized "java/lang/Math" ∈ GW) (hc0 : Cond.code Lib.Math.max.name Lib.Math.max.code 2 (some .int) ∈ GW)
    (hfr : 1 ≤ i.2.2.2.2.1 ∧ (st.map fun v => v.category).sum + 13 ≤ i.2.2.2.2.2) (hkn : k ≤ mc ∧ n ≤ ms) (hq : pc + 3 = q) (K : PW Γ G Z q ls (.int (if x < y then y else x) :: st) M k n) : PW Γ G Z pc ls (.int y :: .int x :: st) M k n := by
  obtain ⟨p, l, e, R, s, m, args, below, meth, c⟩ := Γ
  obtain ⟨hx, hb, hml, hown, hts, hret, hlocks, hname, htr, hT, hK, hRf, hRl, hRc, hRs⟩ := C
  subst hq
  intro A H locs hl hM hS
  exact va_mmax hx hb hl.1.symm hown (hts _ hl0) (hts _ hs0) (hts _ hi0) (hts _ hc0) (by rw [hRf]; exact hfr.1) (by rw [hRl]; exact hfr.2) (by rw [hRc]; exact hkn.1) (by rw [hRs]; exact hkn.2) d (K A H locs hl hM hS)
theorem pw_min {Γ : CX} {G : GC} {Z : State → Prop} {i : MI} {T : List ExceptionTableEntry} {mc ms pc q k n : Nat} {ls : LL} {st rest : List Value} {M : PH} {idx : Nat} {x y : Int32} (C : Cx Γ G i T mc ms) (d : decode i.2.1 pc = .ok (.invokestatic idx, 3)) (hl0 : Cond.methodLink i.1.cls idx Lib.Math.min.name ∈ GW) (hs0 : Cond.static Lib.Math.min.name ∈ GW) (hi0 : Cond.initialized "java/lang/Math" ∈ GW) (hc0 : Cond.code Lib.Math.min.name Lib.Math.min.code 2 (some .int) ∈ GW)
    (hfr : 1 ≤ i.2.2.2.2.1 ∧ (st.map fun v => v.category).sum + 13 ≤ i.2.2.2.2.2) (hkn : k ≤ mc ∧ n ≤ ms) (hq : pc + 3 = q) (K : PW Γ G Z q ls (.int (if y < x then y else x) :: st) M k n) : PW Γ G Z pc ls (.int y :: .int x :: st) M k n := by
  obtain ⟨p, l, e, R, s, m, args, below, meth, c⟩ := Γ
  obtain ⟨hx, hb, hml, hown, hts, hret, hlocks, hname, htr, hT, hK, hRf, hRl, hRc, hRs⟩ := C
  subst hq
  intro A H locs hl hM hS
  exact va_mmin hx hb hl.1.symm hown (hts _ hl0) (hts _ hs0) (hts _ hi0) (hts _ hc0) (by rw [hRf]; exact hfr.1) (by rw [hRl]; exact hfr.2) (by rw [hRc]; exact hkn.1) (by rw [hRs]; exact hkn.2) d (K A H locs hl hM hS)
def MV (j : MI) (nn : Nat) : Prop := Cond.code j.1 j.2.1 j.2.2.1 j.2.2.2.1 ∈ GW ∧ Cond.initialized j.1.cls ∈ GW ∧ Cond.instanceMethod j.1 ∈ GW ∧ Cond.selects j.1.cls j.1 j.1 ∈ GW ∧ j.1.cls ≠ "java/lang/invoke/MethodHandle" ∧ j.1.cls ≠ "java/lang/invoke/VarHandle" ∧ (parseMethodDescriptor j.1.desc).map (fun d => d.parameters.length) = some nn
def MS (j : MI) (nn : Nat) : Prop := Cond.code j.1 j.2.1 j.2.2.1 j.2.2.2.1 ∈ GW ∧ Cond.initialized j.1.cls ∈ GW ∧ Cond.static j.1 ∈ GW ∧ j.1.cls ≠ "java/lang/invoke/MethodHandle" ∧ j.1.cls ≠ "java/lang/invoke/VarHandle" ∧ (parseMethodDescriptor j.1.desc).map (fun d => d.parameters.length) = some nn
def MSH (j : MI) (hh : List (Nat × Nat × Nat × Nat)) (nn : Nat) : Prop := Cond.codeWith j.1 j.2.1 j.2.2.1 j.2.2.2.1 hh ∈ GW ∧ Cond.initialized j.1.cls ∈ GW ∧ Cond.static j.1 ∈ GW ∧ j.1.cls ≠ "java/lang/invoke/MethodHandle" ∧ j.1.cls ≠ "java/lang/invoke/VarHandle" ∧ (parseMethodDescriptor j.1.desc).map (fun d => d.parameters.length) = some nn
def MN (j : MI) (nn : Nat) : Prop := Cond.code j.1 j.2.1 j.2.2.1 none ∈ GW ∧ Cond.initialized j.1.cls ∈ GW ∧ Cond.instanceMethod j.1 ∈ GW ∧ j.1.name = "<init>" ∧ j.2.2.2.1 = none ∧ j.1.cls ≠ "java/lang/invoke/MethodHandle" ∧ j.1.cls ≠ "java/lang/invoke/VarHandle" ∧ (parseMethodDescriptor j.1.desc).map (fun d => d.parameters.length) = some nn
def RO (j i : MI) : Prop := j.2.2.2.2.1 + 1 ≤ i.2.2.2.2.1 ∧ 8 + (j.2.2.1 + 11) + j.2.2.2.2.2 ≤ i.2.2.2.2.2
def CR (Γ : CX) (G : GC) (pc : Nat) (ls : LL) (st : List Value) (M : PH) (k n mc' ms' : Nat) (Q' : OC → PH → Prop) (rest : List Value) : Prop := match Γ with
  | (p, l, e, R, s, m, args, below, meth, c) => ∀ (A : Array Slot) (H : Heap) (locs : List Loc), LV A c.maxLocals ls → Sim G M H → va_S (AB G) s.heap H locs → ∃ a : Array Value, vx_Run p l e R s m args below meth c H locs k n mc' ms' (F0 m pc A st) rest (QcOf G Q' a) (XCOf G Q') (AB G)
/-- a frame with an exception of class E over it -/
def PX (Γ : CX) (G : GC) (Z : State → Prop) (E : String) (pc : Nat) (ls : LL) (st : List Value) (M : PH) (k n : Nat) : Prop := match Γ with
  | (p, l, e, R, s, m, args, below, meth, c) => ∀ (A : Array Slot) (H : Heap) (locs : List Loc) (ce : Cell) (q9 : Addr), LV A c.maxLocals ls → Sim G M H → va_S (AB G) s.heap H locs → H[q9]? = some ce → ce.vm = .none → s.vm.findClass E = some ce.cls → vx_W p l e R s m args below meth c H locs k n Z (F0 m pc A st) q9
theorem pcBlind (G : GC) (as : List Value) (M : PH) : FrameBlind (PcOf G as M) := fun a U g mk ⟨h1, h2, h3⟩ => ⟨h1, h2, KS.calling h3⟩
theorem met_of {l : Launch} {y : MethodName} {ws : List Cond} {rm : Room} {G : GC} {Pc : Array Value → State → Prop} {Q : OC → PH → Prop} {mc ms : Nat} {free : Addr → Prop} (hno : ∀ (E : String) (M : PH), ¬ Q (.inr E) M) (h : vx_Met l y ws rm Pc (QcOf G Q) (XCOf G Q) mc ms free) : Met l y ws rm Pc (QcOf G Q) mc ms free := by
  intro p e ha hc hk s m args below hf happ hP hK
  obtain ⟨n, o, h1, h2, h3, h4⟩ := h p e ha hc hk s m args below hf happ hP hK
  refine ⟨n, o, h1, h2, h3, ?_⟩
  rcases h4 with h4 | ⟨q, -, E, ce, L, ⟨⟨M, hq, -⟩, -⟩, -⟩
  · exact h4
  · exact (hno E M hq).elim
theorem cr_v {Γ : CX} {G : GC} {i j : MI} {T : List ExceptionTableEntry} {mc ms pc k n : Nat} {ls : LL} {st rest : List Value} {M : PH} {mc' ms' nn idx : Nat} {Q' : OC → PH → Prop} {as : List Value} {b cj : Nat} {fs : List Value} (C : Cx Γ G i T mc ms) (d : decode i.2.1 pc = .ok (.invokevirtual idx, 3)) (hl0 : Cond.methodLink i.1.cls idx j.1 ∈ GW) (hm : MV j nn) (hr : RO j i) (hb0 : M.2 b = some (.inr (cj, fs))) (hcj : (vwCl[cj]?).map (fun r => r.1) = some j.1.cls) (hrun : Run j (.ref b :: as) M mc' ms' Q') (hst : st = as.reverse ++ .ref b :: rest) (hn : as.length = nn) (hW : (rest.map fun v => v.category).sum ≤ 8) (hroom : k + mc' ≤ mc ∧ n + ms' ≤ ms) :
    CR Γ G pc ls st M k n mc' ms' Q' rest := by
  obtain ⟨p, l, e, R, s, m, args, below, meth, c⟩ := Γ
  obtain ⟨hx, hb, hml, hown, hts, hret, hlocks, hname, htr, hT, hK, hRf, hRl, hRc, hRs⟩ := C
  intro A H locs hl hM hS
  subst hst
  rw [← hRc, ← hRs] at hroom
  obtain ⟨g1, g2, g3, g4, g5⟩ := hm
  obtain ⟨r, hc, hcls⟩ := Option.map_eq_some_iff.mp hcj
  refine ⟨(Value.ref b :: as).toArray, vx_runV (C := j.1.cls) (b := b) (As := as) ⟨hx, hb, hml, hown, hts⟩ (hrun l G htr) (cwV nn hts (goodGW (fun x hx => ?_)) rfl rfl rfl ⟨rfl, g5⟩ ⟨by rw [hRf]; exact hr.1, by rw [hRl]; exact hr.2⟩) ⟨pcBlind _ _ _, ?_, fun U hU hW2 => ⟨rfl, by rw [hU]; exact hM, KS.go hS hU hW2 hK⟩⟩ rfl hn (hl.1.trans hml) rfl (by show 2 * 0 + _ ≤ 8; omega) d hroom⟩
  · unfold wsV at hx
    rcases List.mem_append.mp hx with h | h
    · simp only [List.mem_cons, List.not_mem_nil, or_false] at h
      rcases h with rfl | rfl | rfl | rfl
      · exact hl0
      · exact g3
      · exact g4
      · exact g2
    · rcases List.mem_cons.mp h with rfl | h
      · exact g1
      · exact h
  · rw [← hcls]
    exact va_recv hK.1 (hM.P1 hb0) hc (q0 := 0) rfl
theorem cr_s {Γ : CX} {G : GC} {i j : MI} {T : List ExceptionTableEntry} {mc ms pc k n : Nat} {ls : LL} {st rest : List Value} {M : PH} {mc' ms' nn idx : Nat} {Q' : OC → PH → Prop} {as : List Value} (C : Cx Γ G i T mc ms) (d : decode i.2.1 pc = .ok (.invokestatic idx, 3)) (hl0 : Cond.methodLink i.1.cls idx j.1 ∈ GW) (hm : MS j nn) (hr : RO j i) (hrun : Run j as M mc' ms' Q') (hst : st = as.reverse ++ rest) (hn : as.length = nn) (hW : (rest.map fun v => v.category).sum ≤ 8) (hroom : k + mc' ≤ mc ∧ n + ms' ≤ ms) :
    CR Γ G pc ls st M k n mc' ms' Q' rest := by
  obtain ⟨p, l, e, R, s, m, args, below, meth, c⟩ := Γ
  obtain ⟨hx, hb, hml, hown, hts, hret, hlocks, hname, htr, hT, hK, hRf, hRl, hRc, hRs⟩ := C
  intro A H locs hl hM hS
  subst hst
  rw [← hRc, ← hRs] at hroom
  obtain ⟨g1, g2, g3, g5⟩ := hm
  refine ⟨as.toArray, vx_runS (As := as) ⟨hx, hb, hml, hown, hts⟩ (hrun l G htr) ⟨callB_of nn hts (goodGW (fun x hx => ?_)) rfl rfl rfl (hts _ g2) (hts _ hl0) g5 ⟨by rw [hRf]; exact hr.1, by rw [hRl]; exact hr.2⟩, hts _ g3⟩ ⟨pcBlind _ _ _, fun U hU hW2 => ⟨rfl, by rw [hU]; exact hM, KS.go hS hU hW2 hK⟩⟩ rfl hn (hl.1.trans hml) rfl (by show 2 * 0 + _ ≤ 8; omega) d hroom⟩
  rcases List.mem_cons.mp hx with rfl | h
  · exact g1
  · exact h
theorem cr_sh {Γ : CX} {G : GC} {i j : MI} {T : List ExceptionTableEntry} {mc ms pc k n : Nat} {ls : LL} {st rest : List Value} {M : PH} {mc' ms' nn idx : Nat} {Q' : OC → PH → Prop} {as : List Value} {hh : List (Nat × Nat × Nat × Nat)} (C : Cx Γ G i T mc ms) (d : decode i.2.1 pc = .ok (.invokestatic idx, 3)) (hl0 : Cond.methodLink i.1.cls idx j.1 ∈ GW) (hm : MSH j hh nn) (hr : RO j i) (hrun : RunH j hh as M mc' ms' Q') (hst : st = as.reverse ++ rest) (hn : as.length = nn) (hW : (rest.map fun v => v.category).sum ≤ 8) (hroom : k + mc' ≤ mc ∧ n + ms' ≤ ms) :
    CR Γ G pc ls st M k n mc' ms' Q' rest := by
  obtain ⟨p, l, e, R, s, m, args, below, meth, c⟩ := Γ
  obtain ⟨hx, hb, hml, hown, hts, hret, hlocks, hname, htr, hT, hK, hRf, hRl, hRc, hRs⟩ := C
  intro A H locs hl hM hS
  subst hst
  rw [← hRc, ← hRs] at hroom
  obtain ⟨g1, g2, g3, g4, g5, g6⟩ := hm
  have hG : GoodIn GW (wsH j hh) := goodGW (fun x hx => by
    rcases List.mem_cons.mp hx with rfl | h
    · exact g1
    · exact h)
  refine ⟨as.toArray, vx_runSX (hh := hh) (As := as) ⟨hx, hb, hml, hown, hts⟩ (hrun l G htr) ⟨⟨rfl, rfl, by rw [hRf]; exact hr.1, by rw [hRl]; exact hr.2, pay_in hts hG, List.mem_cons_self⟩, hts _ g1, hts _ g2, ⟨g4, g5⟩, fun sig h => ?_, hts _ hl0, hts _ g3⟩ ⟨pcBlind _ _ _, fun U hU hW2 => ⟨rfl, by rw [hU]; exact hM, KS.go hS hU hW2 hK⟩⟩ rfl hn (hl.1.trans hml) rfl (by show 2 * 0 + _ ≤ 8; omega) d hroom⟩
  have h2 := g6
  rw [h] at h2
  exact (Option.some.inj h2).symm
theorem cr_i {Γ : CX} {G : GC} {i j : MI} {T : List ExceptionTableEntry} {mc ms pc k n : Nat} {ls : LL} {st rest : List Value} {M : PH} {mc' ms' nn idx : Nat} {Q' : OC → PH → Prop} {as : List Value} {b : Nat} (C : Cx Γ G i T mc ms) (d : decode i.2.1 pc = .ok (.invokespecial idx, 3)) (hl0 : Cond.methodLink i.1.cls idx j.1 ∈ GW) (hm : MN j nn) (hr : RO j i) (hno : ∀ (E : String) (M : PH), ¬ Q' (.inr E) M) (hrun : Run j (.ref b :: as) M mc' ms' Q') (hst : st = as.reverse ++ .ref b :: rest) (hn : as.length = nn) (hW : (rest.map fun v => v.category).sum ≤ 8) (hroom : k + mc' ≤ mc ∧ n + ms' ≤ ms) :
    CR Γ G pc ls st M k n mc' ms' Q' rest := by
  obtain ⟨p, l, e, R, s, m, args, below, meth, c⟩ := Γ
  obtain ⟨hx, hb, hml, hown, hts, hret, hlocks, hname, htr, hT, hK, hRf, hRl, hRc, hRs⟩ := C
  intro A H locs hl hM hS
  subst hst
  rw [← hRc, ← hRs] at hroom
  obtain ⟨g1, g2, g3, g4, g5, g6⟩ := hm
  refine ⟨(Value.ref b :: as).toArray, fun T hT X => Or.inl (va_runI (g := F0 m pc A (as.reverse ++ .ref b :: rest)) (b := b) (As := as) (bytes := j.2.1) (maxL := j.2.2.1) ⟨hx, hb, hml, hown, hts⟩ (met_of hno (hrun l G htr)) (cwI (ws' := GW) nn hts (goodGW (fun x hx => ?_)) (by unfold wsC; rw [g5]) rfl rfl (hts _ g2) (hts _ hl0) (hts _ g3) g4 g6 ⟨by rw [hRf]; exact hr.1, by rw [hRl]; exact hr.2⟩) ⟨pcBlind _ _ _, fun U hU hW2 => ⟨rfl, by rw [hU]; exact hM, KS.go hS hU hW2 hK⟩⟩ rfl hn (hl.1.trans hml) rfl (by show 2 * 0 + _ ≤ 8; omega) d hroom T hT X)⟩
  rcases List.mem_cons.mp hx with rfl | h
  · rw [g5]; exact g1
  · exact h
theorem cr_in {Γ : CX} {G : GC} {i j : MI} {T : List ExceptionTableEntry} {mc ms pc k n : Nat} {ls : LL} {st rest : List Value} {M : PH} {mc' ms' nn idx : Nat} {Q' : OC → PH → Prop} {as : List Value} {b : Nat} {host : String} (C : Cx Γ G i T mc ms) (d : decode i.2.1 pc = .ok (.invokespecial idx, 3)) (hl0 : Cond.methodLinkNest i.1.cls idx j.1 host ∈ XW) (hm : MN j nn) (hr : RO j i) (hno : ∀ (E : String) (M : PH), ¬ Q' (.inr E) M) (hrun : Run j (.ref b :: as) M mc' ms' Q') (hst : st = as.reverse ++ .ref b :: rest) (hn : as.length = nn) (hW : (rest.map fun v => v.category).sum ≤ 8) (hroom : k + mc' ≤ mc ∧ n + ms' ≤ ms) :
    CR Γ G pc ls st M k n mc' ms' Q' rest := by
  obtain ⟨p, l, e, R, s, m, args, below, meth, c⟩ := Γ
  obtain ⟨hx, hb, hml, hown, hts, hret, hlocks, hname, htr, hT, hK, hRf, hRl, hRc, hRs⟩ := C
  intro A H locs hl hM hS
  subst hst
  rw [← hRc, ← hRs] at hroom
  obtain ⟨g1, g2, g3, g4, g5, g6⟩ := hm
  refine ⟨(Value.ref b :: as).toArray, fun T hT X => Or.inl (va_runIN (g := F0 m pc A (as.reverse ++ .ref b :: rest)) (b := b) (As := as) (bytes := j.2.1) (maxL := j.2.2.1) (host := host) ⟨hx, hb, hml, hown, hts⟩ (met_of hno (hrun l G htr)) ⟨va_cnB (ws' := GW) nn hts (goodGW (fun x hx => ?_)) (by unfold wsC; rw [g5]) rfl rfl (hK.2.2.2.2.2.1 _ hl0) (hts _ g2) g6 ⟨by rw [hRf]; exact hr.1, by rw [hRl]; exact hr.2⟩, g4, hts _ g3⟩ ⟨pcBlind _ _ _, fun U hU hW2 => ⟨rfl, by rw [hU]; exact hM, KS.go hS hU hW2 hK⟩⟩ rfl hn (hl.1.trans hml) rfl (by show 2 * 0 + _ ≤ 8; omega) d hroom T hT X)⟩
  rcases List.mem_cons.mp hx with rfl | h
  · rw [g5]; exact g1
  · exact h
theorem cr_sn {Γ : CX} {G : GC} {i j : MI} {T : List ExceptionTableEntry} {mc ms pc k n : Nat} {ls : LL} {st rest : List Value} {M : PH} {mc' ms' nn idx : Nat} {Q' : OC → PH → Prop} {as : List Value} {host : String} (C : Cx Γ G i T mc ms) (d : decode i.2.1 pc = .ok (.invokestatic idx, 3)) (hl0 : Cond.methodLinkNest i.1.cls idx j.1 host ∈ XW) (hm : MS j nn) (hr : RO j i) (hno : ∀ (E : String) (M : PH), ¬ Q' (.inr E) M) (hrun : Run j as M mc' ms' Q') (hst : st = as.reverse ++ rest) (hn : as.length = nn) (hW : (rest.map fun v => v.category).sum ≤ 8) (hroom : k + mc' ≤ mc ∧ n + ms' ≤ ms) :
    CR Γ G pc ls st M k n mc' ms' Q' rest := by
  obtain ⟨p, l, e, R, s, m, args, below, meth, c⟩ := Γ
  obtain ⟨hx, hb, hml, hown, hts, hret, hlocks, hname, htr, hT, hK, hRf, hRl, hRc, hRs⟩ := C
  intro A H locs hl hM hS
  subst hst
  rw [← hRc, ← hRs] at hroom
  obtain ⟨g1, g2, g3, g5⟩ := hm
  refine ⟨as.toArray, fun T hT X => Or.inl (va_runSN (g := F0 m pc A (as.reverse ++ rest)) (As := as) (host := host) ⟨hx, hb, hml, hown, hts⟩ (met_of hno (hrun l G htr)) ⟨va_cnB nn hts (goodGW (fun x hx => ?_)) rfl rfl rfl (hK.2.2.2.2.2.1 _ hl0) (hts _ g2) g5 ⟨by rw [hRf]; exact hr.1, by rw [hRl]; exact hr.2⟩, hts _ g3, trivial⟩ ⟨pcBlind _ _ _, fun U hU hW2 => ⟨rfl, by rw [hU]; exact hM, KS.go hS hU hW2 hK⟩⟩ rfl hn (hl.1.trans hml) rfl (by show 2 * 0 + _ ≤ 8; omega) d hroom T hT X)⟩
  rcases List.mem_cons.mp hx with rfl | h
  · exact g1
  · exact h
theorem pw_any {Γ : CX} {G : GC} {Z : State → Prop} {pc q k n : Nat} {ls : LL} {st rest : List Value} {M : PH} {mc' ms' : Nat} {Q' : OC → PH → Prop} (h : CR Γ G pc ls st M k n mc' ms' Q' rest) (hq : pc + 3 = q) (K : ∀ (v : Option Value) (M1 : PH), Q' (.inl v) M1 → PW Γ G Z q ls (v.toList ++ rest) M1 (k + mc') (n + ms')) (KX : ∀ (E : String) (M1 : PH), Q' (.inr E) M1 → PX Γ G Z E pc ls rest M1 (k + mc') (n + ms')) : PW Γ G Z pc ls st M k n := by
  obtain ⟨p, l, e, R, s, m, args, below, meth, c⟩ := Γ
  subst hq
  intro A H locs hl hM hS T hT X
  obtain ⟨a, hr⟩ := h A H locs hl hM hS
  rcases hr T hT X with ⟨v, st₀, t, T', L, h0, X', hL, e1, e2, ⟨⟨v', M1, hv, hQ, hSim⟩, hF⟩, st⟩ | ⟨q9, st₀, t, T', L, E, ce, h0, X', hL, e1, e2, ⟨⟨M1, hQ, hSim⟩, hF⟩, hce, hcv, hcl, st⟩
  · cases hv
    obtain ⟨k1, k2, k3⟩ := vx_keep h0 e1 hS (fun q _ h => h) (fun q h => h) hL hF
    obtain ⟨t2, a1, b1⟩ := K v M1 hQ A T'.heap (locs ++ L) hl (by rw [e1]; exact hSim) k3 T' rfl X'
    exact ⟨t2, st t2 a1, b1⟩
  · obtain ⟨k1, k2, k3⟩ := vx_keep h0 e1 hS (fun q _ h => h) (fun q h => h) hL hF
    obtain ⟨t2, a1, b1⟩ := KX E M1 hQ A T'.heap (locs ++ L) ce q9 hl (by rw [e1]; exact hSim) k3 (by rw [e1]; exact hce) hcv hcl T' rfl X'
    exact ⟨t2, st.trans a1, b1⟩
/-- a value; nothing; an exception -/
def RV (v : Value) (P : PH → Prop) : OC → PH → Prop := fun o M => o = .inl (some v) ∧ P M
def RN (P : PH → Prop) : OC → PH → Prop := fun o M => o = .inl none ∧ P M
def RX (E : String) (P : PH → Prop) : OC → PH → Prop := fun o M => o = .inr E ∧ P M
theorem RV.no {v : Value} {P : PH → Prop} : ∀ (E : String) (M : PH), ¬ RV v P (.inr E) M := fun _ _ h => by cases h.1
theorem RN.no {P : PH → Prop} : ∀ (E : String) (M : PH), ¬ RN P (.inr E) M := fun _ _ h => by cases h.1
theorem pw_val {Γ : CX} {G : GC} {Z : State → Prop} {pc q k n : Nat} {ls : LL} {st rest : List Value} {M : PH} {mc' ms' : Nat} {v : Value} {P : PH → Prop} (h : CR Γ G pc ls st M k n mc' ms' (RV v P) rest) (hq : pc + 3 = q) (K : ∀ M1 : PH, P M1 → PW Γ G Z q ls (v :: rest) M1 (k + mc') (n + ms')) : PW Γ G Z pc ls st M k n :=
  pw_any h hq (fun v1 M1 ⟨h1, h2⟩ => by cases h1; exact K M1 h2) (fun E M1 h => (RV.no E M1 h).elim)
theorem pw_rd {Γ : CX} {G : GC} {Z : State → Prop} {pc q k n : Nat} {ls : LL} {st rest : List Value} {M : PH} {v : Value} (h : CR Γ G pc ls st M k n 0 0 (RV v (fun M1 => M1 = M)) rest) (hq : pc + 3 = q) (K : PW Γ G Z q ls (v :: rest) M k n) : PW Γ G Z pc ls st M k n :=
  pw_val h hq (fun M1 h1 => by subst h1; exact K)
theorem pw_void {Γ : CX} {G : GC} {Z : State → Prop} {pc q k n : Nat} {ls : LL} {st rest : List Value} {M : PH} {mc' ms' : Nat} {P : PH → Prop} (h : CR Γ G pc ls st M k n mc' ms' (RN P) rest) (hq : pc + 3 = q) (K : ∀ M1 : PH, P M1 → PW Γ G Z q ls rest M1 (k + mc') (n + ms')) : PW Γ G Z pc ls st M k n :=
  pw_any h hq (fun v1 M1 ⟨h1, h2⟩ => by cases h1; exact K M1 h2) (fun E M1 h => (RN.no E M1 h).elim)
theorem pw_exc {Γ : CX} {G : GC} {Z : State → Prop} {pc q k n : Nat} {ls : LL} {st rest : List Value} {M : PH} {mc' ms' : Nat} {E : String} {P : PH → Prop} (h : CR Γ G pc ls st M k n mc' ms' (RX E P) rest) (K : ∀ M1 : PH, P M1 → PX Γ G Z E pc ls rest M1 (k + mc') (n + ms')) : PW Γ G Z pc ls st M k n :=
  pw_any h rfl (fun v1 M1 h => by cases h.1) (fun E1 M1 ⟨h1, h2⟩ => by cases h1; exact K M1 h2)
/-- not caught here -/
theorem px_out {Γ : CX} {G : GC} {i : MI} {mc ms pc k n : Nat} {ls : LL} {st : List Value} {M : PH} {Q : OC → PH → Prop} {E : String} (C : Cx Γ G i [] mc ms) (hkn : k ≤ mc ∧ n ≤ ms) (hQ : Q (.inr E) M) : PX Γ G (ZJ Γ G mc ms Q) E pc ls st M k n := by
  obtain ⟨p, l, e, R, s, m, args, below, meth, c⟩ := Γ
  obtain ⟨hx, hb, hml, hown, hts, hret, hlocks, hname, htr, hT, hK, hRf, hRl, hRc, hRs⟩ := C
  intro A H locs ce q9 hl hM hS hce hcv hcl
  exact vx_out (fun x hx => by rw [hT] at hx; cases hx) hlocks hce hcv hcl (fun t ht hW => ⟨⟨M, hQ, by rw [ht]; exact hM⟩, hS.F ht⟩) hS.2.2 hkn.1 hkn.2
/-- caught by a row of the table -/
theorem px_catch {Γ : CX} {G : GC} {Z : State → Prop} {i : MI} {T : List ExceptionTableEntry} {mc ms pc q k n : Nat} {ls : LL} {st rest : List Value} {M : PH} {E name : String} (C : Cx Γ G i T mc ms) (pre : List ExceptionTableEntry) (x : ExceptionTableEntry) (suf : List ExceptionTableEntry) (hsplit : T = pre ++ x :: suf)
    (hpass : ∀ z ∈ pre, covers z pc = false ∨ (z.catchType ≠ 0 ∧ ∃ nm : String, Cond.classLink i.1.cls z.catchType nm ∈ GW ∧ ∀ s : State, KS G s → va_Nc E nm s)) (hx0 : covers x pc = true) (h0 : x.catchType ≠ 0)
    (hlink : Cond.classLink i.1.cls x.catchType name ∈ GW) (hcast : Cond.castable E name ∈ XW) (K : ∀ q9 : Nat, PW Γ G Z x.handlerPc ls [.ref q9] M k n) : PX Γ G Z E pc ls st M k n := by
  obtain ⟨p, l, e, R, s, m, args, below, meth, c⟩ := Γ
  obtain ⟨hx, hb, hml, hown, hts, hret, hlocks, hname, htr, hT, hK, hRf, hRl, hRc, hRs⟩ := C
  intro A H locs ce q9 hl hM hS hce hcv hcl
  refine vx_catch hown pre x suf (hT.trans hsplit) (fun z hz => ?_) hx0 h0 (hts _ hlink) (va_Nw.use rfl (hK.2.2.2.2.2.1 _ hcast)) hce hcv hcl (K q9 A H locs hl hM hS)
  rcases hpass z hz with h | ⟨h1, nm, h2, h3⟩
  · exact Or.inl h
  · exact Or.inr ⟨h1, nm, hts _ h2, h3 s hK⟩
def xNames : List String := ["java/lang/RuntimeException", "java/lang/Exception"]
def TW (own : String) (ik is ic : Nat) (E : String) : Prop := ∃ text : String, Cond.classLink own ik E ∈ GW ∧ Cond.initialized E ∈ GW ∧ (own, is, text) ∈ SW ∧ (∀ x ∈ vx_atS own ic E xNames, x ∈ GW ∨ x ∈ XW) ∧ (∀ x ∈ Cond.classLink own ik E :: Cond.initialized E :: vx_atS own ic E xNames, vx_ot x = true) ∧ Bundle.fit E = true
theorem xNames_fit : ∀ n ∈ xNames, Bundle.fit n = true := by decide +kernel
theorem xw_tab {x : Cond} (h : x ∈ XW) : x.onTables = true := by
  have g := (List.mem_filter.mp h).2
  cases x <;> first | (simp [isXW] at g; done) | rfl
theorem pw_throw {Γ : CX} {G : GC} {i : MI} {T : List ExceptionTableEntry} {mc ms pc k n ik is ic : Nat} {ls : LL} {st : List Value} {M : PH} {Q : OC → PH → Prop} {E : String} (C : Cx Γ G i [] mc ms) (ht : TW i.1.cls ik is ic E)
    (d0 : decode i.2.1 pc = .ok (.new ik, 3)) (d3 : decode i.2.1 (pc + 3) = .ok (.dup, 1)) (d4 : decode i.2.1 (pc + 4) = .ok (.ldc is, 2)) (d6 : decode i.2.1 (pc + 6) = .ok (.invokespecial ic, 3)) (d9 : decode i.2.1 (pc + 9) = .ok (.athrow, 1))
    (hfr : 6 ≤ i.2.2.2.2.1 ∧ (st.map fun v => v.category).sum + 82 ≤ i.2.2.2.2.2) (hkn : k + 1 ≤ mc ∧ n + 6 ≤ ms) (hQ : ∀ z : Nat, M.1 ≤ z → Q (.inr E) (z, M.2)) : PW Γ G (ZJ Γ G mc ms Q) pc ls st M k n := by
  obtain ⟨p, l, e, R, s, m, args, below, meth, c⟩ := Γ
  obtain ⟨hx, hb, hml, hown, hts, hret, hlocks, hname, htr, hT, hK, hRf, hRl, hRc, hRs⟩ := C
  intro A H locs hl hM hS
  obtain ⟨text, t1, t2, t3, t4, t5, t6⟩ := ht
  obtain ⟨sa, hsa⟩ := hK.2.2.2.2.2.2.1 _ t3
  refine vx_throwS (names := xNames) hx hb htr hown t6 xNames_fit (hts _ t1) (hts _ t2) hsa (fun x hx => ?_) t5 hK.2.2.1 hK.2.2.2.1 hS hl.1 d0 d3 d4 d6 d9 (fun x hx => by rw [hT] at hx; cases hx) (by rw [hRf]; exact hfr.1) (by rw [hRl]; exact hfr.2) (by rw [hRc]; exact hkn.1) (by rw [hRs]; exact hkn.2) hlocks (fun t hA hz ho => ?_) hS.2.2 hkn.1 hkn.2
  · rcases t4 x hx with h | h
    · exact hts _ h
    · exact va_Nw.use (xw_tab h) (hK.2.2.2.2.2.1 _ h)
  · refine ⟨⟨(t.heap.size, M.2), hQ _ (by rw [hM.1]; exact hz), rfl, fun a x hx => ?_⟩, Nat.le_trans hS.1 hz, fun q h1 h2 => ?_⟩
    · obtain ⟨h1, h2⟩ := hM.2 a x hx
      exact ⟨h1, h2.kept (ho a h2.lt)⟩
    · rw [ho q (Nat.lt_of_lt_of_le h1 hS.1)]
      exact hS.2.1 q h1 h2
theorem pw_throwW {Γ : CX} {G : GC} {i : MI} {T : List ExceptionTableEntry} {mc ms pc k n ik is ic : Nat} {ls : LL} {st : List Value} {M : PH} {Q : OC → PH → Prop} {E : String} (C : Cx Γ G i [] mc ms) (ht : TW i.1.cls ik is ic E)
    (d0 : decode i.2.1 pc = .ok (.new ik, 3)) (d3 : decode i.2.1 (pc + 3) = .ok (.dup, 1)) (d4 : decode i.2.1 (pc + 4) = .ok (.ldc_w is, 3)) (d7 : decode i.2.1 (pc + 7) = .ok (.invokespecial ic, 3)) (d10 : decode i.2.1 (pc + 10) = .ok (.athrow, 1))
    (hfr : 6 ≤ i.2.2.2.2.1 ∧ (st.map fun v => v.category).sum + 82 ≤ i.2.2.2.2.2) (hkn : k + 1 ≤ mc ∧ n + 6 ≤ ms) (hQ : ∀ z : Nat, M.1 ≤ z → Q (.inr E) (z, M.2)) : PW Γ G (ZJ Γ G mc ms Q) pc ls st M k n := by
  obtain ⟨p, l, e, R, s, m, args, below, meth, c⟩ := Γ
  obtain ⟨hx, hb, hml, hown, hts, hret, hlocks, hname, htr, hT, hK, hRf, hRl, hRc, hRs⟩ := C
  intro A H locs hl hM hS
  obtain ⟨text, t1, t2, t3, t4, t5, t6⟩ := ht
  obtain ⟨sa, hsa⟩ := hK.2.2.2.2.2.2.1 _ t3
  refine vx_throwSW (names := xNames) hx hb htr hown t6 xNames_fit (hts _ t1) (hts _ t2) hsa (fun x hx => ?_) t5 hK.2.2.1 hK.2.2.2.1 hS hl.1 d0 d3 d4 d7 d10 (fun x hx => by rw [hT] at hx; cases hx) (by rw [hRf]; exact hfr.1) (by rw [hRl]; exact hfr.2) (by rw [hRc]; exact hkn.1) (by rw [hRs]; exact hkn.2) hlocks (fun t hA hz ho => ?_) hS.2.2 hkn.1 hkn.2
  · rcases t4 x hx with h | h
    · exact hts _ h
    · exact va_Nw.use (xw_tab h) (hK.2.2.2.2.2.1 _ h)
  · refine ⟨⟨(t.heap.size, M.2), hQ _ (by rw [hM.1]; exact hz), rfl, fun a x hx => ?_⟩, Nat.le_trans hS.1 hz, fun q h1 h2 => ?_⟩
    · obtain ⟨h1, h2⟩ := hM.2 a x hx
      exact ⟨h1, h2.kept (ho a h2.lt)⟩
    · rw [ho q (Nat.lt_of_lt_of_le h1 hS.1)]
      exact hS.2.1 q h1 h2
end
