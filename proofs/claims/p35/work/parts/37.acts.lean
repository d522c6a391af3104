/-! The law's call by the document. -/
theorem QX.ex {M : PH} {x : Nat} {E F : Nat → String} {r : RS} {i : MI} {as : List Value} {mc ms : Nat} {N : Nat} (h : Run i as M mc ms (QX M x E r)) (hN : r.1 ≤ N) (hE : ∀ k, 1 ≤ k → k ≤ N → E k = F k) : Run i as M mc ms (QX M x F r) := by
  have e : QX M x E r = QX M x F r := by
    funext o M1
    unfold QX
    by_cases h0 : r.1 = 0
    · rw [if_pos h0, if_pos h0]
    · rw [if_neg h0, if_neg h0, hE _ (by omega) hN]
  rw [← e]
  exact h
abbrev AQ (M : PH) (x : Nat) (v : Int32) (S1 : St) : OC → PH → Prop := RV (.int v) (fun M1 => RepX M1 x S1 ∧ Fr M M1 x)
theorem a_of {M : PH} {x : Nat} {E : Nat → String} {r : RS} {as : List Value} {v : Int32} {S1 : St} (h : Run iL_call as M 2 12 (RA M x E r)) (e : r = (0, v, S1)) : Run iL_call as M 2 12 (AQ M x v S1) := by
  subst e
  exact h
theorem a_ofx {M : PH} {x : Nat} {E : Nat → String} {r : RS} {as : List Value} {k : Nat} {v w : Int32} {S1 : St} (h : Run iL_call as M 2 12 (RA M x E r)) (e : r = (k + 1, v, S1)) (hw : cod (E (k + 1)) = w) : Run iL_call as M 2 12 (AQ M x w S1) := by
  subst e
  have e2 : ans E (k + 1, v, S1) = w := by
    unfold ans
    rw [if_neg (Nat.succ_ne_zero k), hw]
  unfold RA at h
  rw [e2] at h
  exact h
theorem g_append {M : PH} {x D : Nat} {S : St} (hX : RepX M x S) (hS : SInv D S) {c1 : Int32} {b : Int32} {c : Int32} {d : Int32} : Run iL_call [.ref x, .int (nI 0), .int c1, .int b, .int c, .int d] M 2 12 (RA M x (EX xA xS xS) (spAppend S c1)) := c_append (l_tryAppend (p_append hX hS c1) (le_spAppend S c1) hX.1)
theorem g_load {M : PH} {x D : Nat} {S : St} (hX : RepX M x S) (hS : SInv D S) {a : Int32} {b : Int32} {c : Int32} {d : Int32} : Run iL_call [.ref x, .int (nI 1), .int a, .int b, .int c, .int d] M 2 12 (RA M x (EX xS xS xS) (spLoad S)) := c_load (l_tryLoad (p_load hX hS) (le_spLoad S) hX.1)
theorem g_about {M : PH} {x D : Nat} {S : St} (hX : RepX M x S) (hS : SInv D S) {c1 : Int32} {b : Int32} {c : Int32} {d : Int32} : Run iL_call [.ref x, .int (nI 2), .int c1, .int b, .int c, .int d] M 2 12 (RA M x (EX xA xA xA) (spAbout S c1)) := c_about (l_tryAbout (p_about hX hS c1) (le_spAbout S c1) hX.1)
theorem g_course {M : PH} {x D : Nat} {S : St} (hX : RepX M x S) (hS : SInv D S) {c1 : Int32} {c2 : Int32} {c : Int32} {d : Int32} : Run iL_call [.ref x, .int (nI 3), .int c1, .int c2, .int c, .int d] M 2 12 (RA M x (EX xB xA xA) (spCourse S c1 c2)) := c_course (l_tryCourse (p_course hX hS c1 c2) (le_spCourse S c1 c2) hX.1)
theorem g_mason {M : PH} {x D : Nat} {S : St} (hX : RepX M x S) (hS : SInv D S) {c1 : Int32} {c2 : Int32} {c : Int32} {d : Int32} : Run iL_call [.ref x, .int (nI 4), .int c1, .int c2, .int c, .int d] M 2 12 (RA M x (EX xB xA xA) (spMason S c1 c2)) := c_mason (l_tryMason (p_mason hX hS c1 c2) (le_spMason S c1 c2) hX.1)
theorem g_stone {M : PH} {x D : Nat} {S : St} (hX : RepX M x S) (hS : SInv D S) {c1 : Int32} {c2 : Int32} {c : Int32} {d : Int32} : Run iL_call [.ref x, .int (nI 5), .int c1, .int c2, .int c, .int d] M 2 12 (RA M x (EX xB xA xA) (spStone S c1 c2)) := c_stone (l_tryStone (p_stone hX hS c1 c2) (le_spStone S c1 c2) hX.1)
theorem g_why {M : PH} {x D : Nat} {S : St} (hX : RepX M x S) (hS : SInv D S) {c1 : Int32} {b : Int32} {c : Int32} {d : Int32} : Run iL_call [.ref x, .int (nI 6), .int c1, .int b, .int c, .int d] M 2 12 (RA M x (EX xB xB xB) (spWhy S c1)) := c_why (l_tryWhy (p_why hX hS c1) (le_spWhy S c1) hX.1)
theorem g_build {M : PH} {x D : Nat} {S : St} (hX : RepX M x S) (hS : SInv D S) {c1 : Int32} {c2 : Int32} {c3 : Int32} {d : Int32} : Run iL_call [.ref x, .int (nI 7), .int c1, .int c2, .int c3, .int d] M 2 12 (RA M x (EX xA xS xS) (spAddCourse S c1 c2 c3)) := c_build (l_tryBuild (p_addCourse hX hS c1 c2 c3) (le_spAddCourse S c1 c2 c3) hX.1)
theorem g_hire {M : PH} {x D : Nat} {S : St} (hX : RepX M x S) (hS : SInv D S) {c1 : Int32} {c2 : Int32} {c : Int32} {d : Int32} : Run iL_call [.ref x, .int (nI 8), .int c1, .int c2, .int c, .int d] M 2 12 (RA M x (EX xA xS xS) (spAddMason S c1 c2)) := c_hire (l_tryHire (p_addMason hX hS c1 c2) (le_spAddMason S c1 c2) hX.1)
theorem g_rate {M : PH} {x D : Nat} {S : St} (hX : RepX M x S) (hS : SInv D S) {c1 : Int32} {c2 : Int32} {c : Int32} {d : Int32} : Run iL_call [.ref x, .int (nI 9), .int c1, .int c2, .int c, .int d] M 2 12 (RA M x (EX xB xA xA) (spSetRate S c1 c2)) := c_rate (l_tryRate (QX.ex (p_setRate hX hS c1 c2) (le_spSetRate S c1 c2) (fun k h1 h2 => by rcases (show k = 1 ∨ k = 2 by omega) with rfl | rfl <;> rfl)) (le_spSetRate S c1 c2) hX.1)
theorem g_bound {M : PH} {x D : Nat} {S : St} (hX : RepX M x S) (hS : SInv D S) {c1 : Int32} {b : Int32} {c : Int32} {d : Int32} : Run iL_call [.ref x, .int (nI 10), .int c1, .int b, .int c, .int d] M 2 12 (RA M x (EX xA xA xA) (spSetBound S c1)) := c_bound (l_tryBound (QX.ex (p_setBound hX hS c1) (le_spSetBound S c1) (fun k h1 h2 => by rcases (show k = 1 by omega) with rfl <;> rfl)) (le_spSetBound S c1) hX.1)
theorem g_cut {M : PH} {x D : Nat} {S : St} (hX : RepX M x S) (hS : SInv D S) {c1 : Int32} {c2 : Int32} {c3 : Int32} {d : Int32} : Run iL_call [.ref x, .int (nI 11), .int c1, .int c2, .int c3, .int d] M 2 12 (RA M x (EX xB xA xS) (spCut S c1 c2 c3)) := c_cut (l_tryCut (p_cut hX hS c1 c2 c3) (le_spCut S c1 c2 c3) hX.1)
theorem g_inspect {M : PH} {x D : Nat} {S : St} (hX : RepX M x S) (hS : SInv D S) {c1 : Int32} {b : Int32} {c : Int32} {d : Int32} : Run iL_call [.ref x, .int (nI 12), .int c1, .int b, .int c, .int d] M 2 12 (RA M x (EX xB xS xS) (spInspect S c1)) := c_inspect (l_tryInspect (p_inspect hX hS c1) (le_spInspect S c1) hX.1)
theorem g_recut {M : PH} {x D : Nat} {S : St} (hX : RepX M x S) (hS : SInv D S) {c1 : Int32} {c2 : Int32} {c3 : Int32} {d : Int32} : Run iL_call [.ref x, .int (nI 13), .int c1, .int c2, .int c3, .int d] M 2 12 (RA M x (EX xB xS xS) (spRecut S c1 c2 c3)) := c_recut (l_tryRecut (p_recut hX hS c1 c2 c3) (le_spRecut S c1 c2 c3) hX.1)
theorem g_scrap {M : PH} {x D : Nat} {S : St} (hX : RepX M x S) (hS : SInv D S) {c1 : Int32} {b : Int32} {c : Int32} {d : Int32} : Run iL_call [.ref x, .int (nI 14), .int c1, .int b, .int c, .int d] M 2 12 (RA M x (EX xB xS xS) (spScrap S c1)) := c_scrap (l_tryScrap (p_scrap hX hS c1) (le_spScrap S c1) hX.1)
theorem g_place {M : PH} {x D : Nat} {S : St} (hX : RepX M x S) (hS : SInv D S) {c1 : Int32} {b : Int32} {c : Int32} {d : Int32} : Run iL_call [.ref x, .int (nI 15), .int c1, .int b, .int c, .int d] M 2 12 (RA M x (EX xB xS xS) (spSet S c1)) := c_place (l_tryPlace (p_set hX hS c1) (le_spSet S c1) hX.1)
theorem g_undo {M : PH} {x D : Nat} {S : St} (hX : RepX M x S) (hS : SInv D S) {a : Int32} {b : Int32} {c : Int32} {d : Int32} : Run iL_call [.ref x, .int (nI 16), .int a, .int b, .int c, .int d] M 2 12 (RA M x (EX xS xS xS) (spUndo S)) := c_undo (l_tryUndo (p_undo hX hS) (le_spUndo S) hX.1)
theorem g_for {M : PH} {x D : Nat} {S : St} (hX : RepX M x S) (hS : SInv D S) {c1 : Int32} {b : Int32} {c : Int32} {d : Int32} : Run iL_call [.ref x, .int (nI 17), .int c1, .int b, .int c, .int d] M 2 12 (RA M x (EX xB xB xB) (spRecutFor S c1)) := c_for (l_tryFor (p_recutFor hX hS c1) (le_spRecutFor S c1) hX.1)
theorem g_cheapest {M : PH} {x D : Nat} {S : St} (hX : RepX M x S) (hS : SInv D S) {c1 : Int32} {b : Int32} {c : Int32} {d : Int32} : Run iL_call [.ref x, .int (nI 18), .int c1, .int b, .int c, .int d] M 2 12 (RA M x (EX xB xB xB) (spCheapest S c1)) := c_cheapest (l_tryCheapest (p_cheapest hX hS c1) (le_spCheapest S c1) hX.1)
theorem g_earn {M : PH} {x D : Nat} {S : St} (hX : RepX M x S) (hS : SInv D S) {c1 : Int32} {b : Int32} {c : Int32} {d : Int32} : Run iL_call [.ref x, .int (nI 19), .int c1, .int b, .int c, .int d] M 2 12 (RA M x (EX xA xA xA) (spEarn S c1)) := c_earn (l_tryEarn (p_wouldEarn hX hS c1) (le_spEarn S c1) hX.1)
theorem g_save {M : PH} {x D : Nat} {S : St} (hX : RepX M x S) (hS : SInv D S) {c1 : Int32} {b : Int32} {c : Int32} {d : Int32} : Run iL_call [.ref x, .int (nI 20), .int c1, .int b, .int c, .int d] M 2 12 (RA M x (EX xB xB xB) (spSave S c1)) := c_save (l_trySave (p_save hX hS c1) (le_spSave S c1) hX.1)
theorem g_restore {M : PH} {x D : Nat} {S : St} (hX : RepX M x S) (hS : SInv D S) {c1 : Int32} {b : Int32} {c : Int32} {d : Int32} : Run iL_call [.ref x, .int (nI 21), .int c1, .int b, .int c, .int d] M 2 12 (RA M x (EX xB xS xS) (spRestore S c1)) := c_restore (l_tryRestore (p_restore hX hS c1) (le_spRestore S c1) hX.1)
theorem e_place {S : St} {s : Nat} (hI : Inv (sP S)) (hs : s < sP S 7) (hy : why (sP S) s = 0) : spSet S (nI s) = (0, nI (cntC (sP S) (sP S (50 + 6 * s)) 3 + 1), wA S (stateP (sP S) s 3)) := by
  have hb := hI.b
  unfold spSet
  rw [if_pos (inI_i hs (by omega)), idx_n (by omega), if_pos hy, (set_cnt3 hI hs hy).1]
theorem e_undo {S : St} (h : 0 < sM S) : spUndo S = (0, nI (sM S - 1), (spUndo S).2.2) := by
  unfold spUndo
  rw [if_neg (by omega)]
theorem e_bound {S : St} {b : Nat} (h : b ≤ 9) : spSetBound S (nI b) = (0, nI (sP S 0), wA S (updN (sP S) 0 b)) := by
  unfold spSetBound
  rw [if_pos (inW_i (Nat.zero_le b) h (by omega)), idx_n (by omega)]
theorem e_inspect {S : St} {s : Nat} (hI : Inv (sP S)) (hs : s < sP S 7) (h0 : sP S (50 + 6 * s + 3) = 0) : spInspect S (nI s) = (0, (if sP S 0 < sP S (50 + 6 * s + 2) then -9 else nI (price (sP S) s)), wA S (inspectP (sP S) s)) := by
  have hb := hI.b
  unfold spInspect
  rw [if_pos (inI_i hs (by omega)), idx_n (by omega), if_pos h0]
theorem e_cut {S : St} {m c f : Nat} (hI : Inv (sP S)) (hm : m < sP S 6) (hc : c < sP S 5) (hf : f ≤ 9) (hw : canCut (sP S) m c) : spCut S (nI m) (nI c) (nI f) = (0, nI (sP S 7), wA S (cutP (sP S) m c f)) := by
  have hb := hI.b
  unfold spCut
  rw [if_pos ⟨inI_i hm (by omega), inI_i hc (by omega)⟩, if_pos (inW_i (Nat.zero_le f) hf (by omega)), idx_n (by omega), idx_n (by omega), idx_n (by omega), if_pos hw]
theorem e_cutN {S : St} {m c f : Nat} (hI : Inv (sP S)) (hm : m < sP S 6) (hc : c < sP S 5) (hf : f ≤ 9) (hw : ¬ canCut (sP S) m c) : spCut S (nI m) (nI c) (nI f) = (3, 0, S) := by
  have hb := hI.b
  unfold spCut
  rw [if_pos ⟨inI_i hm (by omega), inI_i hc (by omega)⟩, if_pos (inW_i (Nat.zero_le f) hf (by omega)), idx_n (by omega), idx_n (by omega), if_neg hw]
theorem lg_cmp_0 (x : Int64) : lg_cmp x x = nI 0 := by
  unfold lg_cmp
  rw [if_neg Int64.lt_irrefl, if_pos rfl]
  rfl
theorem pw_lcmp0 {Γ : CX} {G : GC} {Z : State → Prop} {i : MI} {T : List ExceptionTableEntry} {mc ms pc q k n : Nat} {ls : LL} {st : List Value} {M : PH} {x y : Int64} (C : Cx Γ G i T mc ms) (d : decode i.2.1 pc = .ok (.lcmp, 1)) (hxy : x = y) (hq : pc + 1 = q) (K : PW Γ G Z q ls (.int (nI 0) :: st) M k n) : PW Γ G Z pc ls (.long y :: .long x :: st) M k n := by
  subst hxy
  refine pw_lcmp (q := q) C d hq ?_
  rw [lg_cmp_0]
  exact K
theorem nI_neS {a : Nat} (h : a < 2147483648) : ¬ nI a = -9999003 := fun q => by
  have h1 := nI_toInt h
  rw [q] at h1
  have h2 : (-9999003 : Int32).toInt = -9999003 := by decide +kernel
  omega
theorem nI_ne9 {a : Nat} (h : a < 2147483648) : ¬ nI a = -9 := fun q => by
  have h1 := nI_toInt h
  rw [q] at h1
  have h2 : (-9 : Int32).toInt = -9 := by decide +kernel
  omega
theorem pw_or1 {Γ : CX} {G : GC} {Z : State → Prop} {i : MI} {T : List ExceptionTableEntry} {mc ms pc q k n : Nat} {ls : LL} {st : List Value} {M : PH} {a : Nat} (C : Cx Γ G i T mc ms) (d : decode i.2.1 pc = .ok (.ior, 1)) (ha : a ≤ 1) (hq : pc + 1 = q) (K : PW Γ G Z q ls (.int (nI 1) :: st) M k n) : PW Γ G Z pc ls (.int (nI 1) :: .int (nI a) :: st) M k n := by
  refine pw_ior (q := q) C d hq ?_
  rw [show nI a ||| nI 1 = nI 1 by rcases (show a = 0 ∨ a = 1 by omega) with rfl | rfl <;> decide +kernel]
  exact K
theorem pw_or0 {Γ : CX} {G : GC} {Z : State → Prop} {i : MI} {T : List ExceptionTableEntry} {mc ms pc q k n : Nat} {ls : LL} {st : List Value} {M : PH} {a : Nat} (C : Cx Γ G i T mc ms) (d : decode i.2.1 pc = .ok (.ior, 1)) (ha : a ≤ 1) (hq : pc + 1 = q) (K : PW Γ G Z q ls (.int (nI a) :: st) M k n) : PW Γ G Z pc ls (.int (nI 0) :: .int (nI a) :: st) M k n := by
  refine pw_ior (q := q) C d hq ?_
  rw [show nI a ||| nI 0 = nI a by rcases (show a = 0 ∨ a = 1 by omega) with rfl | rfl <;> decide +kernel]
  exact K
/-- k actions after S, the state T over the heap M -/
def SI (M0 : PH) (x D : Nat) (S T : St) (k : Nat) (M : PH) : Prop := RepX M x T ∧ Fr M0 M x ∧ SG (D + k) T ∧ Back k k S T
theorem SI.start {M : PH} {x D : Nat} {S : St} (hX : RepX M x S) (hG : SG D S) : SI M x D S S 0 M := ⟨hX, Fr.rf, hG, Back.start hX.m14⟩
theorem SI.act {M0 M M1 : PH} {x D k : Nat} {S T : St} {P : Nat → Nat} (h : SI M0 x D S T k M) (h14 : sM S ≤ 14) (hk : k < 14) (e : RepX M1 x (wA T P) ∧ Fr M M1 x) (hG : SG (D + k + 1) (wA T P)) : SI M0 x D S (wA T P) (k + 1) M1 := ⟨e.1, h.2.1.tr e.2, hG, h.2.2.2.push h14 hk⟩
/-- K actions, k of them not yet taken back -/
def UI (M0 : PH) (x D K : Nat) (S U : St) (k : Nat) (M : PH) : Prop := RepX M x U ∧ Fr M0 M x ∧ SG (D + K) U ∧ Back k K S U
theorem UI.start {M0 M : PH} {x D k : Nat} {S T : St} (h : SI M0 x D S T k M) : UI M0 x D k S T k M := h
theorem UI.undo {M0 M M1 : PH} {x D k K : Nat} {S U : St} (h : UI M0 x D K S U (k + 1) M) (e : RepX M1 x (spUndo U).2.2 ∧ Fr M M1 x) : UI M0 x D K S (spUndo U).2.2 k M1 := ⟨e.1, h.2.1.tr e.2, sg_undo h.2.2.1, h.2.2.2.undo.2.2⟩
theorem UI.pos {M0 M : PH} {x D k K : Nat} {S U : St} (h : UI M0 x D K S U (k + 1) M) : 0 < sM U := by
  have := h.2.2.2.2.2.2.2.1
  omega
theorem UI.page {M0 M : PH} {x D K : Nat} {S U : St} (h : UI M0 x D K S U 0 M) : sP U = sP S := by
  have := h.2.2.2.2.2.2.2.2.2
  rw [if_pos rfl] at this
  exact this
theorem UI.end {M0 M : PH} {x D K : Nat} {S U : St} (h : UI M0 x D K S U 0 M) : RepX M x (trim K S) ∧ Fr M0 M x := ⟨h.2.2.2.end h.1, h.2.1⟩
theorem u_undo {M0 M : PH} {x D k K : Nat} {S U : St} (h : UI M0 x D K S U (k + 1) M) {a b c d : Int32} : Run iL_call [.ref x, .int (nI 16), .int a, .int b, .int c, .int d] M 2 12 (AQ M x (nI (sM U - 1)) (spUndo U).2.2) := a_of (g_undo h.1 h.2.2.1.1) (e_undo h.pos)
