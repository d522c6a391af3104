/-! The law's cell: the script is an array below all that the law makes. -/
def SCG (G : GC) (b L : Nat) (xs : Nat → Int32) (U : State) : Prop := va_X b L xs U U.heap ∧ b < G.2.2 ∧ G.2.2 ≤ U.heap.size
def SC (Γ : CX) (G : GC) (b L : Nat) (xs : Nat → Int32) : Prop := match Γ with
  | (_, _, _, _, s, _, _, _, _, _) => SCG G b L xs s
theorem SCG.go {G : GC} {b L : Nat} {xs : Nat → Int32} {s U : State} {H : Heap} {locs : List Loc} (h : SCG G b L xs s) (hS : va_S (AB G) s.heap H locs) (hU : U.heap = H) (hW : s.WarmedH U.vm) : SCG G b L xs U := by
  obtain ⟨h1, h2, h3⟩ := h
  refine ⟨?_, h2, ?_⟩
  · rw [hU]
    exact va_X.moved hW.alike (va_X.kept h1 (hS.2.1 b (by omega) (fun q => by unfold AB at q; omega)))
  · rw [hU]
    exact Nat.le_trans h3 hS.1
def PcS (G : GC) (as : List Value) (M : PH) (b L : Nat) (xs : Nat → Int32) : Array Value → State → Prop := fun a U => PcOf G as M a U ∧ SCG G b L xs U
theorem pcBlindS (G : GC) (as : List Value) (M : PH) (b L : Nat) (xs : Nat → Int32) : FrameBlind (PcS G as M b L xs) := fun a U g mk ⟨h, hN⟩ => ⟨pcBlind G as M a U g mk h, ⟨va_X.moved (u := U) (U := U.calling g mk a) (Vm.Alike.refl U.vm) hN.1, hN.2⟩⟩
def RunS (i : MI) (as : List Value) (M : PH) (b L : Nat) (xs : Nat → Int32) (mc ms : Nat) (Q : OC → PH → Prop) : Prop := ∀ (l : Launch) (G : GC), l.stackTraces = false → vx_Met l i.1 (wsC i) (rmOf i mc ms) (PcS G as M b L xs) (QcOf G Q) (XCOf G Q) mc ms (AB G)
theorem RunS.of {i : MI} {as : List Value} {M : PH} {b L mc ms : Nat} {xs : Nat → Int32} {Q : OC → PH → Prop} {l0 : LL} (hy : plainName i.1.cls = true) (hfit : (lg_sl as).length ≤ i.2.2.1) (hl0 : lent as i.2.2.1 = l0)
    (body : ∀ (Γ : CX) (G : GC), Cx Γ G i [] mc ms → SC Γ G b L xs → PW Γ G (ZJ Γ G mc ms Q) 0 l0 [] M 0 0) : RunS i as M b L xs mc ms Q := by
  intro l G hst
  refine vx_ofW (cc := i.2.1) (maxL := i.2.2.1) (ret := i.2.2.2.1) hy rfl ?_
  intro p e s m args below meth c s₁ B hml ht hv
  obtain ⟨⟨rfl, hM, hK⟩, hN⟩ := hv
  have hts := atoms_spec (ws := wsC i) B.pre
  have hown : s.vm.findClass i.1.cls = some m.cls := findClass_of_methodNamed B.named
  have hC : Cx (p, l, e, (headSpec (wsC i) (rmOf i mc ms)).room, s, m, as.toArray, below, meth, c) G i [] mc ms :=
    ⟨B.exec, B.bytes, hml, hown, fun x hx => hts x (List.mem_cons_of_mem _ hx), B.returns, B.notSynchronized, (name_of_methodNamed B.named B.method).1, hst, by
      cases h9 : c.exceptionTable.toList with
      | nil => rfl
      | cons x t => exact (ht x (by rw [h9]; exact List.mem_cons_self)).elim, hK, rfl, rfl, rfl, rfl⟩
  have K := body _ G hC hN
  rw [lg_entry_eq]
  exact K _ _ [] (by rw [hml]; exact LV.entry hfit hl0) hM va_S.rf
theorem cr_sS {Γ : CX} {G : GC} {i j : MI} {T : List ExceptionTableEntry} {mc ms pc k n : Nat} {ls : LL} {st rest : List Value} {M : PH} {mc' ms' nn idx b L : Nat} {xs : Nat → Int32} {Q' : OC → PH → Prop} {as : List Value} (C : Cx Γ G i T mc ms) (hX : SC Γ G b L xs) (d : decode i.2.1 pc = .ok (.invokestatic idx, 3)) (hl0 : Cond.methodLink i.1.cls idx j.1 ∈ GW) (hm : MS j nn) (hr : RO j i) (hrun : RunS j as M b L xs mc' ms' Q') (hst : st = as.reverse ++ rest) (hn : as.length = nn) (hW : (rest.map fun v => v.category).sum ≤ 8) (hroom : k + mc' ≤ mc ∧ n + ms' ≤ ms) :
    CR Γ G pc ls st M k n mc' ms' Q' rest := by
  obtain ⟨p, l, e, R, s, m, args, below, meth, c⟩ := Γ
  obtain ⟨hx, hb, hml, hown, hts, hret, hlocks, hname, htr, hT, hK, hRf, hRl, hRc, hRs⟩ := C
  intro A H locs hl hM hS
  subst hst
  rw [← hRc, ← hRs] at hroom
  obtain ⟨g1, g2, g3, g5⟩ := hm
  refine ⟨as.toArray, vx_runS (As := as) ⟨hx, hb, hml, hown, hts⟩ (hrun l G htr) ⟨callB_of nn hts (goodGW (fun x hx => ?_)) rfl rfl rfl (hts _ g2) (hts _ hl0) g5 ⟨by rw [hRf]; exact hr.1, by rw [hRl]; exact hr.2⟩, hts _ g3⟩ ⟨pcBlindS _ _ _ _ _ _, fun U hU hW2 => ⟨⟨rfl, by rw [hU]; exact hM, KS.go hS hU hW2 hK⟩, SCG.go hX hS hU hW2⟩⟩ rfl hn (hl.1.trans hml) rfl (by show 2 * 0 + _ ≤ 8; omega) d hroom⟩
  rcases List.mem_cons.mp hx with rfl | h
  · exact g1
  · exact h
theorem pw_sld {Γ : CX} {G : GC} {Z : State → Prop} {i : MI} {T : List ExceptionTableEntry} {mc ms pc q k n : Nat} {ls : LL} {st : List Value} {M : PH} {b L j : Nat} {xs : Nat → Int32} (hX : SC Γ G b L xs) (C : Cx Γ G i T mc ms) (d : decode i.2.1 pc = .ok (.iaload, 1)) (hj : j < L) (hL : L < 2147483648) (hq : pc + 1 = q) (K : PW Γ G Z q ls (.int (xs j) :: st) M k n) : PW Γ G Z pc ls (.int (nI j) :: .ref b :: st) M k n := by
  obtain ⟨p, l, e, R, s, m, args, below, meth, c⟩ := Γ
  obtain ⟨hx, hb, hml, hown, hts, hret, hlocks, hname, htr, hT, hK, hRf, hRl, hRc, hRs⟩ := C
  obtain ⟨h1, h2, h3⟩ := hX
  subst hq
  intro A H locs hl hM hS
  exact va_sld hx hb h1 (Nat.lt_of_lt_of_le h2 h3) (fun q => by unfold AB at q; omega) hS (vp_in_n hj hL) d (by rw [nI_clamp (Nat.lt_trans hj hL)]; exact K A H locs hl hM hS)
theorem pw_slen {Γ : CX} {G : GC} {Z : State → Prop} {i : MI} {T : List ExceptionTableEntry} {mc ms pc q k n : Nat} {ls : LL} {st : List Value} {M : PH} {b L : Nat} {xs : Nat → Int32} (hX : SC Γ G b L xs) (C : Cx Γ G i T mc ms) (d : decode i.2.1 pc = .ok (.arraylength, 1)) (hq : pc + 1 = q) (K : PW Γ G Z q ls (.int (nI L) :: st) M k n) : PW Γ G Z pc ls (.ref b :: st) M k n := by
  obtain ⟨p, l, e, R, s, m, args, below, meth, c⟩ := Γ
  obtain ⟨hx, hb, hml, hown, hts, hret, hlocks, hname, htr, hT, hK, hRf, hRl, hRc, hRs⟩ := C
  obtain ⟨h1, h2, h3⟩ := hX
  subst hq
  intro A H locs hl hM hS
  exact va_slen hx hb h1 (Nat.lt_of_lt_of_le h2 h3) (fun q => by unfold AB at q; omega) hS d (K A H locs hl hM hS)
theorem andM (x : Int32) : ∃ v, v < 2147483648 ∧ x &&& 2147483647 = nI v := by
  have hM : (2147483647 : Int32).toBitVec.toNat = 2147483647 := by decide +kernel
  have h : (x &&& 2147483647).toBitVec.toNat < 2147483648 := by
    rw [Int32.toBitVec_and, BitVec.toNat_and, hM]
    have := Nat.and_le_right (n := x.toBitVec.toNat) (m := 2147483647)
    omega
  refine ⟨(x &&& 2147483647).toBitVec.toNat, h, ?_⟩
  apply Int32.toBitVec_inj.mp
  show _ = BitVec.ofNat 32 _
  rw [BitVec.ofNat_toNat, BitVec.setWidth_eq]
set_option maxHeartbeats 200000 in
set_option maxRecDepth 100000 in
theorem cell_in {b L k v : Nat} {xs : Nat → Int32} (hk : k ≤ 100) (hL : L ≤ 260) (h : k < L) (hv : xs k &&& 2147483647 = nI v) (M : PH) : RunS iL_cell [.ref b, .int (nI k)] M b L xs 0 0 (RV (.int (nI v)) (fun M1 => M1 = M)) := by
  refine RunS.of (l0 := [some (.ref b), some (.int (nI k))]) (by decide +kernel) (Nat.le_of_ble_eq_true rfl) (by rfl) (fun Γ G C hX => ?_)
  refine pw_iload_n (q := 1) (j := 1) C dL_cell_0 rfl rfl rfl ?_
  refine pw_aload_n (q := 2) (j := 0) C dL_cell_1 rfl rfl rfl ?_
  refine pw_slen (q := 3) hX C dL_cell_2 rfl ?_
  refine pw_icmp_ge_n (q := 6) 12 C dL_cell_3 (by decide) rfl (by omega) (by omega) (fun g3 => absurd g3 (by omega)) (fun g3 => ?_)
  refine pw_aload_n (q := 7) (j := 0) C dL_cell_6 rfl rfl rfl ?_
  refine pw_iload_n (q := 8) (j := 1) C dL_cell_7 rfl rfl rfl ?_
  refine pw_sld (q := 9) hX C dL_cell_8 (by omega) (by omega) rfl ?_
  refine pw_goto (q := 0) 22 C dL_cell_9 (by decide) ?_
  refine pw_ldci (q := 24) C dL_cell_22 cn_169 rfl ?_
  refine pw_iand (q := 25) C dL_cell_24 rfl ?_
  exact pw_iret C dL_cell_25 rfl ⟨by omega, by omega⟩ (RV.mk (vint hv) rfl)
set_option maxHeartbeats 200000 in
set_option maxRecDepth 100000 in
theorem cell_out {b L k v : Nat} {xs : Nat → Int32} (hk : k ≤ 100) (hL : L ≤ 260) (h : ¬ k < L) (hv : (15518107 * nI (k + 3) + nI 10331) &&& 2147483647 = nI v) (M : PH) : RunS iL_cell [.ref b, .int (nI k)] M b L xs 0 0 (RV (.int (nI v)) (fun M1 => M1 = M)) := by
  refine RunS.of (l0 := [some (.ref b), some (.int (nI k))]) (by decide +kernel) (Nat.le_of_ble_eq_true rfl) (by rfl) (fun Γ G C hX => ?_)
  refine pw_iload_n (q := 1) (j := 1) C dL_cell_0 rfl rfl rfl ?_
  refine pw_aload_n (q := 2) (j := 0) C dL_cell_1 rfl rfl rfl ?_
  refine pw_slen (q := 3) hX C dL_cell_2 rfl ?_
  refine pw_icmp_ge_n (q := 6) 12 C dL_cell_3 (by decide) rfl (by omega) (by omega) (fun g3 => ?_) (fun g3 => absurd g3 (by omega))
  refine pw_ldci (q := 14) C dL_cell_12 cn_168 rfl ?_
  refine pw_iload_n (q := 15) (j := 1) C dL_cell_14 rfl rfl rfl ?_
  refine pw_iconst_n (q := 16) C 3 dL_cell_15 (by decide +kernel) rfl ?_
  refine pw_iadd_n (q := 17) C dL_cell_16 rfl ?_
  refine pw_imul (q := 18) C dL_cell_17 rfl ?_
  refine pw_sipush_n (q := 21) C 10331 dL_cell_18 (by decide +kernel) rfl ?_
  refine pw_iadd (q := 22) C dL_cell_21 rfl ?_
  refine pw_ldci (q := 24) C dL_cell_22 cn_169 rfl ?_
  refine pw_iand (q := 25) C dL_cell_24 rfl ?_
  exact pw_iret C dL_cell_25 rfl ⟨by omega, by omega⟩ (RV.mk (vint hv) rfl)
theorem v_cell {b L k : Nat} {xs : Nat → Int32} (hk : k ≤ 100) (hL : L ≤ 260) : ∃ v, v < 2147483648 ∧ ∀ M : PH, RunS iL_cell [.ref b, .int (nI k)] M b L xs 0 0 (RV (.int (nI v)) (fun M1 => M1 = M)) := by
  by_cases h : k < L
  · obtain ⟨v, h1, h2⟩ := andM (xs k)
    exact ⟨v, h1, cell_in hk hL h h2⟩
  · obtain ⟨v, h1, h2⟩ := andM (15518107 * nI (k + 3) + nI 10331)
    exact ⟨v, h1, cell_out hk hL h h2⟩
