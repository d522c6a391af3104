/-! Calls by contract. -/
theorem pw_objInit {Γ : CX} {G : GC} {Z : State → Prop} {i : MI} {T : List ExceptionTableEntry} {mc ms pc q k n : Nat} {ls : LL} {st rest : List Value} {M : PH} {idx a : Nat} (C : Cx Γ G i T mc ms) (d : decode i.2.1 pc = .ok (.invokespecial idx, 3)) (hl0 : Cond.methodLink i.1.cls idx Lib.objectInit ∈ GW) (hi0 : Cond.instanceMethod Lib.objectInit ∈ GW) (hc0 : Cond.code Lib.objectInit ⟨#[0xb1]⟩ 1 none ∈ GW)
    (hfr : 1 ≤ i.2.2.2.2.1 ∧ (st.map fun v => v.category).sum + 12 ≤ i.2.2.2.2.2) (hq : pc + 3 = q) (K : PW Γ G Z q ls st M k n) : PW Γ G Z pc ls (.ref a :: st) M k n := by
  obtain ⟨p, l, e, R, s, m, args, below, meth, c⟩ := Γ
  obtain ⟨hx, hb, hml, hown, hts, hret, hlocks, hname, htr, hT, hK, hRf, hRl, hRc, hRs⟩ := C
  subst hq
  intro A H locs hl hM hS
  exact W.objInit hx hb hown (hts _ hl0) (hts _ hi0) (hts _ hc0) rfl hl.1 rfl d (by rw [hRf]; exact hfr.1) (by rw [hRl]; show 2 * 0 + _ + 12 ≤ _; omega) (K A H locs hl hM hS)
theorem pw_max {Γ : CX} {G : GC} {Z : State → Prop} {i : MI} {T : List ExceptionTableEntry} {mc ms pc q k n : Nat} {ls : LL} {st rest : List Value} {M : PH} {idx : Nat} {x y : Int32} (C : Cx Γ G i T mc ms) (d : decode i.2.1 pc = .ok (.invokestatic idx, 3)) (hl0 : Cond.methodLink i.1.cls idx Lib.Math.max.name ∈ GW) (hs0 : Cond.static Lib.Math.max.name ∈ GW) (hi0 : Cond.initialized "java/lang/Math" ∈ GW) (hc0 : Cond.code Lib.Math.max.name Lib.Math.max.code 2 (some .int) ∈ GW)
    (hfr : 1 ≤ i.2.2.2.2.1 ∧ (st.map fun v => v.category).sum + 13 ≤ i.2.2.2.2.2) (hkn : k ≤ mc ∧ n ≤ ms) (hq : pc + 3 = q) (K : PW Γ G Z q ls (.int (if x < y then y else x) :: st) M k n) : PW Γ G Z pc ls (.int y :: .int x :: st) M k n := by
  obtain ⟨p, l, e, R, s, m, args, below, meth, c⟩ := Γ
  obtain ⟨hx, hb, hml, hown, hts, hret, hlocks, hname, htr, hT, hK, hRf, hRl, hRc, hRs⟩ := C
  subst hq
  intro A H locs hl hM hS
  exact va_mmax hx hb hl.1.symm hown (hts _ hl0) (hts _ hs0) (hts _ hi0) (hts _ hc0) (by rw [hRf]; exact hfr.1) (by rw [hRl]; exact hfr.2) (by rw [hRc]; exact hkn.1) (by rw [hRs]; exact hkn.2) d (K A H locs hl hM hS)
theorem pw_min {Γ : CX} {G : GC} {Z : State → Prop} {i : MI} {T : List ExceptionTableEntry} {mc ms pc q k n : Nat} {ls : LL} {st rest : List Value} {M : PH} {idx : Nat} {x y : Int32} (C : Cx Γ G i T mc ms) (d : decode i.2.1 pc = .ok (.invokestatic idx, 3)) (hl0 : Cond.methodLink i.1.cls idx Lib.Math.min.name ∈ GW) (hs0 : Cond.static Lib.Math.min.name ∈ GW) (hi0 : Cond.initialized "java/lang/Math" ∈ GW) (hc0 : Cond.code Lib.Math.min.name Lib.Math.min.code 2 (some .int) ∈ GW)
    (hfr : 1 ≤ i.2.2.2.2.1 ∧ (st.map fun v => v.category).sum + 13 ≤ i.2.2.2.2.2) (hkn : k ≤ mc ∧ n ≤ ms) (hq : pc + 3 = q) (K : PW Γ G Z q ls (.int (if y < x then y else x) :: st) M k n) : PW Γ G Z pc ls (.int y :: .int x :: st) M k n := by
  obtain ⟨p, l, e, R, s, m, args, below, meth, c⟩ := Γ
  obtain ⟨hx, hb, hml, hown, hts, hret, hlocks, hname, htr, hT, hK, hRf, hRl, hRc, hRs⟩ := C
  subst hq
  intro A H locs hl hM hS
  exact va_mmin hx hb hl.1.symm hown (hts _ hl0) (hts _ hs0) (hts _ hi0) (hts _ hc0) (by rw [hRf]; exact hfr.1) (by rw [hRl]; exact hfr.2) (by rw [hRc]; exact hkn.1) (by rw [hRs]; exact hkn.2) d (K A H locs hl hM hS)
def MV (j : MI) (nn : Nat) : Prop := Cond.code j.1 j.2.1 j.2.2.1 j.2.2.2.1 ∈ GW ∧ Cond.initialized j.1.cls ∈ GW ∧ Cond.instanceMethod j.1 ∈ GW ∧ Cond.selects j.1.cls j.1 j.1 ∈ GW ∧ j.1.cls ≠ "java/lang/invoke/MethodHandle" ∧ j.1.cls ≠ "java/lang/invoke/VarHandle" ∧ (parseMethodDescriptor j.1.desc).map (fun d => d.parameters.length) = some nn
def MS (j : MI) (nn : Nat) : Prop := Cond.code j.1 j.2.1 j.2.2.1 j.2.2.2.1 ∈ GW ∧ Cond.initialized j.1.cls ∈ GW ∧ Cond.static j.1 ∈ GW ∧ j.1.cls ≠ "java/lang/invoke/MethodHandle" ∧ j.1.cls ≠ "java/lang/invoke/VarHandle" ∧ (parseMethodDescriptor j.1.desc).map (fun d => d.parameters.length) = some nn
def MSH (j : MI) (hh : List (Nat × Nat × Nat × Nat)) (nn : Nat) : Prop := Cond.codeWith j.1 j.2.1 j.2.2.1 j.2.2.2.1 hh ∈ GW ∧ Cond.initialized j.1.cls ∈ GW ∧ Cond.static j.1 ∈ GW ∧ j.1.cls ≠ "java/lang/invoke/MethodHandle" ∧ j.1.cls ≠ "java/lang/invoke/VarHandle" ∧ (parseMethodDescriptor j.1.desc).map (fun d => d.parameters.length) = some nn
def MN (j : MI) (nn : Nat) : Prop := Cond.code j.1 j.2.1 j.2.2.1 none ∈ GW ∧ Cond.initialized j.1.cls ∈ GW ∧ Cond.instanceMethod j.1 ∈ GW ∧ j.1.name = "<init>" ∧ j.2.2.2.1 = none ∧ j.1.cls ≠ "java/lang/invoke/MethodHandle" ∧ j.1.cls ≠ "java/lang/invoke/VarHandle" ∧ (parseMethodDescriptor j.1.desc).map (fun d => d.parameters.length) = some nn
def RO (j i : MI) : Prop := j.2.2.2.2.1 + 1 ≤ i.2.2.2.2.1 ∧ 8 + (j.2.2.1 + 11) + j.2.2.2.2.2 ≤ i.2.2.2.2.2
def CR (Γ : CX) (G : GC) (pc : Nat) (ls : LL) (st : List Value) (M : PH) (k n mc' ms' : Nat) (Q' : OC → PH → Prop) (rest : List Value) : Prop := match Γ with
  | (p, l, e, R, s, m, args, below, meth, c) => ∀ (A : Array Slot) (H : Heap) (locs : List Loc), LV A c.maxLocals ls → Sim G M H → va_S (AB G) s.heap H locs → ∃ a : Array Value, vx_Run p l e R s m args below meth c H locs k n mc' ms' (F0 m pc A st) rest (QcOf G Q' a) (XCOf G Q') (AB G)
/-- a frame with an exception of class E over it -/
def PX (Γ : CX) (G : GC) (Z : State → Prop) (E : String) (pc : Nat) (ls : LL) (st : List Value) (M : PH) (k n : Nat) : Prop := match Γ with
  | (p, l, e, R, s, m, args, below, meth, c) => ∀ (A : Array Slot) (H : Heap) (locs : List Loc) (ce : Cell) (q9 : Addr), LV A c.maxLocals ls → Sim G M H → va_S (AB G) s.heap H locs → H[q9]? = some ce → ce.vm = .none → s.vm.findClass E = some ce.cls → vx_W p l e R s m args below meth c H locs k n Z (F0 m pc A st) q9
theorem pcBlind (G : GC) (as : List Value) (M : PH) : FrameBlind (PcOf G as M) := fun a U g mk ⟨h1, h2, h3⟩ => ⟨h1, h2, KS.calling h3⟩
theorem met_of {l : Launch} {y : MethodName} {ws : List Cond} {rm : Room} {G : GC} {Pc : Array Value → State → Prop} {Q : OC → PH → Prop} {mc ms : Nat} {free : Addr → Prop} (hno : ∀ (E : String) (M : PH), ¬ Q (.inr E) M) (h : vx_Met l y ws rm Pc (QcOf G Q) (XCOf G Q) mc ms free) : Met l y ws rm Pc (QcOf G Q) mc ms free := by
  intro p e ha hc hk s m args below hf happ hP hK
  obtain ⟨n, o, h1, h2, h3, h4⟩ := h p e ha hc hk s m args below hf happ hP hK
  refine ⟨n, o, h1, h2, h3, ?_⟩
  rcases h4 with h4 | ⟨q, -, E, ce, L, ⟨⟨M, hq, -⟩, -⟩, -⟩
  · exact h4
  · exact (hno E M hq).elim
theorem cr_v {Γ : CX} {G : GC} {i j : MI} {T : List ExceptionTableEntry} {mc ms pc k n : Nat} {ls : LL} {st rest : List Value} {M : PH} {mc' ms' nn idx : Nat} {Q' : OC → PH → Prop} {as : List Value} {b cj : Nat} {fs : List Value} (C : Cx Γ G i T mc ms) (d : decode i.2.1 pc = .ok (.invokevirtual idx, 3)) (hl0 : Cond.methodLink i.1.cls idx j.1 ∈ GW) (hm : MV j nn) (hr : RO j i) (hb0 : M.2 b = some (.inr (cj, fs))) (hcj : (vwCl[cj]?).map (fun r => r.1) = some j.1.cls) (hrun : Run j (.ref b :: as) M mc' ms' Q') (hst : st = as.reverse ++ .ref b :: rest) (hn : as.length = nn) (hW : (rest.map fun v => v.category).sum ≤ 8) (hroom : k + mc' ≤ mc ∧ n + ms' ≤ ms) :
    CR Γ G pc ls st M k n mc' ms' Q' rest := by
  obtain ⟨p, l, e, R, s, m, args, below, meth, c⟩ := Γ
  obtain ⟨hx, hb, hml, hown, hts, hret, hlocks, hname, htr, hT, hK, hRf, hRl, hRc, hRs⟩ := C
  intro A H locs hl hM hS
  subst hst
  rw [← hRc, ← hRs] at hroom
  obtain ⟨g1, g2, g3, g4, g5⟩ := hm
  obtain ⟨r, hc, hcls⟩ := Option.map_eq_some_iff.mp hcj
  refine ⟨(Value.ref b :: as).toArray, vx_runV (C := j.1.cls) (b := b) (As := as) ⟨hx, hb, hml, hown, hts⟩ (hrun l G htr) (cwV nn hts (goodGW (fun x hx => ?_)) rfl rfl rfl ⟨rfl, g5⟩ ⟨by rw [hRf]; exact hr.1, by rw [hRl]; exact hr.2⟩) ⟨pcBlind _ _ _, ?_, fun U hU hW2 => ⟨rfl, by rw [hU]; exact hM, KS.go hS hU hW2 hK⟩⟩ rfl hn (hl.1.trans hml) rfl (by show 2 * 0 + _ ≤ 8; omega) d hroom⟩
  · unfold wsV at hx
    rcases List.mem_append.mp hx with h | h
    · simp only [List.mem_cons, List.not_mem_nil, or_false] at h
      rcases h with rfl | rfl | rfl | rfl
      · exact hl0
      · exact g3
      · exact g4
      · exact g2
    · rcases List.mem_cons.mp h with rfl | h
      · exact g1
      · exact h
  · rw [← hcls]
    exact va_recv hK.1 (hM.P1 hb0) hc (q0 := 0) rfl
theorem cr_s {Γ : CX} {G : GC} {i j : MI} {T : List ExceptionTableEntry} {mc ms pc k n : Nat} {ls : LL} {st rest : List Value} {M : PH} {mc' ms' nn idx : Nat} {Q' : OC → PH → Prop} {as : List Value} (C : Cx Γ G i T mc ms) (d : decode i.2.1 pc = .ok (.invokestatic idx, 3)) (hl0 : Cond.methodLink i.1.cls idx j.1 ∈ GW) (hm : MS j nn) (hr : RO j i) (hrun : Run j as M mc' ms' Q') (hst : st = as.reverse ++ rest) (hn : as.length = nn) (hW : (rest.map fun v => v.category).sum ≤ 8) (hroom : k + mc' ≤ mc ∧ n + ms' ≤ ms) :
    CR Γ G pc ls st M k n mc' ms' Q' rest := by
  obtain ⟨p, l, e, R, s, m, args, below, meth, c⟩ := Γ
  obtain ⟨hx, hb, hml, hown, hts, hret, hlocks, hname, htr, hT, hK, hRf, hRl, hRc, hRs⟩ := C
  intro A H locs hl hM hS
  subst hst
  rw [← hRc, ← hRs] at hroom
  obtain ⟨g1, g2, g3, g5⟩ := hm
  refine ⟨as.toArray, vx_runS (As := as) ⟨hx, hb, hml, hown, hts⟩ (hrun l G htr) ⟨callB_of nn hts (goodGW (fun x hx => ?_)) rfl rfl rfl (hts _ g2) (hts _ hl0) g5 ⟨by rw [hRf]; exact hr.1, by rw [hRl]; exact hr.2⟩, hts _ g3⟩ ⟨pcBlind _ _ _, fun U hU hW2 => ⟨rfl, by rw [hU]; exact hM, KS.go hS hU hW2 hK⟩⟩ rfl hn (hl.1.trans hml) rfl (by show 2 * 0 + _ ≤ 8; omega) d hroom⟩
  rcases List.mem_cons.mp hx with rfl | h
  · exact g1
  · exact h
theorem cr_sh {Γ : CX} {G : GC} {i j : MI} {T : List ExceptionTableEntry} {mc ms pc k n : Nat} {ls : LL} {st rest : List Value} {M : PH} {mc' ms' nn idx : Nat} {Q' : OC → PH → Prop} {as : List Value} {hh : List (Nat × Nat × Nat × Nat)} (C : Cx Γ G i T mc ms) (d : decode i.2.1 pc = .ok (.invokestatic idx, 3)) (hl0 : Cond.methodLink i.1.cls idx j.1 ∈ GW) (hm : MSH j hh nn) (hr : RO j i) (hrun : RunH j hh as M mc' ms' Q') (hst : st = as.reverse ++ rest) (hn : as.length = nn) (hW : (rest.map fun v => v.category).sum ≤ 8) (hroom : k + mc' ≤ mc ∧ n + ms' ≤ ms) :
    CR Γ G pc ls st M k n mc' ms' Q' rest := by
  obtain ⟨p, l, e, R, s, m, args, below, meth, c⟩ := Γ
  obtain ⟨hx, hb, hml, hown, hts, hret, hlocks, hname, htr, hT, hK, hRf, hRl, hRc, hRs⟩ := C
  intro A H locs hl hM hS
  subst hst
  rw [← hRc, ← hRs] at hroom
  obtain ⟨g1, g2, g3, g4, g5, g6⟩ := hm
  have hG : GoodIn GW (wsH j hh) := goodGW (fun x hx => by
    rcases List.mem_cons.mp hx with rfl | h
    · exact g1
    · exact h)
  refine ⟨as.toArray, vx_runSX (hh := hh) (As := as) ⟨hx, hb, hml, hown, hts⟩ (hrun l G htr) ⟨⟨rfl, rfl, by rw [hRf]; exact hr.1, by rw [hRl]; exact hr.2, pay_in hts hG, List.mem_cons_self⟩, hts _ g1, hts _ g2, ⟨g4, g5⟩, fun sig h => ?_, hts _ hl0, hts _ g3⟩ ⟨pcBlind _ _ _, fun U hU hW2 => ⟨rfl, by rw [hU]; exact hM, KS.go hS hU hW2 hK⟩⟩ rfl hn (hl.1.trans hml) rfl (by show 2 * 0 + _ ≤ 8; omega) d hroom⟩
  have h2 := g6
  rw [h] at h2
  exact (Option.some.inj h2).symm
theorem cr_i {Γ : CX} {G : GC} {i j : MI} {T : List ExceptionTableEntry} {mc ms pc k n : Nat} {ls : LL} {st rest : List Value} {M : PH} {mc' ms' nn idx : Nat} {Q' : OC → PH → Prop} {as : List Value} {b : Nat} (C : Cx Γ G i T mc ms) (d : decode i.2.1 pc = .ok (.invokespecial idx, 3)) (hl0 : Cond.methodLink i.1.cls idx j.1 ∈ GW) (hm : MN j nn) (hr : RO j i) (hno : ∀ (E : String) (M : PH), ¬ Q' (.inr E) M) (hrun : Run j (.ref b :: as) M mc' ms' Q') (hst : st = as.reverse ++ .ref b :: rest) (hn : as.length = nn) (hW : (rest.map fun v => v.category).sum ≤ 8) (hroom : k + mc' ≤ mc ∧ n + ms' ≤ ms) :
    CR Γ G pc ls st M k n mc' ms' Q' rest := by
  obtain ⟨p, l, e, R, s, m, args, below, meth, c⟩ := Γ
  obtain ⟨hx, hb, hml, hown, hts, hret, hlocks, hname, htr, hT, hK, hRf, hRl, hRc, hRs⟩ := C
  intro A H locs hl hM hS
  subst hst
  rw [← hRc, ← hRs] at hroom
  obtain ⟨g1, g2, g3, g4, g5, g6⟩ := hm
  refine ⟨(Value.ref b :: as).toArray, fun T hT X => Or.inl (va_runI (g := F0 m pc A (as.reverse ++ .ref b :: rest)) (b := b) (As := as) (bytes := j.2.1) (maxL := j.2.2.1) ⟨hx, hb, hml, hown, hts⟩ (met_of hno (hrun l G htr)) (cwI (ws' := GW) nn hts (goodGW (fun x hx => ?_)) (by unfold wsC; rw [g5]) rfl rfl (hts _ g2) (hts _ hl0) (hts _ g3) g4 g6 ⟨by rw [hRf]; exact hr.1, by rw [hRl]; exact hr.2⟩) ⟨pcBlind _ _ _, fun U hU hW2 => ⟨rfl, by rw [hU]; exact hM, KS.go hS hU hW2 hK⟩⟩ rfl hn (hl.1.trans hml) rfl (by show 2 * 0 + _ ≤ 8; omega) d hroom T hT X)⟩
  rcases List.mem_cons.mp hx with rfl | h
  · rw [g5]; exact g1
  · exact h
theorem cr_in {Γ : CX} {G : GC} {i j : MI} {T : List ExceptionTableEntry} {mc ms pc k n : Nat} {ls : LL} {st rest : List Value} {M : PH} {mc' ms' nn idx : Nat} {Q' : OC → PH → Prop} {as : List Value} {b : Nat} {host : String} (C : Cx Γ G i T mc ms) (d : decode i.2.1 pc = .ok (.invokespecial idx, 3)) (hl0 : Cond.methodLinkNest i.1.cls idx j.1 host ∈ XW) (hm : MN j nn) (hr : RO j i) (hno : ∀ (E : String) (M : PH), ¬ Q' (.inr E) M) (hrun : Run j (.ref b :: as) M mc' ms' Q') (hst : st = as.reverse ++ .ref b :: rest) (hn : as.length = nn) (hW : (rest.map fun v => v.category).sum ≤ 8) (hroom : k + mc' ≤ mc ∧ n + ms' ≤ ms) :
    CR Γ G pc ls st M k n mc' ms' Q' rest := by
  obtain ⟨p, l, e, R, s, m, args, below, meth, c⟩ := Γ
  obtain ⟨hx, hb, hml, hown, hts, hret, hlocks, hname, htr, hT, hK, hRf, hRl, hRc, hRs⟩ := C
  intro A H locs hl hM hS
  subst hst
  rw [← hRc, ← hRs] at hroom
  obtain ⟨g1, g2, g3, g4, g5, g6⟩ := hm
  refine ⟨(Value.ref b :: as).toArray, fun T hT X => Or.inl (va_runIN (g := F0 m pc A (as.reverse ++ .ref b :: rest)) (b := b) (As := as) (bytes := j.2.1) (maxL := j.2.2.1) (host := host) ⟨hx, hb, hml, hown, hts⟩ (met_of hno (hrun l G htr)) ⟨va_cnB (ws' := GW) nn hts (goodGW (fun x hx => ?_)) (by unfold wsC; rw [g5]) rfl rfl (hK.2.2.2.2.2.1 _ hl0) (hts _ g2) g6 ⟨by rw [hRf]; exact hr.1, by rw [hRl]; exact hr.2⟩, g4, hts _ g3⟩ ⟨pcBlind _ _ _, fun U hU hW2 => ⟨rfl, by rw [hU]; exact hM, KS.go hS hU hW2 hK⟩⟩ rfl hn (hl.1.trans hml) rfl (by show 2 * 0 + _ ≤ 8; omega) d hroom T hT X)⟩
  rcases List.mem_cons.mp hx with rfl | h
  · rw [g5]; exact g1
  · exact h
theorem cr_sn {Γ : CX} {G : GC} {i j : MI} {T : List ExceptionTableEntry} {mc ms pc k n : Nat} {ls : LL} {st rest : List Value} {M : PH} {mc' ms' nn idx : Nat} {Q' : OC → PH → Prop} {as : List Value} {host : String} (C : Cx Γ G i T mc ms) (d : decode i.2.1 pc = .ok (.invokestatic idx, 3)) (hl0 : Cond.methodLinkNest i.1.cls idx j.1 host ∈ XW) (hm : MS j nn) (hr : RO j i) (hno : ∀ (E : String) (M : PH), ¬ Q' (.inr E) M) (hrun : Run j as M mc' ms' Q') (hst : st = as.reverse ++ rest) (hn : as.length = nn) (hW : (rest.map fun v => v.category).sum ≤ 8) (hroom : k + mc' ≤ mc ∧ n + ms' ≤ ms) :
    CR Γ G pc ls st M k n mc' ms' Q' rest := by
  obtain ⟨p, l, e, R, s, m, args, below, meth, c⟩ := Γ
  obtain ⟨hx, hb, hml, hown, hts, hret, hlocks, hname, htr, hT, hK, hRf, hRl, hRc, hRs⟩ := C
  intro A H locs hl hM hS
  subst hst
  rw [← hRc, ← hRs] at hroom
  obtain ⟨g1, g2, g3, g5⟩ := hm
  refine ⟨as.toArray, fun T hT X => Or.inl (va_runSN (g := F0 m pc A (as.reverse ++ rest)) (As := as) (host := host) ⟨hx, hb, hml, hown, hts⟩ (met_of hno (hrun l G htr)) ⟨va_cnB nn hts (goodGW (fun x hx => ?_)) rfl rfl rfl (hK.2.2.2.2.2.1 _ hl0) (hts _ g2) g5 ⟨by rw [hRf]; exact hr.1, by rw [hRl]; exact hr.2⟩, hts _ g3, trivial⟩ ⟨pcBlind _ _ _, fun U hU hW2 => ⟨rfl, by rw [hU]; exact hM, KS.go hS hU hW2 hK⟩⟩ rfl hn (hl.1.trans hml) rfl (by show 2 * 0 + _ ≤ 8; omega) d hroom T hT X)⟩
  rcases List.mem_cons.mp hx with rfl | h
  · exact g1
  · exact h
theorem pw_any {Γ : CX} {G : GC} {Z : State → Prop} {pc q k n : Nat} {ls : LL} {st rest : List Value} {M : PH} {mc' ms' : Nat} {Q' : OC → PH → Prop} (h : CR Γ G pc ls st M k n mc' ms' Q' rest) (hq : pc + 3 = q) (K : ∀ (v : Option Value) (M1 : PH), Q' (.inl v) M1 → PW Γ G Z q ls (v.toList ++ rest) M1 (k + mc') (n + ms')) (KX : ∀ (E : String) (M1 : PH), Q' (.inr E) M1 → PX Γ G Z E pc ls rest M1 (k + mc') (n + ms')) : PW Γ G Z pc ls st M k n := by
  obtain ⟨p, l, e, R, s, m, args, below, meth, c⟩ := Γ
  subst hq
  intro A H locs hl hM hS T hT X
  obtain ⟨a, hr⟩ := h A H locs hl hM hS
  rcases hr T hT X with ⟨v, st₀, t, T', L, h0, X', hL, e1, e2, ⟨⟨v', M1, hv, hQ, hSim⟩, hF⟩, st⟩ | ⟨q9, st₀, t, T', L, E, ce, h0, X', hL, e1, e2, ⟨⟨M1, hQ, hSim⟩, hF⟩, hce, hcv, hcl, st⟩
  · cases hv
    obtain ⟨k1, k2, k3⟩ := vx_keep h0 e1 hS (fun q _ h => h) (fun q h => h) hL hF
    obtain ⟨t2, a1, b1⟩ := K v M1 hQ A T'.heap (locs ++ L) hl (by rw [e1]; exact hSim) k3 T' rfl X'
    exact ⟨t2, st t2 a1, b1⟩
  · obtain ⟨k1, k2, k3⟩ := vx_keep h0 e1 hS (fun q _ h => h) (fun q h => h) hL hF
    obtain ⟨t2, a1, b1⟩ := KX E M1 hQ A T'.heap (locs ++ L) ce q9 hl (by rw [e1]; exact hSim) k3 (by rw [e1]; exact hce) hcv hcl T' rfl X'
    exact ⟨t2, st.trans a1, b1⟩
/-- a value; nothing; an exception -/
def RV (v : Value) (P : PH → Prop) : OC → PH → Prop := fun o M => o = .inl (some v) ∧ P M
def RN (P : PH → Prop) : OC → PH → Prop := fun o M => o = .inl none ∧ P M
def RX (E : String) (P : PH → Prop) : OC → PH → Prop := fun o M => o = .inr E ∧ P M
theorem RV.no {v : Value} {P : PH → Prop} : ∀ (E : String) (M : PH), ¬ RV v P (.inr E) M := fun _ _ h => by cases h.1
theorem RN.no {P : PH → Prop} : ∀ (E : String) (M : PH), ¬ RN P (.inr E) M := fun _ _ h => by cases h.1
theorem pw_val {Γ : CX} {G : GC} {Z : State → Prop} {pc q k n : Nat} {ls : LL} {st rest : List Value} {M : PH} {mc' ms' : Nat} {v : Value} {P : PH → Prop} (h : CR Γ G pc ls st M k n mc' ms' (RV v P) rest) (hq : pc + 3 = q) (K : ∀ M1 : PH, P M1 → PW Γ G Z q ls (v :: rest) M1 (k + mc') (n + ms')) : PW Γ G Z pc ls st M k n :=
  pw_any h hq (fun v1 M1 ⟨h1, h2⟩ => by cases h1; exact K M1 h2) (fun E M1 h => (RV.no E M1 h).elim)
theorem pw_rd {Γ : CX} {G : GC} {Z : State → Prop} {pc q k n : Nat} {ls : LL} {st rest : List Value} {M : PH} {v : Value} (h : CR Γ G pc ls st M k n 0 0 (RV v (fun M1 => M1 = M)) rest) (hq : pc + 3 = q) (K : PW Γ G Z q ls (v :: rest) M k n) : PW Γ G Z pc ls st M k n :=
  pw_val h hq (fun M1 h1 => by subst h1; exact K)
theorem pw_void {Γ : CX} {G : GC} {Z : State → Prop} {pc q k n : Nat} {ls : LL} {st rest : List Value} {M : PH} {mc' ms' : Nat} {P : PH → Prop} (h : CR Γ G pc ls st M k n mc' ms' (RN P) rest) (hq : pc + 3 = q) (K : ∀ M1 : PH, P M1 → PW Γ G Z q ls rest M1 (k + mc') (n + ms')) : PW Γ G Z pc ls st M k n :=
  pw_any h hq (fun v1 M1 ⟨h1, h2⟩ => by cases h1; exact K M1 h2) (fun E M1 h => (RN.no E M1 h).elim)
theorem pw_exc {Γ : CX} {G : GC} {Z : State → Prop} {pc q k n : Nat} {ls : LL} {st rest : List Value} {M : PH} {mc' ms' : Nat} {E : String} {P : PH → Prop} (h : CR Γ G pc ls st M k n mc' ms' (RX E P) rest) (K : ∀ M1 : PH, P M1 → PX Γ G Z E pc ls rest M1 (k + mc') (n + ms')) : PW Γ G Z pc ls st M k n :=
  pw_any h rfl (fun v1 M1 h => by cases h.1) (fun E1 M1 ⟨h1, h2⟩ => by cases h1; exact K M1 h2)
/-- not caught here -/
theorem px_out {Γ : CX} {G : GC} {i : MI} {mc ms pc k n : Nat} {ls : LL} {st : List Value} {M : PH} {Q : OC → PH → Prop} {E : String} (C : Cx Γ G i [] mc ms) (hkn : k ≤ mc ∧ n ≤ ms) (hQ : Q (.inr E) M) : PX Γ G (ZJ Γ G mc ms Q) E pc ls st M k n := by
  obtain ⟨p, l, e, R, s, m, args, below, meth, c⟩ := Γ
  obtain ⟨hx, hb, hml, hown, hts, hret, hlocks, hname, htr, hT, hK, hRf, hRl, hRc, hRs⟩ := C
  intro A H locs ce q9 hl hM hS hce hcv hcl
  exact vx_out (fun x hx => by rw [hT] at hx; cases hx) hlocks hce hcv hcl (fun t ht hW => ⟨⟨M, hQ, by rw [ht]; exact hM⟩, hS.F ht⟩) hS.2.2 hkn.1 hkn.2
/-- caught by a row of the table -/
theorem px_catch {Γ : CX} {G : GC} {Z : State → Prop} {i : MI} {T : List ExceptionTableEntry} {mc ms pc q k n : Nat} {ls : LL} {st rest : List Value} {M : PH} {E name : String} (C : Cx Γ G i T mc ms) (pre : List ExceptionTableEntry) (x : ExceptionTableEntry) (suf : List ExceptionTableEntry) (hsplit : T = pre ++ x :: suf)
    (hpass : ∀ z ∈ pre, covers z pc = false ∨ (z.catchType ≠ 0 ∧ ∃ nm : String, Cond.classLink i.1.cls z.catchType nm ∈ GW ∧ ∀ s : State, KS G s → va_Nc E nm s)) (hx0 : covers x pc = true) (h0 : x.catchType ≠ 0)
    (hlink : Cond.classLink i.1.cls x.catchType name ∈ GW) (hcast : Cond.castable E name ∈ XW) (K : ∀ q9 : Nat, PW Γ G Z x.handlerPc ls [.ref q9] M k n) : PX Γ G Z E pc ls st M k n := by
  obtain ⟨p, l, e, R, s, m, args, below, meth, c⟩ := Γ
  obtain ⟨hx, hb, hml, hown, hts, hret, hlocks, hname, htr, hT, hK, hRf, hRl, hRc, hRs⟩ := C
  intro A H locs ce q9 hl hM hS hce hcv hcl
  refine vx_catch hown pre x suf (hT.trans hsplit) (fun z hz => ?_) hx0 h0 (hts _ hlink) (va_Nw.use rfl (hK.2.2.2.2.2.1 _ hcast)) hce hcv hcl (K q9 A H locs hl hM hS)
  rcases hpass z hz with h | ⟨h1, nm, h2, h3⟩
  · exact Or.inl h
  · exact Or.inr ⟨h1, nm, hts _ h2, h3 s hK⟩
def xNames : List String := ["java/lang/RuntimeException", "java/lang/Exception"]
def TW (own : String) (ik is ic : Nat) (E : String) : Prop := ∃ text : String, Cond.classLink own ik E ∈ GW ∧ Cond.initialized E ∈ GW ∧ (own, is, text) ∈ SW ∧ (∀ x ∈ vx_atS own ic E xNames, x ∈ GW ∨ x ∈ XW) ∧ (∀ x ∈ Cond.classLink own ik E :: Cond.initialized E :: vx_atS own ic E xNames, vx_ot x = true) ∧ Bundle.fit E = true
theorem xNames_fit : ∀ n ∈ xNames, Bundle.fit n = true := by decide +kernel
theorem xw_tab {x : Cond} (h : x ∈ XW) : x.onTables = true := by
  have g := (List.mem_filter.mp h).2
  cases x <;> first | (simp [isXW] at g; done) | rfl
theorem pw_throw {Γ : CX} {G : GC} {i : MI} {T : List ExceptionTableEntry} {mc ms pc k n ik is ic : Nat} {ls : LL} {st : List Value} {M : PH} {Q : OC → PH → Prop} {E : String} (C : Cx Γ G i [] mc ms) (ht : TW i.1.cls ik is ic E)
    (d0 : decode i.2.1 pc = .ok (.new ik, 3)) (d3 : decode i.2.1 (pc + 3) = .ok (.dup, 1)) (d4 : decode i.2.1 (pc + 4) = .ok (.ldc is, 2)) (d6 : decode i.2.1 (pc + 6) = .ok (.invokespecial ic, 3)) (d9 : decode i.2.1 (pc + 9) = .ok (.athrow, 1))
    (hfr : 6 ≤ i.2.2.2.2.1 ∧ (st.map fun v => v.category).sum + 82 ≤ i.2.2.2.2.2) (hkn : k + 1 ≤ mc ∧ n + 6 ≤ ms) (hQ : ∀ z : Nat, M.1 ≤ z → Q (.inr E) (z, M.2)) : PW Γ G (ZJ Γ G mc ms Q) pc ls st M k n := by
  obtain ⟨p, l, e, R, s, m, args, below, meth, c⟩ := Γ
  obtain ⟨hx, hb, hml, hown, hts, hret, hlocks, hname, htr, hT, hK, hRf, hRl, hRc, hRs⟩ := C
  intro A H locs hl hM hS
  obtain ⟨text, t1, t2, t3, t4, t5, t6⟩ := ht
  obtain ⟨sa, hsa⟩ := hK.2.2.2.2.2.2.1 _ t3
  refine vx_throwS (names := xNames) hx hb htr hown t6 xNames_fit (hts _ t1) (hts _ t2) hsa (fun x hx => ?_) t5 hK.2.2.1 hK.2.2.2.1 hS hl.1 d0 d3 d4 d6 d9 (fun x hx => by rw [hT] at hx; cases hx) (by rw [hRf]; exact hfr.1) (by rw [hRl]; exact hfr.2) (by rw [hRc]; exact hkn.1) (by rw [hRs]; exact hkn.2) hlocks (fun t hA hz ho => ?_) hS.2.2 hkn.1 hkn.2
  · rcases t4 x hx with h | h
    · exact hts _ h
    · exact va_Nw.use (xw_tab h) (hK.2.2.2.2.2.1 _ h)
  · refine ⟨⟨(t.heap.size, M.2), hQ _ (by rw [hM.1]; exact hz), rfl, fun a x hx => ?_⟩, Nat.le_trans hS.1 hz, fun q h1 h2 => ?_⟩
    · obtain ⟨h1, h2⟩ := hM.2 a x hx
      exact ⟨h1, h2.kept (ho a h2.lt)⟩
    · rw [ho q (Nat.lt_of_lt_of_le h1 hS.1)]
      exact hS.2.1 q h1 h2
theorem pw_throwW {Γ : CX} {G : GC} {i : MI} {T : List ExceptionTableEntry} {mc ms pc k n ik is ic : Nat} {ls : LL} {st : List Value} {M : PH} {Q : OC → PH → Prop} {E : String} (C : Cx Γ G i [] mc ms) (ht : TW i.1.cls ik is ic E)
    (d0 : decode i.2.1 pc = .ok (.new ik, 3)) (d3 : decode i.2.1 (pc + 3) = .ok (.dup, 1)) (d4 : decode i.2.1 (pc + 4) = .ok (.ldc_w is, 3)) (d7 : decode i.2.1 (pc + 7) = .ok (.invokespecial ic, 3)) (d10 : decode i.2.1 (pc + 10) = .ok (.athrow, 1))
    (hfr : 6 ≤ i.2.2.2.2.1 ∧ (st.map fun v => v.category).sum + 82 ≤ i.2.2.2.2.2) (hkn : k + 1 ≤ mc ∧ n + 6 ≤ ms) (hQ : ∀ z : Nat, M.1 ≤ z → Q (.inr E) (z, M.2)) : PW Γ G (ZJ Γ G mc ms Q) pc ls st M k n := by
  obtain ⟨p, l, e, R, s, m, args, below, meth, c⟩ := Γ
  obtain ⟨hx, hb, hml, hown, hts, hret, hlocks, hname, htr, hT, hK, hRf, hRl, hRc, hRs⟩ := C
  intro A H locs hl hM hS
  obtain ⟨text, t1, t2, t3, t4, t5, t6⟩ := ht
  obtain ⟨sa, hsa⟩ := hK.2.2.2.2.2.2.1 _ t3
  refine vx_throwSW (names := xNames) hx hb htr hown t6 xNames_fit (hts _ t1) (hts _ t2) hsa (fun x hx => ?_) t5 hK.2.2.1 hK.2.2.2.1 hS hl.1 d0 d3 d4 d7 d10 (fun x hx => by rw [hT] at hx; cases hx) (by rw [hRf]; exact hfr.1) (by rw [hRl]; exact hfr.2) (by rw [hRc]; exact hkn.1) (by rw [hRs]; exact hkn.2) hlocks (fun t hA hz ho => ?_) hS.2.2 hkn.1 hkn.2
  · rcases t4 x hx with h | h
    · exact hts _ h
    · exact va_Nw.use (xw_tab h) (hK.2.2.2.2.2.1 _ h)
  · refine ⟨⟨(t.heap.size, M.2), hQ _ (by rw [hM.1]; exact hz), rfl, fun a x hx => ?_⟩, Nat.le_trans hS.1 hz, fun q h1 h2 => ?_⟩
    · obtain ⟨h1, h2⟩ := hM.2 a x hx
      exact ⟨h1, h2.kept (ho a h2.lt)⟩
    · rw [ho q (Nat.lt_of_lt_of_le h1 hS.1)]
      exact hS.2.1 q h1 h2
