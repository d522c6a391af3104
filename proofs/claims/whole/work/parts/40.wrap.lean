/-! The law's wrappers: a call of the class, its exception told as a number. -/
def NCF (U : State) : Prop := va_Nc xS xA U ∧ va_Nc xA xB U ∧ va_Nc xS xB U
theorem NCF.moved {u U : State} (hvm : u.vm.Alike U.vm) (h : NCF u) : NCF U := ⟨h.1.moved hvm, h.2.1.moved hvm, h.2.2.moved hvm⟩
def NG (Γ : CX) : Prop := match Γ with
  | (_, _, _, _, s, _, _, _, _, _) => NCF s
def PcN (G : GC) (as : List Value) (M : PH) : Array Value → State → Prop := fun a U => PcOf G as M a U ∧ NCF U
theorem pcBlindN (G : GC) (as : List Value) (M : PH) : FrameBlind (PcN G as M) := fun a U g mk ⟨h, hN⟩ => ⟨pcBlind G as M a U g mk h, hN⟩
def RunN (i : MI) (hh : List (Nat × Nat × Nat × Nat)) (as : List Value) (M : PH) (mc ms : Nat) (Q : OC → PH → Prop) : Prop := ∀ (l : Launch) (G : GC), l.stackTraces = false → vx_Met l i.1 (wsH i hh) (rmOf i mc ms) (PcN G as M) (QcOf G Q) (XCOf G Q) mc ms (AB G)
theorem RunN.of {i : MI} {hh : List (Nat × Nat × Nat × Nat)} {as : List Value} {M : PH} {mc ms : Nat} {Q : OC → PH → Prop} {l0 : LL} (hy : plainName i.1.cls = true) (hfit : (lg_sl as).length ≤ i.2.2.1) (hl0 : lent as i.2.2.1 = l0)
    (body : ∀ (Γ : CX) (G : GC), Cx Γ G i (tableOf hh) mc ms → NG Γ → PW Γ G (ZJ Γ G mc ms Q) 0 l0 [] M 0 0) : RunN i hh as M mc ms Q := by
  intro l G hst
  refine vx_ofWH (cc := i.2.1) (maxL := i.2.2.1) (ret := i.2.2.2.1) (hh := hh) hy rfl ?_
  intro p e s m args below meth c s₁ B hml hv
  obtain ⟨⟨rfl, hM, hK⟩, hN⟩ := hv
  have hts := atoms_spec (ws := wsH i hh) B.pre
  have hown : s.vm.findClass i.1.cls = some m.cls := findClass_of_methodNamed B.named
  have hC : Cx (p, l, e, (headSpec (wsH i hh) (rmOf i mc ms)).room, s, m, as.toArray, below, meth, c) G i (tableOf hh) mc ms :=
    ⟨B.exec, B.bytes, hml, hown, fun x hx => hts x (List.mem_cons_of_mem _ hx), B.returns, B.notSynchronized, (name_of_methodNamed B.named B.method).1, hst, vx_table (x := i.1) (y := i.1) B (hts _ List.mem_cons_self), hK, rfl, rfl, rfl, rfl⟩
  have K := body _ G hC hN
  rw [lg_entry_eq]
  exact K _ _ [] (by rw [hml]; exact LV.entry hfit hl0) hM va_S.rf
theorem cr_shN {Γ : CX} {G : GC} {i j : MI} {T : List ExceptionTableEntry} {mc ms pc k n : Nat} {ls : LL} {st rest : List Value} {M : PH} {mc' ms' nn idx : Nat} {Q' : OC → PH → Prop} {as : List Value} {hh : List (Nat × Nat × Nat × Nat)} (C : Cx Γ G i T mc ms) (hN : NG Γ) (d : decode i.2.1 pc = .ok (.invokestatic idx, 3)) (hl0 : Cond.methodLink i.1.cls idx j.1 ∈ GW) (hm : MSH j hh nn) (hr : RO j i) (hrun : RunN j hh as M mc' ms' Q') (hst : st = as.reverse ++ rest) (hn : as.length = nn) (hW : (rest.map fun v => v.category).sum ≤ 8) (hroom : k + mc' ≤ mc ∧ n + ms' ≤ ms) :
    CR Γ G pc ls st M k n mc' ms' Q' rest := by
  obtain ⟨p, l, e, R, s, m, args, below, meth, c⟩ := Γ
  obtain ⟨hx, hb, hml, hown, hts, hret, hlocks, hname, htr, hT, hK, hRf, hRl, hRc, hRs⟩ := C
  intro A H locs hl hM hS
  subst hst
  rw [← hRc, ← hRs] at hroom
  obtain ⟨g1, g2, g3, g4, g5, g6⟩ := hm
  have hG : GoodIn GW (wsH j hh) := goodGW (fun x hx => by
    rcases List.mem_cons.mp hx with rfl | h
    · exact g1
    · exact h)
  refine ⟨as.toArray, vx_runSX (hh := hh) (As := as) ⟨hx, hb, hml, hown, hts⟩ (hrun l G htr) ⟨⟨rfl, rfl, by rw [hRf]; exact hr.1, by rw [hRl]; exact hr.2, pay_in hts hG, List.mem_cons_self⟩, hts _ g1, hts _ g2, ⟨g4, g5⟩, fun sig h => ?_, hts _ hl0, hts _ g3⟩ ⟨pcBlindN _ _ _, fun U hU hW2 => ⟨⟨rfl, by rw [hU]; exact hM, KS.go hS hU hW2 hK⟩, NCF.moved hW2.alike hN⟩⟩ rfl hn (hl.1.trans hml) rfl (by show 2 * 0 + _ ≤ 8; omega) d hroom⟩
  have h2 := g6
  rw [h] at h2
  exact (Option.some.inj h2).symm
theorem px_catchN {Γ : CX} {G : GC} {Z : State → Prop} {i : MI} {T : List ExceptionTableEntry} {mc ms pc k n : Nat} {ls : LL} {st : List Value} {M : PH} {E name : String} (C : Cx Γ G i T mc ms) (hN : NG Γ) (pre : List ExceptionTableEntry) (x : ExceptionTableEntry) (suf : List ExceptionTableEntry) (hsplit : T = pre ++ x :: suf)
    (hpass : ∀ z ∈ pre, z.catchType ≠ 0 ∧ ∃ nm : String, Cond.classLink i.1.cls z.catchType nm ∈ GW ∧ ∀ s : State, NCF s → va_Nc E nm s) (hx0 : covers x pc = true) (h0 : x.catchType ≠ 0)
    (hlink : Cond.classLink i.1.cls x.catchType name ∈ GW) (hcast : Cond.castable E name ∈ XW) (K : ∀ q9 : Nat, PW Γ G Z x.handlerPc ls [.ref q9] M k n) : PX Γ G Z E pc ls st M k n := by
  obtain ⟨p, l, e, R, s, m, args, below, meth, c⟩ := Γ
  obtain ⟨hx, hb, hml, hown, hts, hret, hlocks, hname, htr, hT, hK, hRf, hRl, hRc, hRs⟩ := C
  intro A H locs ce q9 hl hM hS hce hcv hcl
  refine vx_catch hown pre x suf (hT.trans hsplit) (fun z hz => ?_) hx0 h0 (hts _ hlink) (va_Nw.use rfl (hK.2.2.2.2.2.1 _ hcast)) hce hcv hcl (K q9 A H locs hl hM hS)
  obtain ⟨h1, nm, h2, h3⟩ := hpass z hz
  exact Or.inr ⟨h1, nm, hts _ h2, h3 s hN⟩
def QL (M : PH) (x t : Nat) (r : RS) : OC → PH → Prop := fun o M1 => o = .inl (some (.int (nI r.1))) ∧ RepX M1 x r.2.2 ∧ M.1 ≤ M1.1 ∧ (∀ q, q < M.1 → (q < x ∨ x + 137 ≤ q) → q ≠ t → M1.2 q = M.2 q) ∧ ∃ f : Nat → Int64, M1.2 t = some (.inl (3, 1, .inr (.inl f))) ∧ (r.1 = 0 → f 0 = r.2.1.toInt64)
theorem QL.exc {M M1 : PH} {x t : Nat} {r : RS} {f : Nat → Int64} (k : Nat) (hk : r.1 = k + 1) (hX : RepX M1 x r.2.2) (hF : Fr M M1 x) (ht : t < M.1) (hd : t < x ∨ x + 137 ≤ t) (hT : M.2 t = some (.inl (3, 1, .inr (.inl f)))) : QL M x t r (.inl (some (.int (nI (k + 1))))) M1 := ⟨by rw [hk], hX, hF.1, fun q h1 h2 _ => hF.2 q h1 h2, f, (hF.2 t ht hd).trans hT, fun q => absurd q (by omega)⟩
theorem QL.ok {M M1 : PH} {x t : Nat} {r : RS} {f : Nat → Int64} (hk : r.1 = 0) (hX : RepX M1 x r.2.2) (hF : Fr M M1 x) (hd : t < x ∨ x + 137 ≤ t) : QL M x t r (.inl (some (.int (nI 0)))) (hput M1 t (.inl (3, 1, .inr (.inl (vp_updL f (nI 0).toNatClampNeg r.2.1.toInt64))))) :=
  ⟨by rw [hk], hX.keep (Nat.le_refl _) (fun q g1 g2 => hput_ne (by omega)), hF.1, fun q h1 h2 h3 => (hput_ne h3).trans (hF.2 q h1 h2), _, hput_at _ _ _, fun _ => by
    show (if (0 : Nat) = (nI 0).toNatClampNeg then _ else _) = _
    rw [if_pos (by decide +kernel)]⟩
set_option maxHeartbeats 200000 in
set_option maxRecDepth 100000 in
theorem l_append {M : PH} {x t : Nat} {r : RS} {fs : List Value} {f : Nat → Int64} {c1 : Int32} (hp : Run iX10_append [.ref x, .int c1] M 2 12 (QX M x (EX xA xS xS) r)) (hk : r.1 ≤ 2) (hx : M.2 x = some (.inr (7, fs))) (ht : t < M.1) (hd : t < x ∨ x + 137 ≤ t) (hT : M.2 t = some (.inl (3, 1, .inr (.inl f)))) : RunN iL_append hL_append [.ref x, .int c1, .ref t] M 2 12 (QL M x t r) := by
  refine RunN.of (l0 := [some (.ref x), some (.int c1), some (.ref t), none]) (by decide +kernel) (Nat.le_of_ble_eq_true rfl) (by rfl) (fun Γ G C hN => ?_)
  refine pw_aload_n (q := 1) (j := 2) C dL_append_0 rfl rfl rfl ?_
  refine pw_iconst_n (q := 2) C 0 dL_append_1 (by decide +kernel) rfl ?_
  refine pw_aload_n (q := 3) (j := 0) C dL_append_2 rfl rfl rfl ?_
  refine pw_iload_n (q := 4) (j := 1) C dL_append_3 rfl rfl rfl ?_
  refine pw_any (cr_v (j := iX10_append) C dL_append_4 lL_7 mX10_append (ro_mk (by decide) (by decide)) hx rfl hp rfl rfl (Nat.le_of_ble_eq_true rfl) ⟨by omega, by omega⟩) rfl (fun v M1 e => ?_) (fun E1 M1 e => ?_)
  · obtain ⟨hX1, hF1, ho⟩ := e
    by_cases h0 : r.1 = 0
    · rw [if_pos h0] at ho
      have hv := Sum.inl.inj ho
      subst hv
      refine pw_i2l (q := 8) C dL_append_7 rfl ?_
      refine pw_last (q := 9) C dL_append_8 ((hF1.2 t ht hd).trans hT) (vp_in_n (by decide) (by decide)) rfl ?_
      refine pw_goto (q := 0) 18 C dL_append_9 (by decide) ?_
      refine pw_iconst_n (q := 19) C 0 dL_append_18 (by decide +kernel) rfl ?_
      exact pw_iret C dL_append_19 rfl ⟨by omega, by omega⟩ (QL.ok h0 hX1 hF1 hd)
    · rw [if_neg h0] at ho
      cases ho
  · obtain ⟨hX1, hF1, ho⟩ := e
    by_cases h0 : r.1 = 0
    · rw [if_pos h0] at ho
      cases ho
    · rw [if_neg h0] at ho
      have hE := Sum.inr.inj ho
      clear ho
      have hE2 : E1 = (EX xA xS xS) r.1 := hE
      subst hE2
      rcases (show r.1 = 1 ∨ r.1 = 2 by omega) with h1 | h1
      · rw [show (EX xA xS xS) r.1 = xA by rw [h1]; rfl]
        refine px_catchN C hN [] ⟨0, 9, 12, 13⟩ [⟨0, 9, 15, 15⟩] rfl (fun z hz => absurd hz List.not_mem_nil) (by decide) (by decide) clL_13 ca_IllegalArgumentException (fun q9 => ?_)
        show PW Γ G _ 12 _ _ _ _ _
        refine pw_astore_n (q := 13) (j := 3) C dL_append_12 rfl rfl (by decide) rfl ?_
        refine pw_iconst_n (q := 14) C 1 dL_append_13 (by decide +kernel) rfl ?_
        exact pw_iret C dL_append_14 rfl ⟨by omega, by omega⟩ (QL.exc 0 h1 hX1 hF1 ht hd hT)
      · rw [show (EX xA xS xS) r.1 = xS by rw [h1]; rfl]
        refine px_catchN C hN [⟨0, 9, 12, 13⟩] ⟨0, 9, 15, 15⟩ [] rfl (fun z hz => by
          simp only [List.mem_cons, List.not_mem_nil, or_false] at hz
          subst hz
          exact ⟨by decide, xA, clL_13, fun s h => h.1⟩) (by decide) (by decide) clL_15 ca_IllegalStateException (fun q9 => ?_)
        show PW Γ G _ 15 _ _ _ _ _
        refine pw_astore_n (q := 16) (j := 3) C dL_append_15 rfl rfl (by decide) rfl ?_
        refine pw_iconst_n (q := 17) C 2 dL_append_16 (by decide +kernel) rfl ?_
        exact pw_iret C dL_append_17 rfl ⟨by omega, by omega⟩ (QL.exc 1 h1 hX1 hF1 ht hd hT)
set_option maxHeartbeats 200000 in
set_option maxRecDepth 100000 in
theorem l_load {M : PH} {x t : Nat} {r : RS} {fs : List Value} {f : Nat → Int64} (hp : Run iX10_load [.ref x] M 2 12 (QX M x (EX xS xS xS) r)) (hk : r.1 ≤ 1) (hx : M.2 x = some (.inr (7, fs))) (ht : t < M.1) (hd : t < x ∨ x + 137 ≤ t) (hT : M.2 t = some (.inl (3, 1, .inr (.inl f)))) : RunN iL_load hL_load [.ref x, .ref t] M 2 12 (QL M x t r) := by
  refine RunN.of (l0 := [some (.ref x), some (.ref t), none]) (by decide +kernel) (Nat.le_of_ble_eq_true rfl) (by rfl) (fun Γ G C hN => ?_)
  refine pw_aload_n (q := 1) (j := 1) C dL_load_0 rfl rfl rfl ?_
  refine pw_iconst_n (q := 2) C 0 dL_load_1 (by decide +kernel) rfl ?_
  refine pw_aload_n (q := 3) (j := 0) C dL_load_2 rfl rfl rfl ?_
  refine pw_any (cr_v (j := iX10_load) C dL_load_3 lL_17 mX10_load (ro_mk (by decide) (by decide)) hx rfl hp rfl rfl (Nat.le_of_ble_eq_true rfl) ⟨by omega, by omega⟩) rfl (fun v M1 e => ?_) (fun E1 M1 e => ?_)
  · obtain ⟨hX1, hF1, ho⟩ := e
    by_cases h0 : r.1 = 0
    · rw [if_pos h0] at ho
      have hv := Sum.inl.inj ho
      subst hv
      refine pw_i2l (q := 7) C dL_load_6 rfl ?_
      refine pw_last (q := 8) C dL_load_7 ((hF1.2 t ht hd).trans hT) (vp_in_n (by decide) (by decide)) rfl ?_
      refine pw_goto (q := 0) 14 C dL_load_8 (by decide) ?_
      refine pw_iconst_n (q := 15) C 0 dL_load_14 (by decide +kernel) rfl ?_
      exact pw_iret C dL_load_15 rfl ⟨by omega, by omega⟩ (QL.ok h0 hX1 hF1 hd)
    · rw [if_neg h0] at ho
      cases ho
  · obtain ⟨hX1, hF1, ho⟩ := e
    by_cases h0 : r.1 = 0
    · rw [if_pos h0] at ho
      cases ho
    · rw [if_neg h0] at ho
      have hE := Sum.inr.inj ho
      clear ho
      have hE2 : E1 = (EX xS xS xS) r.1 := hE
      subst hE2
      have h1 : r.1 = 1 := by omega
      rw [show (EX xS xS xS) r.1 = xS by rw [h1]; rfl]
      refine px_catchN C hN [] ⟨0, 8, 11, 15⟩ [] rfl (fun z hz => absurd hz List.not_mem_nil) (by decide) (by decide) clL_15 ca_IllegalStateException (fun q9 => ?_)
      show PW Γ G _ 11 _ _ _ _ _
      refine pw_astore_n (q := 12) (j := 2) C dL_load_11 rfl rfl (by decide) rfl ?_
      refine pw_iconst_n (q := 13) C 1 dL_load_12 (by decide +kernel) rfl ?_
      exact pw_iret C dL_load_13 rfl ⟨by omega, by omega⟩ (QL.exc 0 h1 hX1 hF1 ht hd hT)
set_option maxHeartbeats 200000 in
set_option maxRecDepth 100000 in
theorem l_about {M : PH} {x t : Nat} {r : RS} {fs : List Value} {f : Nat → Int64} {c1 : Int32} (hp : Run iX10_about [.ref x, .int c1] M 2 12 (QX M x (EX xA xA xA) r)) (hk : r.1 ≤ 1) (hx : M.2 x = some (.inr (7, fs))) (ht : t < M.1) (hd : t < x ∨ x + 137 ≤ t) (hT : M.2 t = some (.inl (3, 1, .inr (.inl f)))) : RunN iL_about hL_about [.ref x, .int c1, .ref t] M 2 12 (QL M x t r) := by
  refine RunN.of (l0 := [some (.ref x), some (.int c1), some (.ref t), none]) (by decide +kernel) (Nat.le_of_ble_eq_true rfl) (by rfl) (fun Γ G C hN => ?_)
  refine pw_aload_n (q := 1) (j := 2) C dL_about_0 rfl rfl rfl ?_
  refine pw_iconst_n (q := 2) C 0 dL_about_1 (by decide +kernel) rfl ?_
  refine pw_aload_n (q := 3) (j := 0) C dL_about_2 rfl rfl rfl ?_
  refine pw_iload_n (q := 4) (j := 1) C dL_about_3 rfl rfl rfl ?_
  refine pw_any (cr_v (j := iX10_about) C dL_about_4 lL_21 mX10_about (ro_mk (by decide) (by decide)) hx rfl hp rfl rfl (Nat.le_of_ble_eq_true rfl) ⟨by omega, by omega⟩) rfl (fun v M1 e => ?_) (fun E1 M1 e => ?_)
  · obtain ⟨hX1, hF1, ho⟩ := e
    by_cases h0 : r.1 = 0
    · rw [if_pos h0] at ho
      have hv := Sum.inl.inj ho
      subst hv
      refine pw_i2l (q := 8) C dL_about_7 rfl ?_
      refine pw_last (q := 9) C dL_about_8 ((hF1.2 t ht hd).trans hT) (vp_in_n (by decide) (by decide)) rfl ?_
      refine pw_goto (q := 0) 15 C dL_about_9 (by decide) ?_
      refine pw_iconst_n (q := 16) C 0 dL_about_15 (by decide +kernel) rfl ?_
      exact pw_iret C dL_about_16 rfl ⟨by omega, by omega⟩ (QL.ok h0 hX1 hF1 hd)
    · rw [if_neg h0] at ho
      cases ho
  · obtain ⟨hX1, hF1, ho⟩ := e
    by_cases h0 : r.1 = 0
    · rw [if_pos h0] at ho
      cases ho
    · rw [if_neg h0] at ho
      have hE := Sum.inr.inj ho
      clear ho
      have hE2 : E1 = (EX xA xA xA) r.1 := hE
      subst hE2
      have h1 : r.1 = 1 := by omega
      rw [show (EX xA xA xA) r.1 = xA by rw [h1]; rfl]
      refine px_catchN C hN [] ⟨0, 9, 12, 13⟩ [] rfl (fun z hz => absurd hz List.not_mem_nil) (by decide) (by decide) clL_13 ca_IllegalArgumentException (fun q9 => ?_)
      show PW Γ G _ 12 _ _ _ _ _
      refine pw_astore_n (q := 13) (j := 3) C dL_about_12 rfl rfl (by decide) rfl ?_
      refine pw_iconst_n (q := 14) C 1 dL_about_13 (by decide +kernel) rfl ?_
      exact pw_iret C dL_about_14 rfl ⟨by omega, by omega⟩ (QL.exc 0 h1 hX1 hF1 ht hd hT)
set_option maxHeartbeats 200000 in
set_option maxRecDepth 100000 in
theorem l_course {M : PH} {x t : Nat} {r : RS} {fs : List Value} {f : Nat → Int64} {c1 : Int32} {c2 : Int32} (hp : Run iX10_course [.ref x, .int c1, .int c2] M 2 12 (QX M x (EX xB xA xA) r)) (hk : r.1 ≤ 2) (hx : M.2 x = some (.inr (7, fs))) (ht : t < M.1) (hd : t < x ∨ x + 137 ≤ t) (hT : M.2 t = some (.inl (3, 1, .inr (.inl f)))) : RunN iL_course hL_course [.ref x, .int c1, .int c2, .ref t] M 2 12 (QL M x t r) := by
  refine RunN.of (l0 := [some (.ref x), some (.int c1), some (.int c2), some (.ref t), none]) (by decide +kernel) (Nat.le_of_ble_eq_true rfl) (by rfl) (fun Γ G C hN => ?_)
  refine pw_aload_n (q := 1) (j := 3) C dL_course_0 rfl rfl rfl ?_
  refine pw_iconst_n (q := 2) C 0 dL_course_1 (by decide +kernel) rfl ?_
  refine pw_aload_n (q := 3) (j := 0) C dL_course_2 rfl rfl rfl ?_
  refine pw_iload_n (q := 4) (j := 1) C dL_course_3 rfl rfl rfl ?_
  refine pw_iload_n (q := 5) (j := 2) C dL_course_4 rfl rfl rfl ?_
  refine pw_any (cr_v (j := iX10_course) C dL_course_5 lL_24 mX10_course (ro_mk (by decide) (by decide)) hx rfl hp rfl rfl (Nat.le_of_ble_eq_true rfl) ⟨by omega, by omega⟩) rfl (fun v M1 e => ?_) (fun E1 M1 e => ?_)
  · obtain ⟨hX1, hF1, ho⟩ := e
    by_cases h0 : r.1 = 0
    · rw [if_pos h0] at ho
      have hv := Sum.inl.inj ho
      subst hv
      refine pw_i2l (q := 9) C dL_course_8 rfl ?_
      refine pw_last (q := 10) C dL_course_9 ((hF1.2 t ht hd).trans hT) (vp_in_n (by decide) (by decide)) rfl ?_
      refine pw_goto (q := 0) 21 C dL_course_10 (by decide) ?_
      refine pw_iconst_n (q := 22) C 0 dL_course_21 (by decide +kernel) rfl ?_
      exact pw_iret C dL_course_22 rfl ⟨by omega, by omega⟩ (QL.ok h0 hX1 hF1 hd)
    · rw [if_neg h0] at ho
      cases ho
  · obtain ⟨hX1, hF1, ho⟩ := e
    by_cases h0 : r.1 = 0
    · rw [if_pos h0] at ho
      cases ho
    · rw [if_neg h0] at ho
      have hE := Sum.inr.inj ho
      clear ho
      have hE2 : E1 = (EX xB xA xA) r.1 := hE
      subst hE2
      rcases (show r.1 = 1 ∨ r.1 = 2 by omega) with h1 | h1
      · rw [show (EX xB xA xA) r.1 = xB by rw [h1]; rfl]
        refine px_catchN C hN [] ⟨0, 10, 13, 28⟩ [⟨0, 10, 17, 13⟩] rfl (fun z hz => absurd hz List.not_mem_nil) (by decide) (by decide) clL_28 ca_IndexOutOfBoundsException (fun q9 => ?_)
        show PW Γ G _ 13 _ _ _ _ _
        refine pw_astore (q := 15) C dL_course_13 rfl (by decide) rfl ?_
        refine pw_iconst_n (q := 16) C 1 dL_course_15 (by decide +kernel) rfl ?_
        exact pw_iret C dL_course_16 rfl ⟨by omega, by omega⟩ (QL.exc 0 h1 hX1 hF1 ht hd hT)
      · rw [show (EX xB xA xA) r.1 = xA by rw [h1]; rfl]
        refine px_catchN C hN [⟨0, 10, 13, 28⟩] ⟨0, 10, 17, 13⟩ [] rfl (fun z hz => by
          simp only [List.mem_cons, List.not_mem_nil, or_false] at hz
          subst hz
          exact ⟨by decide, xB, clL_28, fun s h => h.2.1⟩) (by decide) (by decide) clL_13 ca_IllegalArgumentException (fun q9 => ?_)
        show PW Γ G _ 17 _ _ _ _ _
        refine pw_astore (q := 19) C dL_course_17 rfl (by decide) rfl ?_
        refine pw_iconst_n (q := 20) C 2 dL_course_19 (by decide +kernel) rfl ?_
        exact pw_iret C dL_course_20 rfl ⟨by omega, by omega⟩ (QL.exc 1 h1 hX1 hF1 ht hd hT)
set_option maxHeartbeats 200000 in
set_option maxRecDepth 100000 in
theorem l_mason {M : PH} {x t : Nat} {r : RS} {fs : List Value} {f : Nat → Int64} {c1 : Int32} {c2 : Int32} (hp : Run iX10_mason [.ref x, .int c1, .int c2] M 2 12 (QX M x (EX xB xA xA) r)) (hk : r.1 ≤ 2) (hx : M.2 x = some (.inr (7, fs))) (ht : t < M.1) (hd : t < x ∨ x + 137 ≤ t) (hT : M.2 t = some (.inl (3, 1, .inr (.inl f)))) : RunN iL_mason hL_mason [.ref x, .int c1, .int c2, .ref t] M 2 12 (QL M x t r) := by
  refine RunN.of (l0 := [some (.ref x), some (.int c1), some (.int c2), some (.ref t), none]) (by decide +kernel) (Nat.le_of_ble_eq_true rfl) (by rfl) (fun Γ G C hN => ?_)
  refine pw_aload_n (q := 1) (j := 3) C dL_mason_0 rfl rfl rfl ?_
  refine pw_iconst_n (q := 2) C 0 dL_mason_1 (by decide +kernel) rfl ?_
  refine pw_aload_n (q := 3) (j := 0) C dL_mason_2 rfl rfl rfl ?_
  refine pw_iload_n (q := 4) (j := 1) C dL_mason_3 rfl rfl rfl ?_
  refine pw_iload_n (q := 5) (j := 2) C dL_mason_4 rfl rfl rfl ?_
  refine pw_any (cr_v (j := iX10_mason) C dL_mason_5 lL_30 mX10_mason (ro_mk (by decide) (by decide)) hx rfl hp rfl rfl (Nat.le_of_ble_eq_true rfl) ⟨by omega, by omega⟩) rfl (fun v M1 e => ?_) (fun E1 M1 e => ?_)
  · obtain ⟨hX1, hF1, ho⟩ := e
    by_cases h0 : r.1 = 0
    · rw [if_pos h0] at ho
      have hv := Sum.inl.inj ho
      subst hv
      refine pw_i2l (q := 9) C dL_mason_8 rfl ?_
      refine pw_last (q := 10) C dL_mason_9 ((hF1.2 t ht hd).trans hT) (vp_in_n (by decide) (by decide)) rfl ?_
      refine pw_goto (q := 0) 21 C dL_mason_10 (by decide) ?_
      refine pw_iconst_n (q := 22) C 0 dL_mason_21 (by decide +kernel) rfl ?_
      exact pw_iret C dL_mason_22 rfl ⟨by omega, by omega⟩ (QL.ok h0 hX1 hF1 hd)
    · rw [if_neg h0] at ho
      cases ho
  · obtain ⟨hX1, hF1, ho⟩ := e
    by_cases h0 : r.1 = 0
    · rw [if_pos h0] at ho
      cases ho
    · rw [if_neg h0] at ho
      have hE := Sum.inr.inj ho
      clear ho
      have hE2 : E1 = (EX xB xA xA) r.1 := hE
      subst hE2
      rcases (show r.1 = 1 ∨ r.1 = 2 by omega) with h1 | h1
      · rw [show (EX xB xA xA) r.1 = xB by rw [h1]; rfl]
        refine px_catchN C hN [] ⟨0, 10, 13, 28⟩ [⟨0, 10, 17, 13⟩] rfl (fun z hz => absurd hz List.not_mem_nil) (by decide) (by decide) clL_28 ca_IndexOutOfBoundsException (fun q9 => ?_)
        show PW Γ G _ 13 _ _ _ _ _
        refine pw_astore (q := 15) C dL_mason_13 rfl (by decide) rfl ?_
        refine pw_iconst_n (q := 16) C 1 dL_mason_15 (by decide +kernel) rfl ?_
        exact pw_iret C dL_mason_16 rfl ⟨by omega, by omega⟩ (QL.exc 0 h1 hX1 hF1 ht hd hT)
      · rw [show (EX xB xA xA) r.1 = xA by rw [h1]; rfl]
        refine px_catchN C hN [⟨0, 10, 13, 28⟩] ⟨0, 10, 17, 13⟩ [] rfl (fun z hz => by
          simp only [List.mem_cons, List.not_mem_nil, or_false] at hz
          subst hz
          exact ⟨by decide, xB, clL_28, fun s h => h.2.1⟩) (by decide) (by decide) clL_13 ca_IllegalArgumentException (fun q9 => ?_)
        show PW Γ G _ 17 _ _ _ _ _
        refine pw_astore (q := 19) C dL_mason_17 rfl (by decide) rfl ?_
        refine pw_iconst_n (q := 20) C 2 dL_mason_19 (by decide +kernel) rfl ?_
        exact pw_iret C dL_mason_20 rfl ⟨by omega, by omega⟩ (QL.exc 1 h1 hX1 hF1 ht hd hT)
set_option maxHeartbeats 200000 in
set_option maxRecDepth 100000 in
theorem l_stone {M : PH} {x t : Nat} {r : RS} {fs : List Value} {f : Nat → Int64} {c1 : Int32} {c2 : Int32} (hp : Run iX10_stone [.ref x, .int c1, .int c2] M 2 12 (QX M x (EX xB xA xA) r)) (hk : r.1 ≤ 2) (hx : M.2 x = some (.inr (7, fs))) (ht : t < M.1) (hd : t < x ∨ x + 137 ≤ t) (hT : M.2 t = some (.inl (3, 1, .inr (.inl f)))) : RunN iL_stone hL_stone [.ref x, .int c1, .int c2, .ref t] M 2 12 (QL M x t r) := by
  refine RunN.of (l0 := [some (.ref x), some (.int c1), some (.int c2), some (.ref t), none]) (by decide +kernel) (Nat.le_of_ble_eq_true rfl) (by rfl) (fun Γ G C hN => ?_)
  refine pw_aload_n (q := 1) (j := 3) C dL_stone_0 rfl rfl rfl ?_
  refine pw_iconst_n (q := 2) C 0 dL_stone_1 (by decide +kernel) rfl ?_
  refine pw_aload_n (q := 3) (j := 0) C dL_stone_2 rfl rfl rfl ?_
  refine pw_iload_n (q := 4) (j := 1) C dL_stone_3 rfl rfl rfl ?_
  refine pw_iload_n (q := 5) (j := 2) C dL_stone_4 rfl rfl rfl ?_
  refine pw_any (cr_v (j := iX10_stone) C dL_stone_5 lL_33 mX10_stone (ro_mk (by decide) (by decide)) hx rfl hp rfl rfl (Nat.le_of_ble_eq_true rfl) ⟨by omega, by omega⟩) rfl (fun v M1 e => ?_) (fun E1 M1 e => ?_)
  · obtain ⟨hX1, hF1, ho⟩ := e
    by_cases h0 : r.1 = 0
    · rw [if_pos h0] at ho
      have hv := Sum.inl.inj ho
      subst hv
      refine pw_i2l (q := 9) C dL_stone_8 rfl ?_
      refine pw_last (q := 10) C dL_stone_9 ((hF1.2 t ht hd).trans hT) (vp_in_n (by decide) (by decide)) rfl ?_
      refine pw_goto (q := 0) 21 C dL_stone_10 (by decide) ?_
      refine pw_iconst_n (q := 22) C 0 dL_stone_21 (by decide +kernel) rfl ?_
      exact pw_iret C dL_stone_22 rfl ⟨by omega, by omega⟩ (QL.ok h0 hX1 hF1 hd)
    · rw [if_neg h0] at ho
      cases ho
  · obtain ⟨hX1, hF1, ho⟩ := e
    by_cases h0 : r.1 = 0
    · rw [if_pos h0] at ho
      cases ho
    · rw [if_neg h0] at ho
      have hE := Sum.inr.inj ho
      clear ho
      have hE2 : E1 = (EX xB xA xA) r.1 := hE
      subst hE2
      rcases (show r.1 = 1 ∨ r.1 = 2 by omega) with h1 | h1
      · rw [show (EX xB xA xA) r.1 = xB by rw [h1]; rfl]
        refine px_catchN C hN [] ⟨0, 10, 13, 28⟩ [⟨0, 10, 17, 13⟩] rfl (fun z hz => absurd hz List.not_mem_nil) (by decide) (by decide) clL_28 ca_IndexOutOfBoundsException (fun q9 => ?_)
        show PW Γ G _ 13 _ _ _ _ _
        refine pw_astore (q := 15) C dL_stone_13 rfl (by decide) rfl ?_
        refine pw_iconst_n (q := 16) C 1 dL_stone_15 (by decide +kernel) rfl ?_
        exact pw_iret C dL_stone_16 rfl ⟨by omega, by omega⟩ (QL.exc 0 h1 hX1 hF1 ht hd hT)
      · rw [show (EX xB xA xA) r.1 = xA by rw [h1]; rfl]
        refine px_catchN C hN [⟨0, 10, 13, 28⟩] ⟨0, 10, 17, 13⟩ [] rfl (fun z hz => by
          simp only [List.mem_cons, List.not_mem_nil, or_false] at hz
          subst hz
          exact ⟨by decide, xB, clL_28, fun s h => h.2.1⟩) (by decide) (by decide) clL_13 ca_IllegalArgumentException (fun q9 => ?_)
        show PW Γ G _ 17 _ _ _ _ _
        refine pw_astore (q := 19) C dL_stone_17 rfl (by decide) rfl ?_
        refine pw_iconst_n (q := 20) C 2 dL_stone_19 (by decide +kernel) rfl ?_
        exact pw_iret C dL_stone_20 rfl ⟨by omega, by omega⟩ (QL.exc 1 h1 hX1 hF1 ht hd hT)
set_option maxHeartbeats 200000 in
set_option maxRecDepth 100000 in
theorem l_whyNotSet {M : PH} {x t : Nat} {r : RS} {fs : List Value} {f : Nat → Int64} {c1 : Int32} (hp : Run iX10_whyNotSet [.ref x, .int c1] M 2 12 (QX M x (EX xB xB xB) r)) (hk : r.1 ≤ 1) (hx : M.2 x = some (.inr (7, fs))) (ht : t < M.1) (hd : t < x ∨ x + 137 ≤ t) (hT : M.2 t = some (.inl (3, 1, .inr (.inl f)))) : RunN iL_whyNotSet hL_whyNotSet [.ref x, .int c1, .ref t] M 2 12 (QL M x t r) := by
  refine RunN.of (l0 := [some (.ref x), some (.int c1), some (.ref t), none]) (by decide +kernel) (Nat.le_of_ble_eq_true rfl) (by rfl) (fun Γ G C hN => ?_)
  refine pw_aload_n (q := 1) (j := 2) C dL_whyNotSet_0 rfl rfl rfl ?_
  refine pw_iconst_n (q := 2) C 0 dL_whyNotSet_1 (by decide +kernel) rfl ?_
  refine pw_aload_n (q := 3) (j := 0) C dL_whyNotSet_2 rfl rfl rfl ?_
  refine pw_iload_n (q := 4) (j := 1) C dL_whyNotSet_3 rfl rfl rfl ?_
  refine pw_any (cr_v (j := iX10_whyNotSet) C dL_whyNotSet_4 lL_36 mX10_whyNotSet (ro_mk (by decide) (by decide)) hx rfl hp rfl rfl (Nat.le_of_ble_eq_true rfl) ⟨by omega, by omega⟩) rfl (fun v M1 e => ?_) (fun E1 M1 e => ?_)
  · obtain ⟨hX1, hF1, ho⟩ := e
    by_cases h0 : r.1 = 0
    · rw [if_pos h0] at ho
      have hv := Sum.inl.inj ho
      subst hv
      refine pw_i2l (q := 8) C dL_whyNotSet_7 rfl ?_
      refine pw_last (q := 9) C dL_whyNotSet_8 ((hF1.2 t ht hd).trans hT) (vp_in_n (by decide) (by decide)) rfl ?_
      refine pw_goto (q := 0) 15 C dL_whyNotSet_9 (by decide) ?_
      refine pw_iconst_n (q := 16) C 0 dL_whyNotSet_15 (by decide +kernel) rfl ?_
      exact pw_iret C dL_whyNotSet_16 rfl ⟨by omega, by omega⟩ (QL.ok h0 hX1 hF1 hd)
    · rw [if_neg h0] at ho
      cases ho
  · obtain ⟨hX1, hF1, ho⟩ := e
    by_cases h0 : r.1 = 0
    · rw [if_pos h0] at ho
      cases ho
    · rw [if_neg h0] at ho
      have hE := Sum.inr.inj ho
      clear ho
      have hE2 : E1 = (EX xB xB xB) r.1 := hE
      subst hE2
      have h1 : r.1 = 1 := by omega
      rw [show (EX xB xB xB) r.1 = xB by rw [h1]; rfl]
      refine px_catchN C hN [] ⟨0, 9, 12, 28⟩ [] rfl (fun z hz => absurd hz List.not_mem_nil) (by decide) (by decide) clL_28 ca_IndexOutOfBoundsException (fun q9 => ?_)
      show PW Γ G _ 12 _ _ _ _ _
      refine pw_astore_n (q := 13) (j := 3) C dL_whyNotSet_12 rfl rfl (by decide) rfl ?_
      refine pw_iconst_n (q := 14) C 1 dL_whyNotSet_13 (by decide +kernel) rfl ?_
      exact pw_iret C dL_whyNotSet_14 rfl ⟨by omega, by omega⟩ (QL.exc 0 h1 hX1 hF1 ht hd hT)
set_option maxHeartbeats 200000 in
set_option maxRecDepth 100000 in
theorem l_addCourse {M : PH} {x t : Nat} {r : RS} {fs : List Value} {f : Nat → Int64} {c1 : Int32} {c2 : Int32} {c3 : Int32} (hp : Run iX10_addCourse [.ref x, .int c1, .int c2, .int c3] M 2 12 (QX M x (EX xA xS xS) r)) (hk : r.1 ≤ 2) (hx : M.2 x = some (.inr (7, fs))) (ht : t < M.1) (hd : t < x ∨ x + 137 ≤ t) (hT : M.2 t = some (.inl (3, 1, .inr (.inl f)))) : RunN iL_addCourse hL_addCourse [.ref x, .int c1, .int c2, .int c3, .ref t] M 2 12 (QL M x t r) := by
  refine RunN.of (l0 := [some (.ref x), some (.int c1), some (.int c2), some (.int c3), some (.ref t), none]) (by decide +kernel) (Nat.le_of_ble_eq_true rfl) (by rfl) (fun Γ G C hN => ?_)
  refine pw_aload (q := 2) C dL_addCourse_0 rfl rfl ?_
  refine pw_iconst_n (q := 3) C 0 dL_addCourse_2 (by decide +kernel) rfl ?_
  refine pw_aload_n (q := 4) (j := 0) C dL_addCourse_3 rfl rfl rfl ?_
  refine pw_iload_n (q := 5) (j := 1) C dL_addCourse_4 rfl rfl rfl ?_
  refine pw_iload_n (q := 6) (j := 2) C dL_addCourse_5 rfl rfl rfl ?_
  refine pw_iload_n (q := 7) (j := 3) C dL_addCourse_6 rfl rfl rfl ?_
  refine pw_any (cr_v (j := iX10_addCourse) C dL_addCourse_7 lL_39 mX10_addCourse (ro_mk (by decide) (by decide)) hx rfl hp rfl rfl (Nat.le_of_ble_eq_true rfl) ⟨by omega, by omega⟩) rfl (fun v M1 e => ?_) (fun E1 M1 e => ?_)
  · obtain ⟨hX1, hF1, ho⟩ := e
    by_cases h0 : r.1 = 0
    · rw [if_pos h0] at ho
      have hv := Sum.inl.inj ho
      subst hv
      refine pw_i2l (q := 11) C dL_addCourse_10 rfl ?_
      refine pw_last (q := 12) C dL_addCourse_11 ((hF1.2 t ht hd).trans hT) (vp_in_n (by decide) (by decide)) rfl ?_
      refine pw_goto (q := 0) 23 C dL_addCourse_12 (by decide) ?_
      refine pw_iconst_n (q := 24) C 0 dL_addCourse_23 (by decide +kernel) rfl ?_
      exact pw_iret C dL_addCourse_24 rfl ⟨by omega, by omega⟩ (QL.ok h0 hX1 hF1 hd)
    · rw [if_neg h0] at ho
      cases ho
  · obtain ⟨hX1, hF1, ho⟩ := e
    by_cases h0 : r.1 = 0
    · rw [if_pos h0] at ho
      cases ho
    · rw [if_neg h0] at ho
      have hE := Sum.inr.inj ho
      clear ho
      have hE2 : E1 = (EX xA xS xS) r.1 := hE
      subst hE2
      rcases (show r.1 = 1 ∨ r.1 = 2 by omega) with h1 | h1
      · rw [show (EX xA xS xS) r.1 = xA by rw [h1]; rfl]
        refine px_catchN C hN [] ⟨0, 12, 15, 13⟩ [⟨0, 12, 19, 15⟩] rfl (fun z hz => absurd hz List.not_mem_nil) (by decide) (by decide) clL_13 ca_IllegalArgumentException (fun q9 => ?_)
        show PW Γ G _ 15 _ _ _ _ _
        refine pw_astore (q := 17) C dL_addCourse_15 rfl (by decide) rfl ?_
        refine pw_iconst_n (q := 18) C 1 dL_addCourse_17 (by decide +kernel) rfl ?_
        exact pw_iret C dL_addCourse_18 rfl ⟨by omega, by omega⟩ (QL.exc 0 h1 hX1 hF1 ht hd hT)
      · rw [show (EX xA xS xS) r.1 = xS by rw [h1]; rfl]
        refine px_catchN C hN [⟨0, 12, 15, 13⟩] ⟨0, 12, 19, 15⟩ [] rfl (fun z hz => by
          simp only [List.mem_cons, List.not_mem_nil, or_false] at hz
          subst hz
          exact ⟨by decide, xA, clL_13, fun s h => h.1⟩) (by decide) (by decide) clL_15 ca_IllegalStateException (fun q9 => ?_)
        show PW Γ G _ 19 _ _ _ _ _
        refine pw_astore (q := 21) C dL_addCourse_19 rfl (by decide) rfl ?_
        refine pw_iconst_n (q := 22) C 2 dL_addCourse_21 (by decide +kernel) rfl ?_
        exact pw_iret C dL_addCourse_22 rfl ⟨by omega, by omega⟩ (QL.exc 1 h1 hX1 hF1 ht hd hT)
set_option maxHeartbeats 200000 in
set_option maxRecDepth 100000 in
theorem l_addMason {M : PH} {x t : Nat} {r : RS} {fs : List Value} {f : Nat → Int64} {c1 : Int32} {c2 : Int32} (hp : Run iX10_addMason [.ref x, .int c1, .int c2] M 2 12 (QX M x (EX xA xS xS) r)) (hk : r.1 ≤ 2) (hx : M.2 x = some (.inr (7, fs))) (ht : t < M.1) (hd : t < x ∨ x + 137 ≤ t) (hT : M.2 t = some (.inl (3, 1, .inr (.inl f)))) : RunN iL_addMason hL_addMason [.ref x, .int c1, .int c2, .ref t] M 2 12 (QL M x t r) := by
  refine RunN.of (l0 := [some (.ref x), some (.int c1), some (.int c2), some (.ref t), none]) (by decide +kernel) (Nat.le_of_ble_eq_true rfl) (by rfl) (fun Γ G C hN => ?_)
  refine pw_aload_n (q := 1) (j := 3) C dL_addMason_0 rfl rfl rfl ?_
  refine pw_iconst_n (q := 2) C 0 dL_addMason_1 (by decide +kernel) rfl ?_
  refine pw_aload_n (q := 3) (j := 0) C dL_addMason_2 rfl rfl rfl ?_
  refine pw_iload_n (q := 4) (j := 1) C dL_addMason_3 rfl rfl rfl ?_
  refine pw_iload_n (q := 5) (j := 2) C dL_addMason_4 rfl rfl rfl ?_
  refine pw_any (cr_v (j := iX10_addMason) C dL_addMason_5 lL_43 mX10_addMason (ro_mk (by decide) (by decide)) hx rfl hp rfl rfl (Nat.le_of_ble_eq_true rfl) ⟨by omega, by omega⟩) rfl (fun v M1 e => ?_) (fun E1 M1 e => ?_)
  · obtain ⟨hX1, hF1, ho⟩ := e
    by_cases h0 : r.1 = 0
    · rw [if_pos h0] at ho
      have hv := Sum.inl.inj ho
      subst hv
      refine pw_i2l (q := 9) C dL_addMason_8 rfl ?_
      refine pw_last (q := 10) C dL_addMason_9 ((hF1.2 t ht hd).trans hT) (vp_in_n (by decide) (by decide)) rfl ?_
      refine pw_goto (q := 0) 21 C dL_addMason_10 (by decide) ?_
      refine pw_iconst_n (q := 22) C 0 dL_addMason_21 (by decide +kernel) rfl ?_
      exact pw_iret C dL_addMason_22 rfl ⟨by omega, by omega⟩ (QL.ok h0 hX1 hF1 hd)
    · rw [if_neg h0] at ho
      cases ho
  · obtain ⟨hX1, hF1, ho⟩ := e
    by_cases h0 : r.1 = 0
    · rw [if_pos h0] at ho
      cases ho
    · rw [if_neg h0] at ho
      have hE := Sum.inr.inj ho
      clear ho
      have hE2 : E1 = (EX xA xS xS) r.1 := hE
      subst hE2
      rcases (show r.1 = 1 ∨ r.1 = 2 by omega) with h1 | h1
      · rw [show (EX xA xS xS) r.1 = xA by rw [h1]; rfl]
        refine px_catchN C hN [] ⟨0, 10, 13, 13⟩ [⟨0, 10, 17, 15⟩] rfl (fun z hz => absurd hz List.not_mem_nil) (by decide) (by decide) clL_13 ca_IllegalArgumentException (fun q9 => ?_)
        show PW Γ G _ 13 _ _ _ _ _
        refine pw_astore (q := 15) C dL_addMason_13 rfl (by decide) rfl ?_
        refine pw_iconst_n (q := 16) C 1 dL_addMason_15 (by decide +kernel) rfl ?_
        exact pw_iret C dL_addMason_16 rfl ⟨by omega, by omega⟩ (QL.exc 0 h1 hX1 hF1 ht hd hT)
      · rw [show (EX xA xS xS) r.1 = xS by rw [h1]; rfl]
        refine px_catchN C hN [⟨0, 10, 13, 13⟩] ⟨0, 10, 17, 15⟩ [] rfl (fun z hz => by
          simp only [List.mem_cons, List.not_mem_nil, or_false] at hz
          subst hz
          exact ⟨by decide, xA, clL_13, fun s h => h.1⟩) (by decide) (by decide) clL_15 ca_IllegalStateException (fun q9 => ?_)
        show PW Γ G _ 17 _ _ _ _ _
        refine pw_astore (q := 19) C dL_addMason_17 rfl (by decide) rfl ?_
        refine pw_iconst_n (q := 20) C 2 dL_addMason_19 (by decide +kernel) rfl ?_
        exact pw_iret C dL_addMason_20 rfl ⟨by omega, by omega⟩ (QL.exc 1 h1 hX1 hF1 ht hd hT)
set_option maxHeartbeats 200000 in
set_option maxRecDepth 100000 in
theorem l_setRate {M : PH} {x t : Nat} {r : RS} {fs : List Value} {f : Nat → Int64} {c1 : Int32} {c2 : Int32} (hp : Run iX10_setRate [.ref x, .int c1, .int c2] M 2 12 (QX M x (EX xB xA xA) r)) (hk : r.1 ≤ 2) (hx : M.2 x = some (.inr (7, fs))) (ht : t < M.1) (hd : t < x ∨ x + 137 ≤ t) (hT : M.2 t = some (.inl (3, 1, .inr (.inl f)))) : RunN iL_setRate hL_setRate [.ref x, .int c1, .int c2, .ref t] M 2 12 (QL M x t r) := by
  refine RunN.of (l0 := [some (.ref x), some (.int c1), some (.int c2), some (.ref t), none]) (by decide +kernel) (Nat.le_of_ble_eq_true rfl) (by rfl) (fun Γ G C hN => ?_)
  refine pw_aload_n (q := 1) (j := 3) C dL_setRate_0 rfl rfl rfl ?_
  refine pw_iconst_n (q := 2) C 0 dL_setRate_1 (by decide +kernel) rfl ?_
  refine pw_aload_n (q := 3) (j := 0) C dL_setRate_2 rfl rfl rfl ?_
  refine pw_iload_n (q := 4) (j := 1) C dL_setRate_3 rfl rfl rfl ?_
  refine pw_iload_n (q := 5) (j := 2) C dL_setRate_4 rfl rfl rfl ?_
  refine pw_any (cr_v (j := iX10_setRate) C dL_setRate_5 lL_46 mX10_setRate (ro_mk (by decide) (by decide)) hx rfl hp rfl rfl (Nat.le_of_ble_eq_true rfl) ⟨by omega, by omega⟩) rfl (fun v M1 e => ?_) (fun E1 M1 e => ?_)
  · obtain ⟨hX1, hF1, ho⟩ := e
    by_cases h0 : r.1 = 0
    · rw [if_pos h0] at ho
      have hv := Sum.inl.inj ho
      subst hv
      refine pw_i2l (q := 9) C dL_setRate_8 rfl ?_
      refine pw_last (q := 10) C dL_setRate_9 ((hF1.2 t ht hd).trans hT) (vp_in_n (by decide) (by decide)) rfl ?_
      refine pw_goto (q := 0) 21 C dL_setRate_10 (by decide) ?_
      refine pw_iconst_n (q := 22) C 0 dL_setRate_21 (by decide +kernel) rfl ?_
      exact pw_iret C dL_setRate_22 rfl ⟨by omega, by omega⟩ (QL.ok h0 hX1 hF1 hd)
    · rw [if_neg h0] at ho
      cases ho
  · obtain ⟨hX1, hF1, ho⟩ := e
    by_cases h0 : r.1 = 0
    · rw [if_pos h0] at ho
      cases ho
    · rw [if_neg h0] at ho
      have hE := Sum.inr.inj ho
      clear ho
      have hE2 : E1 = (EX xB xA xA) r.1 := hE
      subst hE2
      rcases (show r.1 = 1 ∨ r.1 = 2 by omega) with h1 | h1
      · rw [show (EX xB xA xA) r.1 = xB by rw [h1]; rfl]
        refine px_catchN C hN [] ⟨0, 10, 13, 28⟩ [⟨0, 10, 17, 13⟩] rfl (fun z hz => absurd hz List.not_mem_nil) (by decide) (by decide) clL_28 ca_IndexOutOfBoundsException (fun q9 => ?_)
        show PW Γ G _ 13 _ _ _ _ _
        refine pw_astore (q := 15) C dL_setRate_13 rfl (by decide) rfl ?_
        refine pw_iconst_n (q := 16) C 1 dL_setRate_15 (by decide +kernel) rfl ?_
        exact pw_iret C dL_setRate_16 rfl ⟨by omega, by omega⟩ (QL.exc 0 h1 hX1 hF1 ht hd hT)
      · rw [show (EX xB xA xA) r.1 = xA by rw [h1]; rfl]
        refine px_catchN C hN [⟨0, 10, 13, 28⟩] ⟨0, 10, 17, 13⟩ [] rfl (fun z hz => by
          simp only [List.mem_cons, List.not_mem_nil, or_false] at hz
          subst hz
          exact ⟨by decide, xB, clL_28, fun s h => h.2.1⟩) (by decide) (by decide) clL_13 ca_IllegalArgumentException (fun q9 => ?_)
        show PW Γ G _ 17 _ _ _ _ _
        refine pw_astore (q := 19) C dL_setRate_17 rfl (by decide) rfl ?_
        refine pw_iconst_n (q := 20) C 2 dL_setRate_19 (by decide +kernel) rfl ?_
        exact pw_iret C dL_setRate_20 rfl ⟨by omega, by omega⟩ (QL.exc 1 h1 hX1 hF1 ht hd hT)
set_option maxHeartbeats 200000 in
set_option maxRecDepth 100000 in
theorem l_setBound {M : PH} {x t : Nat} {r : RS} {fs : List Value} {f : Nat → Int64} {c1 : Int32} (hp : Run iX10_setBound [.ref x, .int c1] M 2 12 (QX M x (EX xA xA xA) r)) (hk : r.1 ≤ 1) (hx : M.2 x = some (.inr (7, fs))) (ht : t < M.1) (hd : t < x ∨ x + 137 ≤ t) (hT : M.2 t = some (.inl (3, 1, .inr (.inl f)))) : RunN iL_setBound hL_setBound [.ref x, .int c1, .ref t] M 2 12 (QL M x t r) := by
  refine RunN.of (l0 := [some (.ref x), some (.int c1), some (.ref t), none]) (by decide +kernel) (Nat.le_of_ble_eq_true rfl) (by rfl) (fun Γ G C hN => ?_)
  refine pw_aload_n (q := 1) (j := 2) C dL_setBound_0 rfl rfl rfl ?_
  refine pw_iconst_n (q := 2) C 0 dL_setBound_1 (by decide +kernel) rfl ?_
  refine pw_aload_n (q := 3) (j := 0) C dL_setBound_2 rfl rfl rfl ?_
  refine pw_iload_n (q := 4) (j := 1) C dL_setBound_3 rfl rfl rfl ?_
  refine pw_any (cr_v (j := iX10_setBound) C dL_setBound_4 lL_49 mX10_setBound (ro_mk (by decide) (by decide)) hx rfl hp rfl rfl (Nat.le_of_ble_eq_true rfl) ⟨by omega, by omega⟩) rfl (fun v M1 e => ?_) (fun E1 M1 e => ?_)
  · obtain ⟨hX1, hF1, ho⟩ := e
    by_cases h0 : r.1 = 0
    · rw [if_pos h0] at ho
      have hv := Sum.inl.inj ho
      subst hv
      refine pw_i2l (q := 8) C dL_setBound_7 rfl ?_
      refine pw_last (q := 9) C dL_setBound_8 ((hF1.2 t ht hd).trans hT) (vp_in_n (by decide) (by decide)) rfl ?_
      refine pw_goto (q := 0) 15 C dL_setBound_9 (by decide) ?_
      refine pw_iconst_n (q := 16) C 0 dL_setBound_15 (by decide +kernel) rfl ?_
      exact pw_iret C dL_setBound_16 rfl ⟨by omega, by omega⟩ (QL.ok h0 hX1 hF1 hd)
    · rw [if_neg h0] at ho
      cases ho
  · obtain ⟨hX1, hF1, ho⟩ := e
    by_cases h0 : r.1 = 0
    · rw [if_pos h0] at ho
      cases ho
    · rw [if_neg h0] at ho
      have hE := Sum.inr.inj ho
      clear ho
      have hE2 : E1 = (EX xA xA xA) r.1 := hE
      subst hE2
      have h1 : r.1 = 1 := by omega
      rw [show (EX xA xA xA) r.1 = xA by rw [h1]; rfl]
      refine px_catchN C hN [] ⟨0, 9, 12, 13⟩ [] rfl (fun z hz => absurd hz List.not_mem_nil) (by decide) (by decide) clL_13 ca_IllegalArgumentException (fun q9 => ?_)
      show PW Γ G _ 12 _ _ _ _ _
      refine pw_astore_n (q := 13) (j := 3) C dL_setBound_12 rfl rfl (by decide) rfl ?_
      refine pw_iconst_n (q := 14) C 1 dL_setBound_13 (by decide +kernel) rfl ?_
      exact pw_iret C dL_setBound_14 rfl ⟨by omega, by omega⟩ (QL.exc 0 h1 hX1 hF1 ht hd hT)
set_option maxHeartbeats 200000 in
set_option maxRecDepth 100000 in
theorem l_cut {M : PH} {x t : Nat} {r : RS} {fs : List Value} {f : Nat → Int64} {c1 : Int32} {c2 : Int32} {c3 : Int32} (hp : Run iX10_cut [.ref x, .int c1, .int c2, .int c3] M 2 12 (QX M x (EX xB xA xS) r)) (hk : r.1 ≤ 3) (hx : M.2 x = some (.inr (7, fs))) (ht : t < M.1) (hd : t < x ∨ x + 137 ≤ t) (hT : M.2 t = some (.inl (3, 1, .inr (.inl f)))) : RunN iL_cut hL_cut [.ref x, .int c1, .int c2, .int c3, .ref t] M 2 12 (QL M x t r) := by
  refine RunN.of (l0 := [some (.ref x), some (.int c1), some (.int c2), some (.int c3), some (.ref t), none]) (by decide +kernel) (Nat.le_of_ble_eq_true rfl) (by rfl) (fun Γ G C hN => ?_)
  refine pw_aload (q := 2) C dL_cut_0 rfl rfl ?_
  refine pw_iconst_n (q := 3) C 0 dL_cut_2 (by decide +kernel) rfl ?_
  refine pw_aload_n (q := 4) (j := 0) C dL_cut_3 rfl rfl rfl ?_
  refine pw_iload_n (q := 5) (j := 1) C dL_cut_4 rfl rfl rfl ?_
  refine pw_iload_n (q := 6) (j := 2) C dL_cut_5 rfl rfl rfl ?_
  refine pw_iload_n (q := 7) (j := 3) C dL_cut_6 rfl rfl rfl ?_
  refine pw_any (cr_v (j := iX10_cut) C dL_cut_7 lL_52 mX10_cut (ro_mk (by decide) (by decide)) hx rfl hp rfl rfl (Nat.le_of_ble_eq_true rfl) ⟨by omega, by omega⟩) rfl (fun v M1 e => ?_) (fun E1 M1 e => ?_)
  · obtain ⟨hX1, hF1, ho⟩ := e
    by_cases h0 : r.1 = 0
    · rw [if_pos h0] at ho
      have hv := Sum.inl.inj ho
      subst hv
      refine pw_i2l (q := 11) C dL_cut_10 rfl ?_
      refine pw_last (q := 12) C dL_cut_11 ((hF1.2 t ht hd).trans hT) (vp_in_n (by decide) (by decide)) rfl ?_
      refine pw_goto (q := 0) 27 C dL_cut_12 (by decide) ?_
      refine pw_iconst_n (q := 28) C 0 dL_cut_27 (by decide +kernel) rfl ?_
      exact pw_iret C dL_cut_28 rfl ⟨by omega, by omega⟩ (QL.ok h0 hX1 hF1 hd)
    · rw [if_neg h0] at ho
      cases ho
  · obtain ⟨hX1, hF1, ho⟩ := e
    by_cases h0 : r.1 = 0
    · rw [if_pos h0] at ho
      cases ho
    · rw [if_neg h0] at ho
      have hE := Sum.inr.inj ho
      clear ho
      have hE2 : E1 = (EX xB xA xS) r.1 := hE
      subst hE2
      rcases (show r.1 = 1 ∨ r.1 = 2 ∨ r.1 = 3 by omega) with h1 | h1 | h1
      · rw [show (EX xB xA xS) r.1 = xB by rw [h1]; rfl]
        refine px_catchN C hN [] ⟨0, 12, 15, 28⟩ [⟨0, 12, 19, 13⟩, ⟨0, 12, 23, 15⟩] rfl (fun z hz => absurd hz List.not_mem_nil) (by decide) (by decide) clL_28 ca_IndexOutOfBoundsException (fun q9 => ?_)
        show PW Γ G _ 15 _ _ _ _ _
        refine pw_astore (q := 17) C dL_cut_15 rfl (by decide) rfl ?_
        refine pw_iconst_n (q := 18) C 1 dL_cut_17 (by decide +kernel) rfl ?_
        exact pw_iret C dL_cut_18 rfl ⟨by omega, by omega⟩ (QL.exc 0 h1 hX1 hF1 ht hd hT)
      · rw [show (EX xB xA xS) r.1 = xA by rw [h1]; rfl]
        refine px_catchN C hN [⟨0, 12, 15, 28⟩] ⟨0, 12, 19, 13⟩ [⟨0, 12, 23, 15⟩] rfl (fun z hz => by
          simp only [List.mem_cons, List.not_mem_nil, or_false] at hz
          subst hz
          exact ⟨by decide, xB, clL_28, fun s h => h.2.1⟩) (by decide) (by decide) clL_13 ca_IllegalArgumentException (fun q9 => ?_)
        show PW Γ G _ 19 _ _ _ _ _
        refine pw_astore (q := 21) C dL_cut_19 rfl (by decide) rfl ?_
        refine pw_iconst_n (q := 22) C 2 dL_cut_21 (by decide +kernel) rfl ?_
        exact pw_iret C dL_cut_22 rfl ⟨by omega, by omega⟩ (QL.exc 1 h1 hX1 hF1 ht hd hT)
      · rw [show (EX xB xA xS) r.1 = xS by rw [h1]; rfl]
        refine px_catchN C hN [⟨0, 12, 15, 28⟩, ⟨0, 12, 19, 13⟩] ⟨0, 12, 23, 15⟩ [] rfl (fun z hz => by
          simp only [List.mem_cons, List.not_mem_nil, or_false] at hz
          rcases hz with rfl | rfl
          · exact ⟨by decide, xB, clL_28, fun s h => h.2.2⟩
          · exact ⟨by decide, xA, clL_13, fun s h => h.1⟩) (by decide) (by decide) clL_15 ca_IllegalStateException (fun q9 => ?_)
        show PW Γ G _ 23 _ _ _ _ _
        refine pw_astore (q := 25) C dL_cut_23 rfl (by decide) rfl ?_
        refine pw_iconst_n (q := 26) C 3 dL_cut_25 (by decide +kernel) rfl ?_
        exact pw_iret C dL_cut_26 rfl ⟨by omega, by omega⟩ (QL.exc 2 h1 hX1 hF1 ht hd hT)
set_option maxHeartbeats 200000 in
set_option maxRecDepth 100000 in
theorem l_inspect {M : PH} {x t : Nat} {r : RS} {fs : List Value} {f : Nat → Int64} {c1 : Int32} (hp : Run iX10_inspect [.ref x, .int c1] M 2 12 (QX M x (EX xB xS xS) r)) (hk : r.1 ≤ 2) (hx : M.2 x = some (.inr (7, fs))) (ht : t < M.1) (hd : t < x ∨ x + 137 ≤ t) (hT : M.2 t = some (.inl (3, 1, .inr (.inl f)))) : RunN iL_inspect hL_inspect [.ref x, .int c1, .ref t] M 2 12 (QL M x t r) := by
  refine RunN.of (l0 := [some (.ref x), some (.int c1), some (.ref t), none]) (by decide +kernel) (Nat.le_of_ble_eq_true rfl) (by rfl) (fun Γ G C hN => ?_)
  refine pw_aload_n (q := 1) (j := 2) C dL_inspect_0 rfl rfl rfl ?_
  refine pw_iconst_n (q := 2) C 0 dL_inspect_1 (by decide +kernel) rfl ?_
  refine pw_aload_n (q := 3) (j := 0) C dL_inspect_2 rfl rfl rfl ?_
  refine pw_iload_n (q := 4) (j := 1) C dL_inspect_3 rfl rfl rfl ?_
  refine pw_any (cr_v (j := iX10_inspect) C dL_inspect_4 lL_55 mX10_inspect (ro_mk (by decide) (by decide)) hx rfl hp rfl rfl (Nat.le_of_ble_eq_true rfl) ⟨by omega, by omega⟩) rfl (fun v M1 e => ?_) (fun E1 M1 e => ?_)
  · obtain ⟨hX1, hF1, ho⟩ := e
    by_cases h0 : r.1 = 0
    · rw [if_pos h0] at ho
      have hv := Sum.inl.inj ho
      subst hv
      refine pw_i2l (q := 8) C dL_inspect_7 rfl ?_
      refine pw_last (q := 9) C dL_inspect_8 ((hF1.2 t ht hd).trans hT) (vp_in_n (by decide) (by decide)) rfl ?_
      refine pw_goto (q := 0) 18 C dL_inspect_9 (by decide) ?_
      refine pw_iconst_n (q := 19) C 0 dL_inspect_18 (by decide +kernel) rfl ?_
      exact pw_iret C dL_inspect_19 rfl ⟨by omega, by omega⟩ (QL.ok h0 hX1 hF1 hd)
    · rw [if_neg h0] at ho
      cases ho
  · obtain ⟨hX1, hF1, ho⟩ := e
    by_cases h0 : r.1 = 0
    · rw [if_pos h0] at ho
      cases ho
    · rw [if_neg h0] at ho
      have hE := Sum.inr.inj ho
      clear ho
      have hE2 : E1 = (EX xB xS xS) r.1 := hE
      subst hE2
      rcases (show r.1 = 1 ∨ r.1 = 2 by omega) with h1 | h1
      · rw [show (EX xB xS xS) r.1 = xB by rw [h1]; rfl]
        refine px_catchN C hN [] ⟨0, 9, 12, 28⟩ [⟨0, 9, 15, 15⟩] rfl (fun z hz => absurd hz List.not_mem_nil) (by decide) (by decide) clL_28 ca_IndexOutOfBoundsException (fun q9 => ?_)
        show PW Γ G _ 12 _ _ _ _ _
        refine pw_astore_n (q := 13) (j := 3) C dL_inspect_12 rfl rfl (by decide) rfl ?_
        refine pw_iconst_n (q := 14) C 1 dL_inspect_13 (by decide +kernel) rfl ?_
        exact pw_iret C dL_inspect_14 rfl ⟨by omega, by omega⟩ (QL.exc 0 h1 hX1 hF1 ht hd hT)
      · rw [show (EX xB xS xS) r.1 = xS by rw [h1]; rfl]
        refine px_catchN C hN [⟨0, 9, 12, 28⟩] ⟨0, 9, 15, 15⟩ [] rfl (fun z hz => by
          simp only [List.mem_cons, List.not_mem_nil, or_false] at hz
          subst hz
          exact ⟨by decide, xB, clL_28, fun s h => h.2.2⟩) (by decide) (by decide) clL_15 ca_IllegalStateException (fun q9 => ?_)
        show PW Γ G _ 15 _ _ _ _ _
        refine pw_astore_n (q := 16) (j := 3) C dL_inspect_15 rfl rfl (by decide) rfl ?_
        refine pw_iconst_n (q := 17) C 2 dL_inspect_16 (by decide +kernel) rfl ?_
        exact pw_iret C dL_inspect_17 rfl ⟨by omega, by omega⟩ (QL.exc 1 h1 hX1 hF1 ht hd hT)
set_option maxHeartbeats 200000 in
set_option maxRecDepth 100000 in
theorem l_recut {M : PH} {x t : Nat} {r : RS} {fs : List Value} {f : Nat → Int64} {c1 : Int32} {c2 : Int32} {c3 : Int32} (hp : Run iX10_recut [.ref x, .int c1, .int c2, .int c3] M 2 12 (QX M x (EX xB xS xS) r)) (hk : r.1 ≤ 2) (hx : M.2 x = some (.inr (7, fs))) (ht : t < M.1) (hd : t < x ∨ x + 137 ≤ t) (hT : M.2 t = some (.inl (3, 1, .inr (.inl f)))) : RunN iL_recut hL_recut [.ref x, .int c1, .int c2, .int c3, .ref t] M 2 12 (QL M x t r) := by
  refine RunN.of (l0 := [some (.ref x), some (.int c1), some (.int c2), some (.int c3), some (.ref t), none]) (by decide +kernel) (Nat.le_of_ble_eq_true rfl) (by rfl) (fun Γ G C hN => ?_)
  refine pw_aload (q := 2) C dL_recut_0 rfl rfl ?_
  refine pw_iconst_n (q := 3) C 0 dL_recut_2 (by decide +kernel) rfl ?_
  refine pw_aload_n (q := 4) (j := 0) C dL_recut_3 rfl rfl rfl ?_
  refine pw_iload_n (q := 5) (j := 1) C dL_recut_4 rfl rfl rfl ?_
  refine pw_iload_n (q := 6) (j := 2) C dL_recut_5 rfl rfl rfl ?_
  refine pw_iload_n (q := 7) (j := 3) C dL_recut_6 rfl rfl rfl ?_
  refine pw_any (cr_v (j := iX10_recut) C dL_recut_7 lL_58 mX10_recut (ro_mk (by decide) (by decide)) hx rfl hp rfl rfl (Nat.le_of_ble_eq_true rfl) ⟨by omega, by omega⟩) rfl (fun v M1 e => ?_) (fun E1 M1 e => ?_)
  · obtain ⟨hX1, hF1, ho⟩ := e
    by_cases h0 : r.1 = 0
    · rw [if_pos h0] at ho
      have hv := Sum.inl.inj ho
      subst hv
      refine pw_i2l (q := 11) C dL_recut_10 rfl ?_
      refine pw_last (q := 12) C dL_recut_11 ((hF1.2 t ht hd).trans hT) (vp_in_n (by decide) (by decide)) rfl ?_
      refine pw_goto (q := 0) 23 C dL_recut_12 (by decide) ?_
      refine pw_iconst_n (q := 24) C 0 dL_recut_23 (by decide +kernel) rfl ?_
      exact pw_iret C dL_recut_24 rfl ⟨by omega, by omega⟩ (QL.ok h0 hX1 hF1 hd)
    · rw [if_neg h0] at ho
      cases ho
  · obtain ⟨hX1, hF1, ho⟩ := e
    by_cases h0 : r.1 = 0
    · rw [if_pos h0] at ho
      cases ho
    · rw [if_neg h0] at ho
      have hE := Sum.inr.inj ho
      clear ho
      have hE2 : E1 = (EX xB xS xS) r.1 := hE
      subst hE2
      rcases (show r.1 = 1 ∨ r.1 = 2 by omega) with h1 | h1
      · rw [show (EX xB xS xS) r.1 = xB by rw [h1]; rfl]
        refine px_catchN C hN [] ⟨0, 12, 15, 28⟩ [⟨0, 12, 19, 15⟩] rfl (fun z hz => absurd hz List.not_mem_nil) (by decide) (by decide) clL_28 ca_IndexOutOfBoundsException (fun q9 => ?_)
        show PW Γ G _ 15 _ _ _ _ _
        refine pw_astore (q := 17) C dL_recut_15 rfl (by decide) rfl ?_
        refine pw_iconst_n (q := 18) C 1 dL_recut_17 (by decide +kernel) rfl ?_
        exact pw_iret C dL_recut_18 rfl ⟨by omega, by omega⟩ (QL.exc 0 h1 hX1 hF1 ht hd hT)
      · rw [show (EX xB xS xS) r.1 = xS by rw [h1]; rfl]
        refine px_catchN C hN [⟨0, 12, 15, 28⟩] ⟨0, 12, 19, 15⟩ [] rfl (fun z hz => by
          simp only [List.mem_cons, List.not_mem_nil, or_false] at hz
          subst hz
          exact ⟨by decide, xB, clL_28, fun s h => h.2.2⟩) (by decide) (by decide) clL_15 ca_IllegalStateException (fun q9 => ?_)
        show PW Γ G _ 19 _ _ _ _ _
        refine pw_astore (q := 21) C dL_recut_19 rfl (by decide) rfl ?_
        refine pw_iconst_n (q := 22) C 2 dL_recut_21 (by decide +kernel) rfl ?_
        exact pw_iret C dL_recut_22 rfl ⟨by omega, by omega⟩ (QL.exc 1 h1 hX1 hF1 ht hd hT)
set_option maxHeartbeats 200000 in
set_option maxRecDepth 100000 in
theorem l_scrap {M : PH} {x t : Nat} {r : RS} {fs : List Value} {f : Nat → Int64} {c1 : Int32} (hp : Run iX10_scrap [.ref x, .int c1] M 2 12 (QX M x (EX xB xS xS) r)) (hk : r.1 ≤ 2) (hx : M.2 x = some (.inr (7, fs))) (ht : t < M.1) (hd : t < x ∨ x + 137 ≤ t) (hT : M.2 t = some (.inl (3, 1, .inr (.inl f)))) : RunN iL_scrap hL_scrap [.ref x, .int c1, .ref t] M 2 12 (QL M x t r) := by
  refine RunN.of (l0 := [some (.ref x), some (.int c1), some (.ref t), none]) (by decide +kernel) (Nat.le_of_ble_eq_true rfl) (by rfl) (fun Γ G C hN => ?_)
  refine pw_aload_n (q := 1) (j := 2) C dL_scrap_0 rfl rfl rfl ?_
  refine pw_iconst_n (q := 2) C 0 dL_scrap_1 (by decide +kernel) rfl ?_
  refine pw_aload_n (q := 3) (j := 0) C dL_scrap_2 rfl rfl rfl ?_
  refine pw_iload_n (q := 4) (j := 1) C dL_scrap_3 rfl rfl rfl ?_
  refine pw_any (cr_v (j := iX10_scrap) C dL_scrap_4 lL_61 mX10_scrap (ro_mk (by decide) (by decide)) hx rfl hp rfl rfl (Nat.le_of_ble_eq_true rfl) ⟨by omega, by omega⟩) rfl (fun v M1 e => ?_) (fun E1 M1 e => ?_)
  · obtain ⟨hX1, hF1, ho⟩ := e
    by_cases h0 : r.1 = 0
    · rw [if_pos h0] at ho
      have hv := Sum.inl.inj ho
      subst hv
      refine pw_i2l (q := 8) C dL_scrap_7 rfl ?_
      refine pw_last (q := 9) C dL_scrap_8 ((hF1.2 t ht hd).trans hT) (vp_in_n (by decide) (by decide)) rfl ?_
      refine pw_goto (q := 0) 18 C dL_scrap_9 (by decide) ?_
      refine pw_iconst_n (q := 19) C 0 dL_scrap_18 (by decide +kernel) rfl ?_
      exact pw_iret C dL_scrap_19 rfl ⟨by omega, by omega⟩ (QL.ok h0 hX1 hF1 hd)
    · rw [if_neg h0] at ho
      cases ho
  · obtain ⟨hX1, hF1, ho⟩ := e
    by_cases h0 : r.1 = 0
    · rw [if_pos h0] at ho
      cases ho
    · rw [if_neg h0] at ho
      have hE := Sum.inr.inj ho
      clear ho
      have hE2 : E1 = (EX xB xS xS) r.1 := hE
      subst hE2
      rcases (show r.1 = 1 ∨ r.1 = 2 by omega) with h1 | h1
      · rw [show (EX xB xS xS) r.1 = xB by rw [h1]; rfl]
        refine px_catchN C hN [] ⟨0, 9, 12, 28⟩ [⟨0, 9, 15, 15⟩] rfl (fun z hz => absurd hz List.not_mem_nil) (by decide) (by decide) clL_28 ca_IndexOutOfBoundsException (fun q9 => ?_)
        show PW Γ G _ 12 _ _ _ _ _
        refine pw_astore_n (q := 13) (j := 3) C dL_scrap_12 rfl rfl (by decide) rfl ?_
        refine pw_iconst_n (q := 14) C 1 dL_scrap_13 (by decide +kernel) rfl ?_
        exact pw_iret C dL_scrap_14 rfl ⟨by omega, by omega⟩ (QL.exc 0 h1 hX1 hF1 ht hd hT)
      · rw [show (EX xB xS xS) r.1 = xS by rw [h1]; rfl]
        refine px_catchN C hN [⟨0, 9, 12, 28⟩] ⟨0, 9, 15, 15⟩ [] rfl (fun z hz => by
          simp only [List.mem_cons, List.not_mem_nil, or_false] at hz
          subst hz
          exact ⟨by decide, xB, clL_28, fun s h => h.2.2⟩) (by decide) (by decide) clL_15 ca_IllegalStateException (fun q9 => ?_)
        show PW Γ G _ 15 _ _ _ _ _
        refine pw_astore_n (q := 16) (j := 3) C dL_scrap_15 rfl rfl (by decide) rfl ?_
        refine pw_iconst_n (q := 17) C 2 dL_scrap_16 (by decide +kernel) rfl ?_
        exact pw_iret C dL_scrap_17 rfl ⟨by omega, by omega⟩ (QL.exc 1 h1 hX1 hF1 ht hd hT)
set_option maxHeartbeats 200000 in
set_option maxRecDepth 100000 in
theorem l_set {M : PH} {x t : Nat} {r : RS} {fs : List Value} {f : Nat → Int64} {c1 : Int32} (hp : Run iX10_set [.ref x, .int c1] M 2 12 (QX M x (EX xB xS xS) r)) (hk : r.1 ≤ 2) (hx : M.2 x = some (.inr (7, fs))) (ht : t < M.1) (hd : t < x ∨ x + 137 ≤ t) (hT : M.2 t = some (.inl (3, 1, .inr (.inl f)))) : RunN iL_set hL_set [.ref x, .int c1, .ref t] M 2 12 (QL M x t r) := by
  refine RunN.of (l0 := [some (.ref x), some (.int c1), some (.ref t), none]) (by decide +kernel) (Nat.le_of_ble_eq_true rfl) (by rfl) (fun Γ G C hN => ?_)
  refine pw_aload_n (q := 1) (j := 2) C dL_set_0 rfl rfl rfl ?_
  refine pw_iconst_n (q := 2) C 0 dL_set_1 (by decide +kernel) rfl ?_
  refine pw_aload_n (q := 3) (j := 0) C dL_set_2 rfl rfl rfl ?_
  refine pw_iload_n (q := 4) (j := 1) C dL_set_3 rfl rfl rfl ?_
  refine pw_any (cr_v (j := iX10_set) C dL_set_4 lL_64 mX10_set (ro_mk (by decide) (by decide)) hx rfl hp rfl rfl (Nat.le_of_ble_eq_true rfl) ⟨by omega, by omega⟩) rfl (fun v M1 e => ?_) (fun E1 M1 e => ?_)
  · obtain ⟨hX1, hF1, ho⟩ := e
    by_cases h0 : r.1 = 0
    · rw [if_pos h0] at ho
      have hv := Sum.inl.inj ho
      subst hv
      refine pw_i2l (q := 8) C dL_set_7 rfl ?_
      refine pw_last (q := 9) C dL_set_8 ((hF1.2 t ht hd).trans hT) (vp_in_n (by decide) (by decide)) rfl ?_
      refine pw_goto (q := 0) 18 C dL_set_9 (by decide) ?_
      refine pw_iconst_n (q := 19) C 0 dL_set_18 (by decide +kernel) rfl ?_
      exact pw_iret C dL_set_19 rfl ⟨by omega, by omega⟩ (QL.ok h0 hX1 hF1 hd)
    · rw [if_neg h0] at ho
      cases ho
  · obtain ⟨hX1, hF1, ho⟩ := e
    by_cases h0 : r.1 = 0
    · rw [if_pos h0] at ho
      cases ho
    · rw [if_neg h0] at ho
      have hE := Sum.inr.inj ho
      clear ho
      have hE2 : E1 = (EX xB xS xS) r.1 := hE
      subst hE2
      rcases (show r.1 = 1 ∨ r.1 = 2 by omega) with h1 | h1
      · rw [show (EX xB xS xS) r.1 = xB by rw [h1]; rfl]
        refine px_catchN C hN [] ⟨0, 9, 12, 28⟩ [⟨0, 9, 15, 15⟩] rfl (fun z hz => absurd hz List.not_mem_nil) (by decide) (by decide) clL_28 ca_IndexOutOfBoundsException (fun q9 => ?_)
        show PW Γ G _ 12 _ _ _ _ _
        refine pw_astore_n (q := 13) (j := 3) C dL_set_12 rfl rfl (by decide) rfl ?_
        refine pw_iconst_n (q := 14) C 1 dL_set_13 (by decide +kernel) rfl ?_
        exact pw_iret C dL_set_14 rfl ⟨by omega, by omega⟩ (QL.exc 0 h1 hX1 hF1 ht hd hT)
      · rw [show (EX xB xS xS) r.1 = xS by rw [h1]; rfl]
        refine px_catchN C hN [⟨0, 9, 12, 28⟩] ⟨0, 9, 15, 15⟩ [] rfl (fun z hz => by
          simp only [List.mem_cons, List.not_mem_nil, or_false] at hz
          subst hz
          exact ⟨by decide, xB, clL_28, fun s h => h.2.2⟩) (by decide) (by decide) clL_15 ca_IllegalStateException (fun q9 => ?_)
        show PW Γ G _ 15 _ _ _ _ _
        refine pw_astore_n (q := 16) (j := 3) C dL_set_15 rfl rfl (by decide) rfl ?_
        refine pw_iconst_n (q := 17) C 2 dL_set_16 (by decide +kernel) rfl ?_
        exact pw_iret C dL_set_17 rfl ⟨by omega, by omega⟩ (QL.exc 1 h1 hX1 hF1 ht hd hT)
set_option maxHeartbeats 200000 in
set_option maxRecDepth 100000 in
theorem l_undo {M : PH} {x t : Nat} {r : RS} {fs : List Value} {f : Nat → Int64} (hp : Run iX10_undo [.ref x] M 2 12 (QX M x (EX xS xS xS) r)) (hk : r.1 ≤ 1) (hx : M.2 x = some (.inr (7, fs))) (ht : t < M.1) (hd : t < x ∨ x + 137 ≤ t) (hT : M.2 t = some (.inl (3, 1, .inr (.inl f)))) : RunN iL_undo hL_undo [.ref x, .ref t] M 2 12 (QL M x t r) := by
  refine RunN.of (l0 := [some (.ref x), some (.ref t), none]) (by decide +kernel) (Nat.le_of_ble_eq_true rfl) (by rfl) (fun Γ G C hN => ?_)
  refine pw_aload_n (q := 1) (j := 1) C dL_undo_0 rfl rfl rfl ?_
  refine pw_iconst_n (q := 2) C 0 dL_undo_1 (by decide +kernel) rfl ?_
  refine pw_aload_n (q := 3) (j := 0) C dL_undo_2 rfl rfl rfl ?_
  refine pw_any (cr_v (j := iX10_undo) C dL_undo_3 lL_67 mX10_undo (ro_mk (by decide) (by decide)) hx rfl hp rfl rfl (Nat.le_of_ble_eq_true rfl) ⟨by omega, by omega⟩) rfl (fun v M1 e => ?_) (fun E1 M1 e => ?_)
  · obtain ⟨hX1, hF1, ho⟩ := e
    by_cases h0 : r.1 = 0
    · rw [if_pos h0] at ho
      have hv := Sum.inl.inj ho
      subst hv
      refine pw_i2l (q := 7) C dL_undo_6 rfl ?_
      refine pw_last (q := 8) C dL_undo_7 ((hF1.2 t ht hd).trans hT) (vp_in_n (by decide) (by decide)) rfl ?_
      refine pw_goto (q := 0) 14 C dL_undo_8 (by decide) ?_
      refine pw_iconst_n (q := 15) C 0 dL_undo_14 (by decide +kernel) rfl ?_
      exact pw_iret C dL_undo_15 rfl ⟨by omega, by omega⟩ (QL.ok h0 hX1 hF1 hd)
    · rw [if_neg h0] at ho
      cases ho
  · obtain ⟨hX1, hF1, ho⟩ := e
    by_cases h0 : r.1 = 0
    · rw [if_pos h0] at ho
      cases ho
    · rw [if_neg h0] at ho
      have hE := Sum.inr.inj ho
      clear ho
      have hE2 : E1 = (EX xS xS xS) r.1 := hE
      subst hE2
      have h1 : r.1 = 1 := by omega
      rw [show (EX xS xS xS) r.1 = xS by rw [h1]; rfl]
      refine px_catchN C hN [] ⟨0, 8, 11, 15⟩ [] rfl (fun z hz => absurd hz List.not_mem_nil) (by decide) (by decide) clL_15 ca_IllegalStateException (fun q9 => ?_)
      show PW Γ G _ 11 _ _ _ _ _
      refine pw_astore_n (q := 12) (j := 2) C dL_undo_11 rfl rfl (by decide) rfl ?_
      refine pw_iconst_n (q := 13) C 1 dL_undo_12 (by decide +kernel) rfl ?_
      exact pw_iret C dL_undo_13 rfl ⟨by omega, by omega⟩ (QL.exc 0 h1 hX1 hF1 ht hd hT)
set_option maxHeartbeats 200000 in
set_option maxRecDepth 100000 in
theorem l_recutFor {M : PH} {x t : Nat} {r : RS} {fs : List Value} {f : Nat → Int64} {c1 : Int32} (hp : Run iX10_recutFor [.ref x, .int c1] M 2 12 (QX M x (EX xB xB xB) r)) (hk : r.1 ≤ 1) (hx : M.2 x = some (.inr (7, fs))) (ht : t < M.1) (hd : t < x ∨ x + 137 ≤ t) (hT : M.2 t = some (.inl (3, 1, .inr (.inl f)))) : RunN iL_recutFor hL_recutFor [.ref x, .int c1, .ref t] M 2 12 (QL M x t r) := by
  refine RunN.of (l0 := [some (.ref x), some (.int c1), some (.ref t), none]) (by decide +kernel) (Nat.le_of_ble_eq_true rfl) (by rfl) (fun Γ G C hN => ?_)
  refine pw_aload_n (q := 1) (j := 2) C dL_recutFor_0 rfl rfl rfl ?_
  refine pw_iconst_n (q := 2) C 0 dL_recutFor_1 (by decide +kernel) rfl ?_
  refine pw_aload_n (q := 3) (j := 0) C dL_recutFor_2 rfl rfl rfl ?_
  refine pw_iload_n (q := 4) (j := 1) C dL_recutFor_3 rfl rfl rfl ?_
  refine pw_any (cr_v (j := iX10_recutFor) C dL_recutFor_4 lL_70 mX10_recutFor (ro_mk (by decide) (by decide)) hx rfl hp rfl rfl (Nat.le_of_ble_eq_true rfl) ⟨by omega, by omega⟩) rfl (fun v M1 e => ?_) (fun E1 M1 e => ?_)
  · obtain ⟨hX1, hF1, ho⟩ := e
    by_cases h0 : r.1 = 0
    · rw [if_pos h0] at ho
      have hv := Sum.inl.inj ho
      subst hv
      refine pw_i2l (q := 8) C dL_recutFor_7 rfl ?_
      refine pw_last (q := 9) C dL_recutFor_8 ((hF1.2 t ht hd).trans hT) (vp_in_n (by decide) (by decide)) rfl ?_
      refine pw_goto (q := 0) 15 C dL_recutFor_9 (by decide) ?_
      refine pw_iconst_n (q := 16) C 0 dL_recutFor_15 (by decide +kernel) rfl ?_
      exact pw_iret C dL_recutFor_16 rfl ⟨by omega, by omega⟩ (QL.ok h0 hX1 hF1 hd)
    · rw [if_neg h0] at ho
      cases ho
  · obtain ⟨hX1, hF1, ho⟩ := e
    by_cases h0 : r.1 = 0
    · rw [if_pos h0] at ho
      cases ho
    · rw [if_neg h0] at ho
      have hE := Sum.inr.inj ho
      clear ho
      have hE2 : E1 = (EX xB xB xB) r.1 := hE
      subst hE2
      have h1 : r.1 = 1 := by omega
      rw [show (EX xB xB xB) r.1 = xB by rw [h1]; rfl]
      refine px_catchN C hN [] ⟨0, 9, 12, 28⟩ [] rfl (fun z hz => absurd hz List.not_mem_nil) (by decide) (by decide) clL_28 ca_IndexOutOfBoundsException (fun q9 => ?_)
      show PW Γ G _ 12 _ _ _ _ _
      refine pw_astore_n (q := 13) (j := 3) C dL_recutFor_12 rfl rfl (by decide) rfl ?_
      refine pw_iconst_n (q := 14) C 1 dL_recutFor_13 (by decide +kernel) rfl ?_
      exact pw_iret C dL_recutFor_14 rfl ⟨by omega, by omega⟩ (QL.exc 0 h1 hX1 hF1 ht hd hT)
set_option maxHeartbeats 200000 in
set_option maxRecDepth 100000 in
theorem l_cheapest {M : PH} {x t : Nat} {r : RS} {fs : List Value} {f : Nat → Int64} {c1 : Int32} (hp : Run iX10_cheapest [.ref x, .int c1] M 2 12 (QX M x (EX xB xB xB) r)) (hk : r.1 ≤ 1) (hx : M.2 x = some (.inr (7, fs))) (ht : t < M.1) (hd : t < x ∨ x + 137 ≤ t) (hT : M.2 t = some (.inl (3, 1, .inr (.inl f)))) : RunN iL_cheapest hL_cheapest [.ref x, .int c1, .ref t] M 2 12 (QL M x t r) := by
  refine RunN.of (l0 := [some (.ref x), some (.int c1), some (.ref t), none]) (by decide +kernel) (Nat.le_of_ble_eq_true rfl) (by rfl) (fun Γ G C hN => ?_)
  refine pw_aload_n (q := 1) (j := 2) C dL_cheapest_0 rfl rfl rfl ?_
  refine pw_iconst_n (q := 2) C 0 dL_cheapest_1 (by decide +kernel) rfl ?_
  refine pw_aload_n (q := 3) (j := 0) C dL_cheapest_2 rfl rfl rfl ?_
  refine pw_iload_n (q := 4) (j := 1) C dL_cheapest_3 rfl rfl rfl ?_
  refine pw_any (cr_v (j := iX10_cheapest) C dL_cheapest_4 lL_73 mX10_cheapest (ro_mk (by decide) (by decide)) hx rfl hp rfl rfl (Nat.le_of_ble_eq_true rfl) ⟨by omega, by omega⟩) rfl (fun v M1 e => ?_) (fun E1 M1 e => ?_)
  · obtain ⟨hX1, hF1, ho⟩ := e
    by_cases h0 : r.1 = 0
    · rw [if_pos h0] at ho
      have hv := Sum.inl.inj ho
      subst hv
      refine pw_i2l (q := 8) C dL_cheapest_7 rfl ?_
      refine pw_last (q := 9) C dL_cheapest_8 ((hF1.2 t ht hd).trans hT) (vp_in_n (by decide) (by decide)) rfl ?_
      refine pw_goto (q := 0) 15 C dL_cheapest_9 (by decide) ?_
      refine pw_iconst_n (q := 16) C 0 dL_cheapest_15 (by decide +kernel) rfl ?_
      exact pw_iret C dL_cheapest_16 rfl ⟨by omega, by omega⟩ (QL.ok h0 hX1 hF1 hd)
    · rw [if_neg h0] at ho
      cases ho
  · obtain ⟨hX1, hF1, ho⟩ := e
    by_cases h0 : r.1 = 0
    · rw [if_pos h0] at ho
      cases ho
    · rw [if_neg h0] at ho
      have hE := Sum.inr.inj ho
      clear ho
      have hE2 : E1 = (EX xB xB xB) r.1 := hE
      subst hE2
      have h1 : r.1 = 1 := by omega
      rw [show (EX xB xB xB) r.1 = xB by rw [h1]; rfl]
      refine px_catchN C hN [] ⟨0, 9, 12, 28⟩ [] rfl (fun z hz => absurd hz List.not_mem_nil) (by decide) (by decide) clL_28 ca_IndexOutOfBoundsException (fun q9 => ?_)
      show PW Γ G _ 12 _ _ _ _ _
      refine pw_astore_n (q := 13) (j := 3) C dL_cheapest_12 rfl rfl (by decide) rfl ?_
      refine pw_iconst_n (q := 14) C 1 dL_cheapest_13 (by decide +kernel) rfl ?_
      exact pw_iret C dL_cheapest_14 rfl ⟨by omega, by omega⟩ (QL.exc 0 h1 hX1 hF1 ht hd hT)
set_option maxHeartbeats 200000 in
set_option maxRecDepth 100000 in
theorem l_wouldEarn {M : PH} {x t : Nat} {r : RS} {fs : List Value} {f : Nat → Int64} {c1 : Int32} (hp : Run iX10_wouldEarn [.ref x, .int c1] M 2 12 (QX M x (EX xA xA xA) r)) (hk : r.1 ≤ 1) (hx : M.2 x = some (.inr (7, fs))) (ht : t < M.1) (hd : t < x ∨ x + 137 ≤ t) (hT : M.2 t = some (.inl (3, 1, .inr (.inl f)))) : RunN iL_wouldEarn hL_wouldEarn [.ref x, .int c1, .ref t] M 2 12 (QL M x t r) := by
  refine RunN.of (l0 := [some (.ref x), some (.int c1), some (.ref t), none]) (by decide +kernel) (Nat.le_of_ble_eq_true rfl) (by rfl) (fun Γ G C hN => ?_)
  refine pw_aload_n (q := 1) (j := 2) C dL_wouldEarn_0 rfl rfl rfl ?_
  refine pw_iconst_n (q := 2) C 0 dL_wouldEarn_1 (by decide +kernel) rfl ?_
  refine pw_aload_n (q := 3) (j := 0) C dL_wouldEarn_2 rfl rfl rfl ?_
  refine pw_iload_n (q := 4) (j := 1) C dL_wouldEarn_3 rfl rfl rfl ?_
  refine pw_any (cr_v (j := iX10_wouldEarn) C dL_wouldEarn_4 lL_76 mX10_wouldEarn (ro_mk (by decide) (by decide)) hx rfl hp rfl rfl (Nat.le_of_ble_eq_true rfl) ⟨by omega, by omega⟩) rfl (fun v M1 e => ?_) (fun E1 M1 e => ?_)
  · obtain ⟨hX1, hF1, ho⟩ := e
    by_cases h0 : r.1 = 0
    · rw [if_pos h0] at ho
      have hv := Sum.inl.inj ho
      subst hv
      refine pw_i2l (q := 8) C dL_wouldEarn_7 rfl ?_
      refine pw_last (q := 9) C dL_wouldEarn_8 ((hF1.2 t ht hd).trans hT) (vp_in_n (by decide) (by decide)) rfl ?_
      refine pw_goto (q := 0) 15 C dL_wouldEarn_9 (by decide) ?_
      refine pw_iconst_n (q := 16) C 0 dL_wouldEarn_15 (by decide +kernel) rfl ?_
      exact pw_iret C dL_wouldEarn_16 rfl ⟨by omega, by omega⟩ (QL.ok h0 hX1 hF1 hd)
    · rw [if_neg h0] at ho
      cases ho
  · obtain ⟨hX1, hF1, ho⟩ := e
    by_cases h0 : r.1 = 0
    · rw [if_pos h0] at ho
      cases ho
    · rw [if_neg h0] at ho
      have hE := Sum.inr.inj ho
      clear ho
      have hE2 : E1 = (EX xA xA xA) r.1 := hE
      subst hE2
      have h1 : r.1 = 1 := by omega
      rw [show (EX xA xA xA) r.1 = xA by rw [h1]; rfl]
      refine px_catchN C hN [] ⟨0, 9, 12, 13⟩ [] rfl (fun z hz => absurd hz List.not_mem_nil) (by decide) (by decide) clL_13 ca_IllegalArgumentException (fun q9 => ?_)
      show PW Γ G _ 12 _ _ _ _ _
      refine pw_astore_n (q := 13) (j := 3) C dL_wouldEarn_12 rfl rfl (by decide) rfl ?_
      refine pw_iconst_n (q := 14) C 1 dL_wouldEarn_13 (by decide +kernel) rfl ?_
      exact pw_iret C dL_wouldEarn_14 rfl ⟨by omega, by omega⟩ (QL.exc 0 h1 hX1 hF1 ht hd hT)
set_option maxHeartbeats 200000 in
set_option maxRecDepth 100000 in
theorem l_runScript {M : PH} {x t : Nat} {r : RS} {fs : List Value} {f : Nat → Int64} {c1 : Int32} {c2 : Int64} (hp : Run iX10_runScript [.ref x, .int c1, .long c2] M 2 12 (QX M x (EX xA xA xA) r)) (hk : r.1 ≤ 1) (hx : M.2 x = some (.inr (7, fs))) (ht : t < M.1) (hd : t < x ∨ x + 137 ≤ t) (hT : M.2 t = some (.inl (3, 1, .inr (.inl f)))) : RunN iL_runScript hL_runScript [.ref x, .int c1, .long c2, .ref t] M 2 12 (QL M x t r) := by
  refine RunN.of (l0 := [some (.ref x), some (.int c1), some (.long c2), none, some (.ref t), none]) (by decide +kernel) (Nat.le_of_ble_eq_true rfl) (by rfl) (fun Γ G C hN => ?_)
  refine pw_aload (q := 2) C dL_runScript_0 rfl rfl ?_
  refine pw_iconst_n (q := 3) C 0 dL_runScript_2 (by decide +kernel) rfl ?_
  refine pw_aload_n (q := 4) (j := 0) C dL_runScript_3 rfl rfl rfl ?_
  refine pw_iload_n (q := 5) (j := 1) C dL_runScript_4 rfl rfl rfl ?_
  refine pw_lload_n (q := 6) (j := 2) C dL_runScript_5 rfl rfl rfl ?_
  refine pw_any (cr_v (j := iX10_runScript) C dL_runScript_6 lL_79 mX10_runScript (ro_mk (by decide) (by decide)) hx rfl hp rfl rfl (Nat.le_of_ble_eq_true rfl) ⟨by omega, by omega⟩) rfl (fun v M1 e => ?_) (fun E1 M1 e => ?_)
  · obtain ⟨hX1, hF1, ho⟩ := e
    by_cases h0 : r.1 = 0
    · rw [if_pos h0] at ho
      have hv := Sum.inl.inj ho
      subst hv
      refine pw_i2l (q := 10) C dL_runScript_9 rfl ?_
      refine pw_last (q := 11) C dL_runScript_10 ((hF1.2 t ht hd).trans hT) (vp_in_n (by decide) (by decide)) rfl ?_
      refine pw_goto (q := 0) 18 C dL_runScript_11 (by decide) ?_
      refine pw_iconst_n (q := 19) C 0 dL_runScript_18 (by decide +kernel) rfl ?_
      exact pw_iret C dL_runScript_19 rfl ⟨by omega, by omega⟩ (QL.ok h0 hX1 hF1 hd)
    · rw [if_neg h0] at ho
      cases ho
  · obtain ⟨hX1, hF1, ho⟩ := e
    by_cases h0 : r.1 = 0
    · rw [if_pos h0] at ho
      cases ho
    · rw [if_neg h0] at ho
      have hE := Sum.inr.inj ho
      clear ho
      have hE2 : E1 = (EX xA xA xA) r.1 := hE
      subst hE2
      have h1 : r.1 = 1 := by omega
      rw [show (EX xA xA xA) r.1 = xA by rw [h1]; rfl]
      refine px_catchN C hN [] ⟨0, 11, 14, 13⟩ [] rfl (fun z hz => absurd hz List.not_mem_nil) (by decide) (by decide) clL_13 ca_IllegalArgumentException (fun q9 => ?_)
      show PW Γ G _ 14 _ _ _ _ _
      refine pw_astore (q := 16) C dL_runScript_14 rfl (by decide) rfl ?_
      refine pw_iconst_n (q := 17) C 1 dL_runScript_16 (by decide +kernel) rfl ?_
      exact pw_iret C dL_runScript_17 rfl ⟨by omega, by omega⟩ (QL.exc 0 h1 hX1 hF1 ht hd hT)
set_option maxHeartbeats 200000 in
set_option maxRecDepth 100000 in
theorem l_simulate {M : PH} {x t : Nat} {r : RS} {fs : List Value} {f : Nat → Int64} {c1 : Int64} {c2 : Int32} (hp : Run iX10_simulate [.ref x, .long c1, .int c2] M 2 12 (QX M x (EX xA xA xA) r)) (hk : r.1 ≤ 1) (hx : M.2 x = some (.inr (7, fs))) (ht : t < M.1) (hd : t < x ∨ x + 137 ≤ t) (hT : M.2 t = some (.inl (3, 1, .inr (.inl f)))) : RunN iL_simulate hL_simulate [.ref x, .long c1, .int c2, .ref t] M 2 12 (QL M x t r) := by
  refine RunN.of (l0 := [some (.ref x), some (.long c1), none, some (.int c2), some (.ref t), none]) (by decide +kernel) (Nat.le_of_ble_eq_true rfl) (by rfl) (fun Γ G C hN => ?_)
  refine pw_aload (q := 2) C dL_simulate_0 rfl rfl ?_
  refine pw_iconst_n (q := 3) C 0 dL_simulate_2 (by decide +kernel) rfl ?_
  refine pw_aload_n (q := 4) (j := 0) C dL_simulate_3 rfl rfl rfl ?_
  refine pw_lload_n (q := 5) (j := 1) C dL_simulate_4 rfl rfl rfl ?_
  refine pw_iload_n (q := 6) (j := 3) C dL_simulate_5 rfl rfl rfl ?_
  refine pw_any (cr_v (j := iX10_simulate) C dL_simulate_6 lL_83 mX10_simulate (ro_mk (by decide) (by decide)) hx rfl hp rfl rfl (Nat.le_of_ble_eq_true rfl) ⟨by omega, by omega⟩) rfl (fun v M1 e => ?_) (fun E1 M1 e => ?_)
  · obtain ⟨hX1, hF1, ho⟩ := e
    by_cases h0 : r.1 = 0
    · rw [if_pos h0] at ho
      have hv := Sum.inl.inj ho
      subst hv
      refine pw_i2l (q := 10) C dL_simulate_9 rfl ?_
      refine pw_last (q := 11) C dL_simulate_10 ((hF1.2 t ht hd).trans hT) (vp_in_n (by decide) (by decide)) rfl ?_
      refine pw_goto (q := 0) 18 C dL_simulate_11 (by decide) ?_
      refine pw_iconst_n (q := 19) C 0 dL_simulate_18 (by decide +kernel) rfl ?_
      exact pw_iret C dL_simulate_19 rfl ⟨by omega, by omega⟩ (QL.ok h0 hX1 hF1 hd)
    · rw [if_neg h0] at ho
      cases ho
  · obtain ⟨hX1, hF1, ho⟩ := e
    by_cases h0 : r.1 = 0
    · rw [if_pos h0] at ho
      cases ho
    · rw [if_neg h0] at ho
      have hE := Sum.inr.inj ho
      clear ho
      have hE2 : E1 = (EX xA xA xA) r.1 := hE
      subst hE2
      have h1 : r.1 = 1 := by omega
      rw [show (EX xA xA xA) r.1 = xA by rw [h1]; rfl]
      refine px_catchN C hN [] ⟨0, 11, 14, 13⟩ [] rfl (fun z hz => absurd hz List.not_mem_nil) (by decide) (by decide) clL_13 ca_IllegalArgumentException (fun q9 => ?_)
      show PW Γ G _ 14 _ _ _ _ _
      refine pw_astore (q := 16) C dL_simulate_14 rfl (by decide) rfl ?_
      refine pw_iconst_n (q := 17) C 1 dL_simulate_16 (by decide +kernel) rfl ?_
      exact pw_iret C dL_simulate_17 rfl ⟨by omega, by omega⟩ (QL.exc 0 h1 hX1 hF1 ht hd hT)
set_option maxHeartbeats 200000 in
set_option maxRecDepth 100000 in
theorem l_save {M : PH} {x t : Nat} {r : RS} {fs : List Value} {f : Nat → Int64} {c1 : Int32} (hp : Run iX10_save [.ref x, .int c1] M 2 12 (QX M x (EX xB xB xB) r)) (hk : r.1 ≤ 1) (hx : M.2 x = some (.inr (7, fs))) (ht : t < M.1) (hd : t < x ∨ x + 137 ≤ t) (hT : M.2 t = some (.inl (3, 1, .inr (.inl f)))) : RunN iL_save hL_save [.ref x, .int c1, .ref t] M 2 12 (QL M x t r) := by
  refine RunN.of (l0 := [some (.ref x), some (.int c1), some (.ref t), none]) (by decide +kernel) (Nat.le_of_ble_eq_true rfl) (by rfl) (fun Γ G C hN => ?_)
  refine pw_aload_n (q := 1) (j := 2) C dL_save_0 rfl rfl rfl ?_
  refine pw_iconst_n (q := 2) C 0 dL_save_1 (by decide +kernel) rfl ?_
  refine pw_aload_n (q := 3) (j := 0) C dL_save_2 rfl rfl rfl ?_
  refine pw_iload_n (q := 4) (j := 1) C dL_save_3 rfl rfl rfl ?_
  refine pw_any (cr_v (j := iX10_save) C dL_save_4 lL_87 mX10_save (ro_mk (by decide) (by decide)) hx rfl hp rfl rfl (Nat.le_of_ble_eq_true rfl) ⟨by omega, by omega⟩) rfl (fun v M1 e => ?_) (fun E1 M1 e => ?_)
  · obtain ⟨hX1, hF1, ho⟩ := e
    by_cases h0 : r.1 = 0
    · rw [if_pos h0] at ho
      have hv := Sum.inl.inj ho
      subst hv
      refine pw_i2l (q := 8) C dL_save_7 rfl ?_
      refine pw_last (q := 9) C dL_save_8 ((hF1.2 t ht hd).trans hT) (vp_in_n (by decide) (by decide)) rfl ?_
      refine pw_goto (q := 0) 15 C dL_save_9 (by decide) ?_
      refine pw_iconst_n (q := 16) C 0 dL_save_15 (by decide +kernel) rfl ?_
      exact pw_iret C dL_save_16 rfl ⟨by omega, by omega⟩ (QL.ok h0 hX1 hF1 hd)
    · rw [if_neg h0] at ho
      cases ho
  · obtain ⟨hX1, hF1, ho⟩ := e
    by_cases h0 : r.1 = 0
    · rw [if_pos h0] at ho
      cases ho
    · rw [if_neg h0] at ho
      have hE := Sum.inr.inj ho
      clear ho
      have hE2 : E1 = (EX xB xB xB) r.1 := hE
      subst hE2
      have h1 : r.1 = 1 := by omega
      rw [show (EX xB xB xB) r.1 = xB by rw [h1]; rfl]
      refine px_catchN C hN [] ⟨0, 9, 12, 28⟩ [] rfl (fun z hz => absurd hz List.not_mem_nil) (by decide) (by decide) clL_28 ca_IndexOutOfBoundsException (fun q9 => ?_)
      show PW Γ G _ 12 _ _ _ _ _
      refine pw_astore_n (q := 13) (j := 3) C dL_save_12 rfl rfl (by decide) rfl ?_
      refine pw_iconst_n (q := 14) C 1 dL_save_13 (by decide +kernel) rfl ?_
      exact pw_iret C dL_save_14 rfl ⟨by omega, by omega⟩ (QL.exc 0 h1 hX1 hF1 ht hd hT)
set_option maxHeartbeats 200000 in
set_option maxRecDepth 100000 in
theorem l_restore {M : PH} {x t : Nat} {r : RS} {fs : List Value} {f : Nat → Int64} {c1 : Int32} (hp : Run iX10_restore [.ref x, .int c1] M 2 12 (QX M x (EX xB xS xS) r)) (hk : r.1 ≤ 2) (hx : M.2 x = some (.inr (7, fs))) (ht : t < M.1) (hd : t < x ∨ x + 137 ≤ t) (hT : M.2 t = some (.inl (3, 1, .inr (.inl f)))) : RunN iL_restore hL_restore [.ref x, .int c1, .ref t] M 2 12 (QL M x t r) := by
  refine RunN.of (l0 := [some (.ref x), some (.int c1), some (.ref t), none]) (by decide +kernel) (Nat.le_of_ble_eq_true rfl) (by rfl) (fun Γ G C hN => ?_)
  refine pw_aload_n (q := 1) (j := 2) C dL_restore_0 rfl rfl rfl ?_
  refine pw_iconst_n (q := 2) C 0 dL_restore_1 (by decide +kernel) rfl ?_
  refine pw_aload_n (q := 3) (j := 0) C dL_restore_2 rfl rfl rfl ?_
  refine pw_iload_n (q := 4) (j := 1) C dL_restore_3 rfl rfl rfl ?_
  refine pw_any (cr_v (j := iX10_restore) C dL_restore_4 lL_90 mX10_restore (ro_mk (by decide) (by decide)) hx rfl hp rfl rfl (Nat.le_of_ble_eq_true rfl) ⟨by omega, by omega⟩) rfl (fun v M1 e => ?_) (fun E1 M1 e => ?_)
  · obtain ⟨hX1, hF1, ho⟩ := e
    by_cases h0 : r.1 = 0
    · rw [if_pos h0] at ho
      have hv := Sum.inl.inj ho
      subst hv
      refine pw_i2l (q := 8) C dL_restore_7 rfl ?_
      refine pw_last (q := 9) C dL_restore_8 ((hF1.2 t ht hd).trans hT) (vp_in_n (by decide) (by decide)) rfl ?_
      refine pw_goto (q := 0) 18 C dL_restore_9 (by decide) ?_
      refine pw_iconst_n (q := 19) C 0 dL_restore_18 (by decide +kernel) rfl ?_
      exact pw_iret C dL_restore_19 rfl ⟨by omega, by omega⟩ (QL.ok h0 hX1 hF1 hd)
    · rw [if_neg h0] at ho
      cases ho
  · obtain ⟨hX1, hF1, ho⟩ := e
    by_cases h0 : r.1 = 0
    · rw [if_pos h0] at ho
      cases ho
    · rw [if_neg h0] at ho
      have hE := Sum.inr.inj ho
      clear ho
      have hE2 : E1 = (EX xB xS xS) r.1 := hE
      subst hE2
      rcases (show r.1 = 1 ∨ r.1 = 2 by omega) with h1 | h1
      · rw [show (EX xB xS xS) r.1 = xB by rw [h1]; rfl]
        refine px_catchN C hN [] ⟨0, 9, 12, 28⟩ [⟨0, 9, 15, 15⟩] rfl (fun z hz => absurd hz List.not_mem_nil) (by decide) (by decide) clL_28 ca_IndexOutOfBoundsException (fun q9 => ?_)
        show PW Γ G _ 12 _ _ _ _ _
        refine pw_astore_n (q := 13) (j := 3) C dL_restore_12 rfl rfl (by decide) rfl ?_
        refine pw_iconst_n (q := 14) C 1 dL_restore_13 (by decide +kernel) rfl ?_
        exact pw_iret C dL_restore_14 rfl ⟨by omega, by omega⟩ (QL.exc 0 h1 hX1 hF1 ht hd hT)
      · rw [show (EX xB xS xS) r.1 = xS by rw [h1]; rfl]
        refine px_catchN C hN [⟨0, 9, 12, 28⟩] ⟨0, 9, 15, 15⟩ [] rfl (fun z hz => by
          simp only [List.mem_cons, List.not_mem_nil, or_false] at hz
          subst hz
          exact ⟨by decide, xB, clL_28, fun s h => h.2.2⟩) (by decide) (by decide) clL_15 ca_IllegalStateException (fun q9 => ?_)
        show PW Γ G _ 15 _ _ _ _ _
        refine pw_astore_n (q := 16) (j := 3) C dL_restore_15 rfl rfl (by decide) rfl ?_
        refine pw_iconst_n (q := 17) C 2 dL_restore_16 (by decide +kernel) rfl ?_
        exact pw_iret C dL_restore_17 rfl ⟨by omega, by omega⟩ (QL.exc 1 h1 hX1 hF1 ht hd hT)
