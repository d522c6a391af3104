/-! The law's try methods: a call of the class, its exception told as a number. -/
theorem pw_ldci {Γ : CX} {G : GC} {Z : State → Prop} {i : MI} {T : List ExceptionTableEntry} {mc ms pc q k n : Nat} {ls : LL} {st : List Value} {M : PH} {idx : Nat} {v : Int32} (C : Cx Γ G i T mc ms) (d : decode i.2.1 pc = .ok (.ldc idx, 2)) (hw : Cond.constant i.1.cls idx v ∈ GW) (hq : pc + 2 = q) (K : PW Γ G Z q ls (.int v :: st) M k n) : PW Γ G Z pc ls st M k n := by
  obtain ⟨p, l, e, R, s, m, args, below, meth, c⟩ := Γ
  obtain ⟨hx, hb, hml, hown, hts, hret, hlocks, hname, htr, hT, hK, hRf, hRl, hRc, hRs⟩ := C
  subst hq
  intro A H locs hl hM hS
  exact lv_ldc hx hb hown (hts _ hw) d (K A H locs hl hM hS)
theorem cn_15 : Cond.constant RL 15 (-9999002) ∈ GW := gw_of 451 (by decide +kernel) rfl
theorem cn_168 : Cond.constant RL 168 15518107 ∈ GW := gw_of 455 (by decide +kernel) rfl
theorem cn_169 : Cond.constant RL 169 2147483647 ∈ GW := gw_of 456 (by decide +kernel) rfl
theorem cn_26 : Cond.constant RL 26 (-9999003) ∈ GW := gw_of 496 (by decide +kernel) rfl
theorem cn_40 : Cond.constant RL 40 (-9999001) ∈ GW := gw_of 633 (by decide +kernel) rfl
/-- an exception as the law's number -/
def cod (E : String) : Int32 := if E = xB then -9999001 else if E = xA then -9999002 else -9999003
theorem cod_B : cod xB = -9999001 := if_pos rfl
theorem cod_A : cod xA = -9999002 := by
  unfold cod
  rw [if_neg (by decide), if_pos rfl]
theorem cod_S : cod xS = -9999003 := by
  unfold cod
  rw [if_neg (by decide), if_neg (by decide)]
def ans (E : Nat → String) (r : RS) : Int32 := if r.1 = 0 then r.2.1 else cod (E r.1)
theorem ans_0 {E : Nat → String} {r : RS} (h : r.1 = 0) : ans E r = r.2.1 := if_pos h
theorem ans_x {E : Nat → String} {r : RS} {k : Nat} {e : String} {v : Int32} (h : r.1 = k + 1) (he : E (k + 1) = e) (hv : cod e = v) : v = ans E r := by
  unfold ans
  rw [if_neg (by omega), h, he, hv]
def RA (M : PH) (x : Nat) (E : Nat → String) (r : RS) : OC → PH → Prop := RV (.int (ans E r)) (fun M1 => RepX M1 x r.2.2 ∧ Fr M M1 x)
theorem RA.mk {M M1 : PH} {x : Nat} {E : Nat → String} {r : RS} {v : Int32} (h : v = ans E r) (hX : RepX M1 x r.2.2) (hF : Fr M M1 x) : RA M x E r (.inl (some (.int v))) M1 := ⟨by rw [h], hX, hF⟩
set_option maxHeartbeats 200000 in
set_option maxRecDepth 100000 in
theorem l_tryScript {M : PH} {x : Nat} {r : RS} {fs : List Value} {c1 : Int32} {c2 : Int64} (hp : Run iX10_runScript [.ref x, .int c1, .long c2] M 2 12 (QX M x (EX xA xA xA) r)) (hk : r.1 ≤ 1) (hx : M.2 x = some (.inr (7, fs))) : RunH iL_tryScript hL_tryScript [.ref x, .int c1, .long c2] M 2 12 (RA M x (EX xA xA xA) r) := by
  refine RunH.of (l0 := [some (.ref x), some (.int c1), some (.long c2), none, none]) (by decide +kernel) (Nat.le_of_ble_eq_true rfl) (by rfl) (fun Γ G C => ?_)
  refine pw_aload_n (q := 1) (j := 0) C dL_tryScript_0 rfl rfl rfl ?_
  refine pw_iload_n (q := 2) (j := 1) C dL_tryScript_1 rfl rfl rfl ?_
  refine pw_lload_n (q := 3) (j := 2) C dL_tryScript_2 rfl rfl rfl ?_
  refine pw_any (cr_v (j := iX10_runScript) C dL_tryScript_3 lL_7 mX10_runScript (ro_mk (by decide) (by decide)) hx rfl hp rfl rfl (Nat.le_of_ble_eq_true rfl) ⟨by omega, by omega⟩) rfl (fun v M1 e => ?_) (fun E1 M1 e => ?_)
  · obtain ⟨hX1, hF1, ho⟩ := e
    by_cases h0 : r.1 = 0
    · rw [if_pos h0] at ho
      have hv := Sum.inl.inj ho
      subst hv
      exact pw_iret C dL_tryScript_6 rfl ⟨by omega, by omega⟩ (RA.mk (ans_0 h0).symm hX1 hF1)
    · rw [if_neg h0] at ho
      cases ho
  · obtain ⟨hX1, hF1, ho⟩ := e
    by_cases h0 : r.1 = 0
    · rw [if_pos h0] at ho
      cases ho
    · rw [if_neg h0] at ho
      have hE := Sum.inr.inj ho
      clear ho
      have hE2 : E1 = (EX xA xA xA) r.1 := hE
      subst hE2
      have h1 : r.1 = 1 := by omega
      rw [show (EX xA xA xA) r.1 = xA by rw [h1]; rfl]
      refine px_catch (rest := []) (q := 0) C [] ⟨0, 6, 7, 13⟩ [] rfl (fun z hz => absurd hz List.not_mem_nil) (by decide) (by decide) clL_13 ca_IllegalArgumentException (fun q9 => ?_)
      show PW Γ G _ 7 _ _ _ _ _
      refine pw_astore (q := 9) C dL_tryScript_7 rfl (by decide) rfl ?_
      refine pw_ldci (q := 11) C dL_tryScript_9 cn_15 rfl ?_
      exact pw_iret C dL_tryScript_11 rfl ⟨by omega, by omega⟩ (RA.mk (ans_x h1 rfl cod_A) hX1 hF1)
set_option maxHeartbeats 200000 in
set_option maxRecDepth 100000 in
theorem l_trySimulate {M : PH} {x : Nat} {r : RS} {fs : List Value} {c1 : Int64} {c2 : Int32} (hp : Run iX10_simulate [.ref x, .long c1, .int c2] M 2 12 (QX M x (EX xA xA xA) r)) (hk : r.1 ≤ 1) (hx : M.2 x = some (.inr (7, fs))) : RunH iL_trySimulate hL_trySimulate [.ref x, .long c1, .int c2] M 2 12 (RA M x (EX xA xA xA) r) := by
  refine RunH.of (l0 := [some (.ref x), some (.long c1), none, some (.int c2), none]) (by decide +kernel) (Nat.le_of_ble_eq_true rfl) (by rfl) (fun Γ G C => ?_)
  refine pw_aload_n (q := 1) (j := 0) C dL_trySimulate_0 rfl rfl rfl ?_
  refine pw_lload_n (q := 2) (j := 1) C dL_trySimulate_1 rfl rfl rfl ?_
  refine pw_iload_n (q := 3) (j := 3) C dL_trySimulate_2 rfl rfl rfl ?_
  refine pw_any (cr_v (j := iX10_simulate) C dL_trySimulate_3 lL_16 mX10_simulate (ro_mk (by decide) (by decide)) hx rfl hp rfl rfl (Nat.le_of_ble_eq_true rfl) ⟨by omega, by omega⟩) rfl (fun v M1 e => ?_) (fun E1 M1 e => ?_)
  · obtain ⟨hX1, hF1, ho⟩ := e
    by_cases h0 : r.1 = 0
    · rw [if_pos h0] at ho
      have hv := Sum.inl.inj ho
      subst hv
      exact pw_iret C dL_trySimulate_6 rfl ⟨by omega, by omega⟩ (RA.mk (ans_0 h0).symm hX1 hF1)
    · rw [if_neg h0] at ho
      cases ho
  · obtain ⟨hX1, hF1, ho⟩ := e
    by_cases h0 : r.1 = 0
    · rw [if_pos h0] at ho
      cases ho
    · rw [if_neg h0] at ho
      have hE := Sum.inr.inj ho
      clear ho
      have hE2 : E1 = (EX xA xA xA) r.1 := hE
      subst hE2
      have h1 : r.1 = 1 := by omega
      rw [show (EX xA xA xA) r.1 = xA by rw [h1]; rfl]
      refine px_catch (rest := []) (q := 0) C [] ⟨0, 6, 7, 13⟩ [] rfl (fun z hz => absurd hz List.not_mem_nil) (by decide) (by decide) clL_13 ca_IllegalArgumentException (fun q9 => ?_)
      show PW Γ G _ 7 _ _ _ _ _
      refine pw_astore (q := 9) C dL_trySimulate_7 rfl (by decide) rfl ?_
      refine pw_ldci (q := 11) C dL_trySimulate_9 cn_15 rfl ?_
      exact pw_iret C dL_trySimulate_11 rfl ⟨by omega, by omega⟩ (RA.mk (ans_x h1 rfl cod_A) hX1 hF1)
set_option maxHeartbeats 200000 in
set_option maxRecDepth 100000 in
theorem l_tryAppend {M : PH} {x : Nat} {r : RS} {fs : List Value} {c1 : Int32} (hp : Run iX10_append [.ref x, .int c1] M 2 12 (QX M x (EX xA xS xS) r)) (hk : r.1 ≤ 2) (hx : M.2 x = some (.inr (7, fs))) : RunH iL_tryAppend hL_tryAppend [.ref x, .int c1] M 2 12 (RA M x (EX xA xS xS) r) := by
  refine RunH.of (l0 := [some (.ref x), some (.int c1), none]) (by decide +kernel) (Nat.le_of_ble_eq_true rfl) (by rfl) (fun Γ G C => ?_)
  refine pw_aload_n (q := 1) (j := 0) C dL_tryAppend_0 rfl rfl rfl ?_
  refine pw_iload_n (q := 2) (j := 1) C dL_tryAppend_1 rfl rfl rfl ?_
  refine pw_any (cr_v (j := iX10_append) C dL_tryAppend_2 lL_20 mX10_append (ro_mk (by decide) (by decide)) hx rfl hp rfl rfl (Nat.le_of_ble_eq_true rfl) ⟨by omega, by omega⟩) rfl (fun v M1 e => ?_) (fun E1 M1 e => ?_)
  · obtain ⟨hX1, hF1, ho⟩ := e
    by_cases h0 : r.1 = 0
    · rw [if_pos h0] at ho
      have hv := Sum.inl.inj ho
      subst hv
      exact pw_iret C dL_tryAppend_5 rfl ⟨by omega, by omega⟩ (RA.mk (ans_0 h0).symm hX1 hF1)
    · rw [if_neg h0] at ho
      cases ho
  · obtain ⟨hX1, hF1, ho⟩ := e
    by_cases h0 : r.1 = 0
    · rw [if_pos h0] at ho
      cases ho
    · rw [if_neg h0] at ho
      have hE := Sum.inr.inj ho
      clear ho
      have hE2 : E1 = (EX xA xS xS) r.1 := hE
      subst hE2
      rcases (show r.1 = 1 ∨ r.1 = 2 by omega) with h1 | h1
      · rw [show (EX xA xS xS) r.1 = xA by rw [h1]; rfl]
        refine px_catch (rest := []) (q := 0) C [] ⟨0, 5, 6, 13⟩ [⟨0, 5, 10, 24⟩] rfl (fun z hz => absurd hz List.not_mem_nil) (by decide) (by decide) clL_13 ca_IllegalArgumentException (fun q9 => ?_)
        show PW Γ G _ 6 _ _ _ _ _
        refine pw_astore_n (q := 7) (j := 2) C dL_tryAppend_6 rfl rfl (by decide) rfl ?_
        refine pw_ldci (q := 9) C dL_tryAppend_7 cn_15 rfl ?_
        exact pw_iret C dL_tryAppend_9 rfl ⟨by omega, by omega⟩ (RA.mk (ans_x h1 rfl cod_A) hX1 hF1)
      · rw [show (EX xA xS xS) r.1 = xS by rw [h1]; rfl]
        refine px_catch (rest := []) (q := 0) C [⟨0, 5, 6, 13⟩] ⟨0, 5, 10, 24⟩ [] rfl (fun z hz => by
          simp only [List.mem_cons, List.not_mem_nil, or_false] at hz
          subst hz
          exact Or.inr ⟨by decide, xA, clL_13, fun s h => h.2.2.2.2.2.2.2.2.1⟩) (by decide) (by decide) clL_24 ca_IllegalStateException (fun q9 => ?_)
        show PW Γ G _ 10 _ _ _ _ _
        refine pw_astore_n (q := 11) (j := 2) C dL_tryAppend_10 rfl rfl (by decide) rfl ?_
        refine pw_ldci (q := 13) C dL_tryAppend_11 cn_26 rfl ?_
        exact pw_iret C dL_tryAppend_13 rfl ⟨by omega, by omega⟩ (RA.mk (ans_x h1 rfl cod_S) hX1 hF1)
set_option maxHeartbeats 200000 in
set_option maxRecDepth 100000 in
theorem l_tryLoad {M : PH} {x : Nat} {r : RS} {fs : List Value} (hp : Run iX10_load [.ref x] M 2 12 (QX M x (EX xS xS xS) r)) (hk : r.1 ≤ 1) (hx : M.2 x = some (.inr (7, fs))) : RunH iL_tryLoad hL_tryLoad [.ref x] M 2 12 (RA M x (EX xS xS xS) r) := by
  refine RunH.of (l0 := [some (.ref x), none]) (by decide +kernel) (Nat.le_of_ble_eq_true rfl) (by rfl) (fun Γ G C => ?_)
  refine pw_aload_n (q := 1) (j := 0) C dL_tryLoad_0 rfl rfl rfl ?_
  refine pw_any (cr_v (j := iX10_load) C dL_tryLoad_1 lL_27 mX10_load (ro_mk (by decide) (by decide)) hx rfl hp rfl rfl (Nat.le_of_ble_eq_true rfl) ⟨by omega, by omega⟩) rfl (fun v M1 e => ?_) (fun E1 M1 e => ?_)
  · obtain ⟨hX1, hF1, ho⟩ := e
    by_cases h0 : r.1 = 0
    · rw [if_pos h0] at ho
      have hv := Sum.inl.inj ho
      subst hv
      exact pw_iret C dL_tryLoad_4 rfl ⟨by omega, by omega⟩ (RA.mk (ans_0 h0).symm hX1 hF1)
    · rw [if_neg h0] at ho
      cases ho
  · obtain ⟨hX1, hF1, ho⟩ := e
    by_cases h0 : r.1 = 0
    · rw [if_pos h0] at ho
      cases ho
    · rw [if_neg h0] at ho
      have hE := Sum.inr.inj ho
      clear ho
      have hE2 : E1 = (EX xS xS xS) r.1 := hE
      subst hE2
      have h1 : r.1 = 1 := by omega
      rw [show (EX xS xS xS) r.1 = xS by rw [h1]; rfl]
      refine px_catch (rest := []) (q := 0) C [] ⟨0, 4, 5, 24⟩ [] rfl (fun z hz => absurd hz List.not_mem_nil) (by decide) (by decide) clL_24 ca_IllegalStateException (fun q9 => ?_)
      show PW Γ G _ 5 _ _ _ _ _
      refine pw_astore_n (q := 6) (j := 1) C dL_tryLoad_5 rfl rfl (by decide) rfl ?_
      refine pw_ldci (q := 8) C dL_tryLoad_6 cn_26 rfl ?_
      exact pw_iret C dL_tryLoad_8 rfl ⟨by omega, by omega⟩ (RA.mk (ans_x h1 rfl cod_S) hX1 hF1)
set_option maxHeartbeats 200000 in
set_option maxRecDepth 100000 in
theorem lp_tryAbout {M : PH} {x : Nat} {fs : List Value} {v : Int32} {c1 : Int32} (hp : Run iX10_about [.ref x, .int c1] M 0 0 (RV (.int v) (fun M1 => M1 = M))) (hx : M.2 x = some (.inr (7, fs))) : RunH iL_tryAbout hL_tryAbout [.ref x, .int c1] M 0 0 (RV (.int v) (fun M1 => M1 = M)) := by
  refine RunH.of (l0 := [some (.ref x), some (.int c1), none]) (by decide +kernel) (Nat.le_of_ble_eq_true rfl) (by rfl) (fun Γ G C => ?_)
  refine pw_aload_n (q := 1) (j := 0) C dL_tryAbout_0 rfl rfl rfl ?_
  refine pw_iload_n (q := 2) (j := 1) C dL_tryAbout_1 rfl rfl rfl ?_
  refine pw_rd (q := 5) (cr_v (j := iX10_about) C dL_tryAbout_2 lL_31 mX10_about (ro_mk (by decide) (by decide)) hx rfl (hp) rfl rfl (Nat.le_of_ble_eq_true rfl) ⟨by omega, by omega⟩) rfl ?_
  exact pw_iret C dL_tryAbout_5 rfl ⟨by omega, by omega⟩ (RV.mk rfl rfl)
set_option maxHeartbeats 200000 in
set_option maxRecDepth 100000 in
theorem l_tryAbout {M : PH} {x : Nat} {r : RS} {fs : List Value} {c1 : Int32} (hp : Run iX10_about [.ref x, .int c1] M 2 12 (QX M x (EX xA xA xA) r)) (hk : r.1 ≤ 1) (hx : M.2 x = some (.inr (7, fs))) : RunH iL_tryAbout hL_tryAbout [.ref x, .int c1] M 2 12 (RA M x (EX xA xA xA) r) := by
  refine RunH.of (l0 := [some (.ref x), some (.int c1), none]) (by decide +kernel) (Nat.le_of_ble_eq_true rfl) (by rfl) (fun Γ G C => ?_)
  refine pw_aload_n (q := 1) (j := 0) C dL_tryAbout_0 rfl rfl rfl ?_
  refine pw_iload_n (q := 2) (j := 1) C dL_tryAbout_1 rfl rfl rfl ?_
  refine pw_any (cr_v (j := iX10_about) C dL_tryAbout_2 lL_31 mX10_about (ro_mk (by decide) (by decide)) hx rfl hp rfl rfl (Nat.le_of_ble_eq_true rfl) ⟨by omega, by omega⟩) rfl (fun v M1 e => ?_) (fun E1 M1 e => ?_)
  · obtain ⟨hX1, hF1, ho⟩ := e
    by_cases h0 : r.1 = 0
    · rw [if_pos h0] at ho
      have hv := Sum.inl.inj ho
      subst hv
      exact pw_iret C dL_tryAbout_5 rfl ⟨by omega, by omega⟩ (RA.mk (ans_0 h0).symm hX1 hF1)
    · rw [if_neg h0] at ho
      cases ho
  · obtain ⟨hX1, hF1, ho⟩ := e
    by_cases h0 : r.1 = 0
    · rw [if_pos h0] at ho
      cases ho
    · rw [if_neg h0] at ho
      have hE := Sum.inr.inj ho
      clear ho
      have hE2 : E1 = (EX xA xA xA) r.1 := hE
      subst hE2
      have h1 : r.1 = 1 := by omega
      rw [show (EX xA xA xA) r.1 = xA by rw [h1]; rfl]
      refine px_catch (rest := []) (q := 0) C [] ⟨0, 5, 6, 13⟩ [] rfl (fun z hz => absurd hz List.not_mem_nil) (by decide) (by decide) clL_13 ca_IllegalArgumentException (fun q9 => ?_)
      show PW Γ G _ 6 _ _ _ _ _
      refine pw_astore_n (q := 7) (j := 2) C dL_tryAbout_6 rfl rfl (by decide) rfl ?_
      refine pw_ldci (q := 9) C dL_tryAbout_7 cn_15 rfl ?_
      exact pw_iret C dL_tryAbout_9 rfl ⟨by omega, by omega⟩ (RA.mk (ans_x h1 rfl cod_A) hX1 hF1)
set_option maxHeartbeats 200000 in
set_option maxRecDepth 100000 in
theorem lp_tryCourse {M : PH} {x : Nat} {fs : List Value} {v : Int32} {c1 : Int32} {c2 : Int32} (hp : Run iX10_course [.ref x, .int c1, .int c2] M 0 0 (RV (.int v) (fun M1 => M1 = M))) (hx : M.2 x = some (.inr (7, fs))) : RunH iL_tryCourse hL_tryCourse [.ref x, .int c1, .int c2] M 0 0 (RV (.int v) (fun M1 => M1 = M)) := by
  refine RunH.of (l0 := [some (.ref x), some (.int c1), some (.int c2), none]) (by decide +kernel) (Nat.le_of_ble_eq_true rfl) (by rfl) (fun Γ G C => ?_)
  refine pw_aload_n (q := 1) (j := 0) C dL_tryCourse_0 rfl rfl rfl ?_
  refine pw_iload_n (q := 2) (j := 1) C dL_tryCourse_1 rfl rfl rfl ?_
  refine pw_iload_n (q := 3) (j := 2) C dL_tryCourse_2 rfl rfl rfl ?_
  refine pw_rd (q := 6) (cr_v (j := iX10_course) C dL_tryCourse_3 lL_34 mX10_course (ro_mk (by decide) (by decide)) hx rfl (hp) rfl rfl (Nat.le_of_ble_eq_true rfl) ⟨by omega, by omega⟩) rfl ?_
  exact pw_iret C dL_tryCourse_6 rfl ⟨by omega, by omega⟩ (RV.mk rfl rfl)
set_option maxHeartbeats 200000 in
set_option maxRecDepth 100000 in
theorem l_tryCourse {M : PH} {x : Nat} {r : RS} {fs : List Value} {c1 : Int32} {c2 : Int32} (hp : Run iX10_course [.ref x, .int c1, .int c2] M 2 12 (QX M x (EX xB xA xA) r)) (hk : r.1 ≤ 2) (hx : M.2 x = some (.inr (7, fs))) : RunH iL_tryCourse hL_tryCourse [.ref x, .int c1, .int c2] M 2 12 (RA M x (EX xB xA xA) r) := by
  refine RunH.of (l0 := [some (.ref x), some (.int c1), some (.int c2), none]) (by decide +kernel) (Nat.le_of_ble_eq_true rfl) (by rfl) (fun Γ G C => ?_)
  refine pw_aload_n (q := 1) (j := 0) C dL_tryCourse_0 rfl rfl rfl ?_
  refine pw_iload_n (q := 2) (j := 1) C dL_tryCourse_1 rfl rfl rfl ?_
  refine pw_iload_n (q := 3) (j := 2) C dL_tryCourse_2 rfl rfl rfl ?_
  refine pw_any (cr_v (j := iX10_course) C dL_tryCourse_3 lL_34 mX10_course (ro_mk (by decide) (by decide)) hx rfl hp rfl rfl (Nat.le_of_ble_eq_true rfl) ⟨by omega, by omega⟩) rfl (fun v M1 e => ?_) (fun E1 M1 e => ?_)
  · obtain ⟨hX1, hF1, ho⟩ := e
    by_cases h0 : r.1 = 0
    · rw [if_pos h0] at ho
      have hv := Sum.inl.inj ho
      subst hv
      exact pw_iret C dL_tryCourse_6 rfl ⟨by omega, by omega⟩ (RA.mk (ans_0 h0).symm hX1 hF1)
    · rw [if_neg h0] at ho
      cases ho
  · obtain ⟨hX1, hF1, ho⟩ := e
    by_cases h0 : r.1 = 0
    · rw [if_pos h0] at ho
      cases ho
    · rw [if_neg h0] at ho
      have hE := Sum.inr.inj ho
      clear ho
      have hE2 : E1 = (EX xB xA xA) r.1 := hE
      subst hE2
      rcases (show r.1 = 1 ∨ r.1 = 2 by omega) with h1 | h1
      · rw [show (EX xB xA xA) r.1 = xB by rw [h1]; rfl]
        refine px_catch (rest := []) (q := 0) C [] ⟨0, 6, 7, 38⟩ [⟨0, 6, 11, 13⟩] rfl (fun z hz => absurd hz List.not_mem_nil) (by decide) (by decide) clL_38 ca_IndexOutOfBoundsException (fun q9 => ?_)
        show PW Γ G _ 7 _ _ _ _ _
        refine pw_astore_n (q := 8) (j := 3) C dL_tryCourse_7 rfl rfl (by decide) rfl ?_
        refine pw_ldci (q := 10) C dL_tryCourse_8 cn_40 rfl ?_
        exact pw_iret C dL_tryCourse_10 rfl ⟨by omega, by omega⟩ (RA.mk (ans_x h1 rfl cod_B) hX1 hF1)
      · rw [show (EX xB xA xA) r.1 = xA by rw [h1]; rfl]
        refine px_catch (rest := []) (q := 0) C [⟨0, 6, 7, 38⟩] ⟨0, 6, 11, 13⟩ [] rfl (fun z hz => by
          simp only [List.mem_cons, List.not_mem_nil, or_false] at hz
          subst hz
          exact Or.inr ⟨by decide, xB, clL_38, fun s h => h.2.2.2.2.2.2.2.2.2.1⟩) (by decide) (by decide) clL_13 ca_IllegalArgumentException (fun q9 => ?_)
        show PW Γ G _ 11 _ _ _ _ _
        refine pw_astore_n (q := 12) (j := 3) C dL_tryCourse_11 rfl rfl (by decide) rfl ?_
        refine pw_ldci (q := 14) C dL_tryCourse_12 cn_15 rfl ?_
        exact pw_iret C dL_tryCourse_14 rfl ⟨by omega, by omega⟩ (RA.mk (ans_x h1 rfl cod_A) hX1 hF1)
set_option maxHeartbeats 200000 in
set_option maxRecDepth 100000 in
theorem lp_tryMason {M : PH} {x : Nat} {fs : List Value} {v : Int32} {c1 : Int32} {c2 : Int32} (hp : Run iX10_mason [.ref x, .int c1, .int c2] M 0 0 (RV (.int v) (fun M1 => M1 = M))) (hx : M.2 x = some (.inr (7, fs))) : RunH iL_tryMason hL_tryMason [.ref x, .int c1, .int c2] M 0 0 (RV (.int v) (fun M1 => M1 = M)) := by
  refine RunH.of (l0 := [some (.ref x), some (.int c1), some (.int c2), none]) (by decide +kernel) (Nat.le_of_ble_eq_true rfl) (by rfl) (fun Γ G C => ?_)
  refine pw_aload_n (q := 1) (j := 0) C dL_tryMason_0 rfl rfl rfl ?_
  refine pw_iload_n (q := 2) (j := 1) C dL_tryMason_1 rfl rfl rfl ?_
  refine pw_iload_n (q := 3) (j := 2) C dL_tryMason_2 rfl rfl rfl ?_
  refine pw_rd (q := 6) (cr_v (j := iX10_mason) C dL_tryMason_3 lL_41 mX10_mason (ro_mk (by decide) (by decide)) hx rfl (hp) rfl rfl (Nat.le_of_ble_eq_true rfl) ⟨by omega, by omega⟩) rfl ?_
  exact pw_iret C dL_tryMason_6 rfl ⟨by omega, by omega⟩ (RV.mk rfl rfl)
set_option maxHeartbeats 200000 in
set_option maxRecDepth 100000 in
theorem l_tryMason {M : PH} {x : Nat} {r : RS} {fs : List Value} {c1 : Int32} {c2 : Int32} (hp : Run iX10_mason [.ref x, .int c1, .int c2] M 2 12 (QX M x (EX xB xA xA) r)) (hk : r.1 ≤ 2) (hx : M.2 x = some (.inr (7, fs))) : RunH iL_tryMason hL_tryMason [.ref x, .int c1, .int c2] M 2 12 (RA M x (EX xB xA xA) r) := by
  refine RunH.of (l0 := [some (.ref x), some (.int c1), some (.int c2), none]) (by decide +kernel) (Nat.le_of_ble_eq_true rfl) (by rfl) (fun Γ G C => ?_)
  refine pw_aload_n (q := 1) (j := 0) C dL_tryMason_0 rfl rfl rfl ?_
  refine pw_iload_n (q := 2) (j := 1) C dL_tryMason_1 rfl rfl rfl ?_
  refine pw_iload_n (q := 3) (j := 2) C dL_tryMason_2 rfl rfl rfl ?_
  refine pw_any (cr_v (j := iX10_mason) C dL_tryMason_3 lL_41 mX10_mason (ro_mk (by decide) (by decide)) hx rfl hp rfl rfl (Nat.le_of_ble_eq_true rfl) ⟨by omega, by omega⟩) rfl (fun v M1 e => ?_) (fun E1 M1 e => ?_)
  · obtain ⟨hX1, hF1, ho⟩ := e
    by_cases h0 : r.1 = 0
    · rw [if_pos h0] at ho
      have hv := Sum.inl.inj ho
      subst hv
      exact pw_iret C dL_tryMason_6 rfl ⟨by omega, by omega⟩ (RA.mk (ans_0 h0).symm hX1 hF1)
    · rw [if_neg h0] at ho
      cases ho
  · obtain ⟨hX1, hF1, ho⟩ := e
    by_cases h0 : r.1 = 0
    · rw [if_pos h0] at ho
      cases ho
    · rw [if_neg h0] at ho
      have hE := Sum.inr.inj ho
      clear ho
      have hE2 : E1 = (EX xB xA xA) r.1 := hE
      subst hE2
      rcases (show r.1 = 1 ∨ r.1 = 2 by omega) with h1 | h1
      · rw [show (EX xB xA xA) r.1 = xB by rw [h1]; rfl]
        refine px_catch (rest := []) (q := 0) C [] ⟨0, 6, 7, 38⟩ [⟨0, 6, 11, 13⟩] rfl (fun z hz => absurd hz List.not_mem_nil) (by decide) (by decide) clL_38 ca_IndexOutOfBoundsException (fun q9 => ?_)
        show PW Γ G _ 7 _ _ _ _ _
        refine pw_astore_n (q := 8) (j := 3) C dL_tryMason_7 rfl rfl (by decide) rfl ?_
        refine pw_ldci (q := 10) C dL_tryMason_8 cn_40 rfl ?_
        exact pw_iret C dL_tryMason_10 rfl ⟨by omega, by omega⟩ (RA.mk (ans_x h1 rfl cod_B) hX1 hF1)
      · rw [show (EX xB xA xA) r.1 = xA by rw [h1]; rfl]
        refine px_catch (rest := []) (q := 0) C [⟨0, 6, 7, 38⟩] ⟨0, 6, 11, 13⟩ [] rfl (fun z hz => by
          simp only [List.mem_cons, List.not_mem_nil, or_false] at hz
          subst hz
          exact Or.inr ⟨by decide, xB, clL_38, fun s h => h.2.2.2.2.2.2.2.2.2.1⟩) (by decide) (by decide) clL_13 ca_IllegalArgumentException (fun q9 => ?_)
        show PW Γ G _ 11 _ _ _ _ _
        refine pw_astore_n (q := 12) (j := 3) C dL_tryMason_11 rfl rfl (by decide) rfl ?_
        refine pw_ldci (q := 14) C dL_tryMason_12 cn_15 rfl ?_
        exact pw_iret C dL_tryMason_14 rfl ⟨by omega, by omega⟩ (RA.mk (ans_x h1 rfl cod_A) hX1 hF1)
set_option maxHeartbeats 200000 in
set_option maxRecDepth 100000 in
theorem lp_tryStone {M : PH} {x : Nat} {fs : List Value} {v : Int32} {c1 : Int32} {c2 : Int32} (hp : Run iX10_stone [.ref x, .int c1, .int c2] M 0 0 (RV (.int v) (fun M1 => M1 = M))) (hx : M.2 x = some (.inr (7, fs))) : RunH iL_tryStone hL_tryStone [.ref x, .int c1, .int c2] M 0 0 (RV (.int v) (fun M1 => M1 = M)) := by
  refine RunH.of (l0 := [some (.ref x), some (.int c1), some (.int c2), none]) (by decide +kernel) (Nat.le_of_ble_eq_true rfl) (by rfl) (fun Γ G C => ?_)
  refine pw_aload_n (q := 1) (j := 0) C dL_tryStone_0 rfl rfl rfl ?_
  refine pw_iload_n (q := 2) (j := 1) C dL_tryStone_1 rfl rfl rfl ?_
  refine pw_iload_n (q := 3) (j := 2) C dL_tryStone_2 rfl rfl rfl ?_
  refine pw_rd (q := 6) (cr_v (j := iX10_stone) C dL_tryStone_3 lL_44 mX10_stone (ro_mk (by decide) (by decide)) hx rfl (hp) rfl rfl (Nat.le_of_ble_eq_true rfl) ⟨by omega, by omega⟩) rfl ?_
  exact pw_iret C dL_tryStone_6 rfl ⟨by omega, by omega⟩ (RV.mk rfl rfl)
set_option maxHeartbeats 200000 in
set_option maxRecDepth 100000 in
theorem l_tryStone {M : PH} {x : Nat} {r : RS} {fs : List Value} {c1 : Int32} {c2 : Int32} (hp : Run iX10_stone [.ref x, .int c1, .int c2] M 2 12 (QX M x (EX xB xA xA) r)) (hk : r.1 ≤ 2) (hx : M.2 x = some (.inr (7, fs))) : RunH iL_tryStone hL_tryStone [.ref x, .int c1, .int c2] M 2 12 (RA M x (EX xB xA xA) r) := by
  refine RunH.of (l0 := [some (.ref x), some (.int c1), some (.int c2), none]) (by decide +kernel) (Nat.le_of_ble_eq_true rfl) (by rfl) (fun Γ G C => ?_)
  refine pw_aload_n (q := 1) (j := 0) C dL_tryStone_0 rfl rfl rfl ?_
  refine pw_iload_n (q := 2) (j := 1) C dL_tryStone_1 rfl rfl rfl ?_
  refine pw_iload_n (q := 3) (j := 2) C dL_tryStone_2 rfl rfl rfl ?_
  refine pw_any (cr_v (j := iX10_stone) C dL_tryStone_3 lL_44 mX10_stone (ro_mk (by decide) (by decide)) hx rfl hp rfl rfl (Nat.le_of_ble_eq_true rfl) ⟨by omega, by omega⟩) rfl (fun v M1 e => ?_) (fun E1 M1 e => ?_)
  · obtain ⟨hX1, hF1, ho⟩ := e
    by_cases h0 : r.1 = 0
    · rw [if_pos h0] at ho
      have hv := Sum.inl.inj ho
      subst hv
      exact pw_iret C dL_tryStone_6 rfl ⟨by omega, by omega⟩ (RA.mk (ans_0 h0).symm hX1 hF1)
    · rw [if_neg h0] at ho
      cases ho
  · obtain ⟨hX1, hF1, ho⟩ := e
    by_cases h0 : r.1 = 0
    · rw [if_pos h0] at ho
      cases ho
    · rw [if_neg h0] at ho
      have hE := Sum.inr.inj ho
      clear ho
      have hE2 : E1 = (EX xB xA xA) r.1 := hE
      subst hE2
      rcases (show r.1 = 1 ∨ r.1 = 2 by omega) with h1 | h1
      · rw [show (EX xB xA xA) r.1 = xB by rw [h1]; rfl]
        refine px_catch (rest := []) (q := 0) C [] ⟨0, 6, 7, 38⟩ [⟨0, 6, 11, 13⟩] rfl (fun z hz => absurd hz List.not_mem_nil) (by decide) (by decide) clL_38 ca_IndexOutOfBoundsException (fun q9 => ?_)
        show PW Γ G _ 7 _ _ _ _ _
        refine pw_astore_n (q := 8) (j := 3) C dL_tryStone_7 rfl rfl (by decide) rfl ?_
        refine pw_ldci (q := 10) C dL_tryStone_8 cn_40 rfl ?_
        exact pw_iret C dL_tryStone_10 rfl ⟨by omega, by omega⟩ (RA.mk (ans_x h1 rfl cod_B) hX1 hF1)
      · rw [show (EX xB xA xA) r.1 = xA by rw [h1]; rfl]
        refine px_catch (rest := []) (q := 0) C [⟨0, 6, 7, 38⟩] ⟨0, 6, 11, 13⟩ [] rfl (fun z hz => by
          simp only [List.mem_cons, List.not_mem_nil, or_false] at hz
          subst hz
          exact Or.inr ⟨by decide, xB, clL_38, fun s h => h.2.2.2.2.2.2.2.2.2.1⟩) (by decide) (by decide) clL_13 ca_IllegalArgumentException (fun q9 => ?_)
        show PW Γ G _ 11 _ _ _ _ _
        refine pw_astore_n (q := 12) (j := 3) C dL_tryStone_11 rfl rfl (by decide) rfl ?_
        refine pw_ldci (q := 14) C dL_tryStone_12 cn_15 rfl ?_
        exact pw_iret C dL_tryStone_14 rfl ⟨by omega, by omega⟩ (RA.mk (ans_x h1 rfl cod_A) hX1 hF1)
set_option maxHeartbeats 200000 in
set_option maxRecDepth 100000 in
theorem lp_tryWhy {M : PH} {x : Nat} {fs : List Value} {v : Int32} {c1 : Int32} (hp : Run iX10_whyNotSet [.ref x, .int c1] M 0 0 (RV (.int v) (fun M1 => M1 = M))) (hx : M.2 x = some (.inr (7, fs))) : RunH iL_tryWhy hL_tryWhy [.ref x, .int c1] M 0 0 (RV (.int v) (fun M1 => M1 = M)) := by
  refine RunH.of (l0 := [some (.ref x), some (.int c1), none]) (by decide +kernel) (Nat.le_of_ble_eq_true rfl) (by rfl) (fun Γ G C => ?_)
  refine pw_aload_n (q := 1) (j := 0) C dL_tryWhy_0 rfl rfl rfl ?_
  refine pw_iload_n (q := 2) (j := 1) C dL_tryWhy_1 rfl rfl rfl ?_
  refine pw_rd (q := 5) (cr_v (j := iX10_whyNotSet) C dL_tryWhy_2 lL_47 mX10_whyNotSet (ro_mk (by decide) (by decide)) hx rfl (hp) rfl rfl (Nat.le_of_ble_eq_true rfl) ⟨by omega, by omega⟩) rfl ?_
  exact pw_iret C dL_tryWhy_5 rfl ⟨by omega, by omega⟩ (RV.mk rfl rfl)
set_option maxHeartbeats 200000 in
set_option maxRecDepth 100000 in
theorem l_tryWhy {M : PH} {x : Nat} {r : RS} {fs : List Value} {c1 : Int32} (hp : Run iX10_whyNotSet [.ref x, .int c1] M 2 12 (QX M x (EX xB xB xB) r)) (hk : r.1 ≤ 1) (hx : M.2 x = some (.inr (7, fs))) : RunH iL_tryWhy hL_tryWhy [.ref x, .int c1] M 2 12 (RA M x (EX xB xB xB) r) := by
  refine RunH.of (l0 := [some (.ref x), some (.int c1), none]) (by decide +kernel) (Nat.le_of_ble_eq_true rfl) (by rfl) (fun Γ G C => ?_)
  refine pw_aload_n (q := 1) (j := 0) C dL_tryWhy_0 rfl rfl rfl ?_
  refine pw_iload_n (q := 2) (j := 1) C dL_tryWhy_1 rfl rfl rfl ?_
  refine pw_any (cr_v (j := iX10_whyNotSet) C dL_tryWhy_2 lL_47 mX10_whyNotSet (ro_mk (by decide) (by decide)) hx rfl hp rfl rfl (Nat.le_of_ble_eq_true rfl) ⟨by omega, by omega⟩) rfl (fun v M1 e => ?_) (fun E1 M1 e => ?_)
  · obtain ⟨hX1, hF1, ho⟩ := e
    by_cases h0 : r.1 = 0
    · rw [if_pos h0] at ho
      have hv := Sum.inl.inj ho
      subst hv
      exact pw_iret C dL_tryWhy_5 rfl ⟨by omega, by omega⟩ (RA.mk (ans_0 h0).symm hX1 hF1)
    · rw [if_neg h0] at ho
      cases ho
  · obtain ⟨hX1, hF1, ho⟩ := e
    by_cases h0 : r.1 = 0
    · rw [if_pos h0] at ho
      cases ho
    · rw [if_neg h0] at ho
      have hE := Sum.inr.inj ho
      clear ho
      have hE2 : E1 = (EX xB xB xB) r.1 := hE
      subst hE2
      have h1 : r.1 = 1 := by omega
      rw [show (EX xB xB xB) r.1 = xB by rw [h1]; rfl]
      refine px_catch (rest := []) (q := 0) C [] ⟨0, 5, 6, 38⟩ [] rfl (fun z hz => absurd hz List.not_mem_nil) (by decide) (by decide) clL_38 ca_IndexOutOfBoundsException (fun q9 => ?_)
      show PW Γ G _ 6 _ _ _ _ _
      refine pw_astore_n (q := 7) (j := 2) C dL_tryWhy_6 rfl rfl (by decide) rfl ?_
      refine pw_ldci (q := 9) C dL_tryWhy_7 cn_40 rfl ?_
      exact pw_iret C dL_tryWhy_9 rfl ⟨by omega, by omega⟩ (RA.mk (ans_x h1 rfl cod_B) hX1 hF1)
set_option maxHeartbeats 200000 in
set_option maxRecDepth 100000 in
theorem l_tryBuild {M : PH} {x : Nat} {r : RS} {fs : List Value} {c1 : Int32} {c2 : Int32} {c3 : Int32} (hp : Run iX10_addCourse [.ref x, .int c1, .int c2, .int c3] M 2 12 (QX M x (EX xA xS xS) r)) (hk : r.1 ≤ 2) (hx : M.2 x = some (.inr (7, fs))) : RunH iL_tryBuild hL_tryBuild [.ref x, .int c1, .int c2, .int c3] M 2 12 (RA M x (EX xA xS xS) r) := by
  refine RunH.of (l0 := [some (.ref x), some (.int c1), some (.int c2), some (.int c3), none]) (by decide +kernel) (Nat.le_of_ble_eq_true rfl) (by rfl) (fun Γ G C => ?_)
  refine pw_aload_n (q := 1) (j := 0) C dL_tryBuild_0 rfl rfl rfl ?_
  refine pw_iload_n (q := 2) (j := 1) C dL_tryBuild_1 rfl rfl rfl ?_
  refine pw_iload_n (q := 3) (j := 2) C dL_tryBuild_2 rfl rfl rfl ?_
  refine pw_iload_n (q := 4) (j := 3) C dL_tryBuild_3 rfl rfl rfl ?_
  refine pw_any (cr_v (j := iX10_addCourse) C dL_tryBuild_4 lL_50 mX10_addCourse (ro_mk (by decide) (by decide)) hx rfl hp rfl rfl (Nat.le_of_ble_eq_true rfl) ⟨by omega, by omega⟩) rfl (fun v M1 e => ?_) (fun E1 M1 e => ?_)
  · obtain ⟨hX1, hF1, ho⟩ := e
    by_cases h0 : r.1 = 0
    · rw [if_pos h0] at ho
      have hv := Sum.inl.inj ho
      subst hv
      exact pw_iret C dL_tryBuild_7 rfl ⟨by omega, by omega⟩ (RA.mk (ans_0 h0).symm hX1 hF1)
    · rw [if_neg h0] at ho
      cases ho
  · obtain ⟨hX1, hF1, ho⟩ := e
    by_cases h0 : r.1 = 0
    · rw [if_pos h0] at ho
      cases ho
    · rw [if_neg h0] at ho
      have hE := Sum.inr.inj ho
      clear ho
      have hE2 : E1 = (EX xA xS xS) r.1 := hE
      subst hE2
      rcases (show r.1 = 1 ∨ r.1 = 2 by omega) with h1 | h1
      · rw [show (EX xA xS xS) r.1 = xA by rw [h1]; rfl]
        refine px_catch (rest := []) (q := 0) C [] ⟨0, 7, 8, 13⟩ [⟨0, 7, 13, 24⟩] rfl (fun z hz => absurd hz List.not_mem_nil) (by decide) (by decide) clL_13 ca_IllegalArgumentException (fun q9 => ?_)
        show PW Γ G _ 8 _ _ _ _ _
        refine pw_astore (q := 10) C dL_tryBuild_8 rfl (by decide) rfl ?_
        refine pw_ldci (q := 12) C dL_tryBuild_10 cn_15 rfl ?_
        exact pw_iret C dL_tryBuild_12 rfl ⟨by omega, by omega⟩ (RA.mk (ans_x h1 rfl cod_A) hX1 hF1)
      · rw [show (EX xA xS xS) r.1 = xS by rw [h1]; rfl]
        refine px_catch (rest := []) (q := 0) C [⟨0, 7, 8, 13⟩] ⟨0, 7, 13, 24⟩ [] rfl (fun z hz => by
          simp only [List.mem_cons, List.not_mem_nil, or_false] at hz
          subst hz
          exact Or.inr ⟨by decide, xA, clL_13, fun s h => h.2.2.2.2.2.2.2.2.1⟩) (by decide) (by decide) clL_24 ca_IllegalStateException (fun q9 => ?_)
        show PW Γ G _ 13 _ _ _ _ _
        refine pw_astore (q := 15) C dL_tryBuild_13 rfl (by decide) rfl ?_
        refine pw_ldci (q := 17) C dL_tryBuild_15 cn_26 rfl ?_
        exact pw_iret C dL_tryBuild_17 rfl ⟨by omega, by omega⟩ (RA.mk (ans_x h1 rfl cod_S) hX1 hF1)
set_option maxHeartbeats 200000 in
set_option maxRecDepth 100000 in
theorem l_tryHire {M : PH} {x : Nat} {r : RS} {fs : List Value} {c1 : Int32} {c2 : Int32} (hp : Run iX10_addMason [.ref x, .int c1, .int c2] M 2 12 (QX M x (EX xA xS xS) r)) (hk : r.1 ≤ 2) (hx : M.2 x = some (.inr (7, fs))) : RunH iL_tryHire hL_tryHire [.ref x, .int c1, .int c2] M 2 12 (RA M x (EX xA xS xS) r) := by
  refine RunH.of (l0 := [some (.ref x), some (.int c1), some (.int c2), none]) (by decide +kernel) (Nat.le_of_ble_eq_true rfl) (by rfl) (fun Γ G C => ?_)
  refine pw_aload_n (q := 1) (j := 0) C dL_tryHire_0 rfl rfl rfl ?_
  refine pw_iload_n (q := 2) (j := 1) C dL_tryHire_1 rfl rfl rfl ?_
  refine pw_iload_n (q := 3) (j := 2) C dL_tryHire_2 rfl rfl rfl ?_
  refine pw_any (cr_v (j := iX10_addMason) C dL_tryHire_3 lL_54 mX10_addMason (ro_mk (by decide) (by decide)) hx rfl hp rfl rfl (Nat.le_of_ble_eq_true rfl) ⟨by omega, by omega⟩) rfl (fun v M1 e => ?_) (fun E1 M1 e => ?_)
  · obtain ⟨hX1, hF1, ho⟩ := e
    by_cases h0 : r.1 = 0
    · rw [if_pos h0] at ho
      have hv := Sum.inl.inj ho
      subst hv
      exact pw_iret C dL_tryHire_6 rfl ⟨by omega, by omega⟩ (RA.mk (ans_0 h0).symm hX1 hF1)
    · rw [if_neg h0] at ho
      cases ho
  · obtain ⟨hX1, hF1, ho⟩ := e
    by_cases h0 : r.1 = 0
    · rw [if_pos h0] at ho
      cases ho
    · rw [if_neg h0] at ho
      have hE := Sum.inr.inj ho
      clear ho
      have hE2 : E1 = (EX xA xS xS) r.1 := hE
      subst hE2
      rcases (show r.1 = 1 ∨ r.1 = 2 by omega) with h1 | h1
      · rw [show (EX xA xS xS) r.1 = xA by rw [h1]; rfl]
        refine px_catch (rest := []) (q := 0) C [] ⟨0, 6, 7, 13⟩ [⟨0, 6, 11, 24⟩] rfl (fun z hz => absurd hz List.not_mem_nil) (by decide) (by decide) clL_13 ca_IllegalArgumentException (fun q9 => ?_)
        show PW Γ G _ 7 _ _ _ _ _
        refine pw_astore_n (q := 8) (j := 3) C dL_tryHire_7 rfl rfl (by decide) rfl ?_
        refine pw_ldci (q := 10) C dL_tryHire_8 cn_15 rfl ?_
        exact pw_iret C dL_tryHire_10 rfl ⟨by omega, by omega⟩ (RA.mk (ans_x h1 rfl cod_A) hX1 hF1)
      · rw [show (EX xA xS xS) r.1 = xS by rw [h1]; rfl]
        refine px_catch (rest := []) (q := 0) C [⟨0, 6, 7, 13⟩] ⟨0, 6, 11, 24⟩ [] rfl (fun z hz => by
          simp only [List.mem_cons, List.not_mem_nil, or_false] at hz
          subst hz
          exact Or.inr ⟨by decide, xA, clL_13, fun s h => h.2.2.2.2.2.2.2.2.1⟩) (by decide) (by decide) clL_24 ca_IllegalStateException (fun q9 => ?_)
        show PW Γ G _ 11 _ _ _ _ _
        refine pw_astore_n (q := 12) (j := 3) C dL_tryHire_11 rfl rfl (by decide) rfl ?_
        refine pw_ldci (q := 14) C dL_tryHire_12 cn_26 rfl ?_
        exact pw_iret C dL_tryHire_14 rfl ⟨by omega, by omega⟩ (RA.mk (ans_x h1 rfl cod_S) hX1 hF1)
set_option maxHeartbeats 200000 in
set_option maxRecDepth 100000 in
theorem l_tryRate {M : PH} {x : Nat} {r : RS} {fs : List Value} {c1 : Int32} {c2 : Int32} (hp : Run iX10_setRate [.ref x, .int c1, .int c2] M 2 12 (QX M x (EX xB xA xA) r)) (hk : r.1 ≤ 2) (hx : M.2 x = some (.inr (7, fs))) : RunH iL_tryRate hL_tryRate [.ref x, .int c1, .int c2] M 2 12 (RA M x (EX xB xA xA) r) := by
  refine RunH.of (l0 := [some (.ref x), some (.int c1), some (.int c2), none]) (by decide +kernel) (Nat.le_of_ble_eq_true rfl) (by rfl) (fun Γ G C => ?_)
  refine pw_aload_n (q := 1) (j := 0) C dL_tryRate_0 rfl rfl rfl ?_
  refine pw_iload_n (q := 2) (j := 1) C dL_tryRate_1 rfl rfl rfl ?_
  refine pw_iload_n (q := 3) (j := 2) C dL_tryRate_2 rfl rfl rfl ?_
  refine pw_any (cr_v (j := iX10_setRate) C dL_tryRate_3 lL_57 mX10_setRate (ro_mk (by decide) (by decide)) hx rfl hp rfl rfl (Nat.le_of_ble_eq_true rfl) ⟨by omega, by omega⟩) rfl (fun v M1 e => ?_) (fun E1 M1 e => ?_)
  · obtain ⟨hX1, hF1, ho⟩ := e
    by_cases h0 : r.1 = 0
    · rw [if_pos h0] at ho
      have hv := Sum.inl.inj ho
      subst hv
      exact pw_iret C dL_tryRate_6 rfl ⟨by omega, by omega⟩ (RA.mk (ans_0 h0).symm hX1 hF1)
    · rw [if_neg h0] at ho
      cases ho
  · obtain ⟨hX1, hF1, ho⟩ := e
    by_cases h0 : r.1 = 0
    · rw [if_pos h0] at ho
      cases ho
    · rw [if_neg h0] at ho
      have hE := Sum.inr.inj ho
      clear ho
      have hE2 : E1 = (EX xB xA xA) r.1 := hE
      subst hE2
      rcases (show r.1 = 1 ∨ r.1 = 2 by omega) with h1 | h1
      · rw [show (EX xB xA xA) r.1 = xB by rw [h1]; rfl]
        refine px_catch (rest := []) (q := 0) C [] ⟨0, 6, 7, 38⟩ [⟨0, 6, 11, 13⟩] rfl (fun z hz => absurd hz List.not_mem_nil) (by decide) (by decide) clL_38 ca_IndexOutOfBoundsException (fun q9 => ?_)
        show PW Γ G _ 7 _ _ _ _ _
        refine pw_astore_n (q := 8) (j := 3) C dL_tryRate_7 rfl rfl (by decide) rfl ?_
        refine pw_ldci (q := 10) C dL_tryRate_8 cn_40 rfl ?_
        exact pw_iret C dL_tryRate_10 rfl ⟨by omega, by omega⟩ (RA.mk (ans_x h1 rfl cod_B) hX1 hF1)
      · rw [show (EX xB xA xA) r.1 = xA by rw [h1]; rfl]
        refine px_catch (rest := []) (q := 0) C [⟨0, 6, 7, 38⟩] ⟨0, 6, 11, 13⟩ [] rfl (fun z hz => by
          simp only [List.mem_cons, List.not_mem_nil, or_false] at hz
          subst hz
          exact Or.inr ⟨by decide, xB, clL_38, fun s h => h.2.2.2.2.2.2.2.2.2.1⟩) (by decide) (by decide) clL_13 ca_IllegalArgumentException (fun q9 => ?_)
        show PW Γ G _ 11 _ _ _ _ _
        refine pw_astore_n (q := 12) (j := 3) C dL_tryRate_11 rfl rfl (by decide) rfl ?_
        refine pw_ldci (q := 14) C dL_tryRate_12 cn_15 rfl ?_
        exact pw_iret C dL_tryRate_14 rfl ⟨by omega, by omega⟩ (RA.mk (ans_x h1 rfl cod_A) hX1 hF1)
set_option maxHeartbeats 200000 in
set_option maxRecDepth 100000 in
theorem l_tryBound {M : PH} {x : Nat} {r : RS} {fs : List Value} {c1 : Int32} (hp : Run iX10_setBound [.ref x, .int c1] M 2 12 (QX M x (EX xA xA xA) r)) (hk : r.1 ≤ 1) (hx : M.2 x = some (.inr (7, fs))) : RunH iL_tryBound hL_tryBound [.ref x, .int c1] M 2 12 (RA M x (EX xA xA xA) r) := by
  refine RunH.of (l0 := [some (.ref x), some (.int c1), none]) (by decide +kernel) (Nat.le_of_ble_eq_true rfl) (by rfl) (fun Γ G C => ?_)
  refine pw_aload_n (q := 1) (j := 0) C dL_tryBound_0 rfl rfl rfl ?_
  refine pw_iload_n (q := 2) (j := 1) C dL_tryBound_1 rfl rfl rfl ?_
  refine pw_any (cr_v (j := iX10_setBound) C dL_tryBound_2 lL_60 mX10_setBound (ro_mk (by decide) (by decide)) hx rfl hp rfl rfl (Nat.le_of_ble_eq_true rfl) ⟨by omega, by omega⟩) rfl (fun v M1 e => ?_) (fun E1 M1 e => ?_)
  · obtain ⟨hX1, hF1, ho⟩ := e
    by_cases h0 : r.1 = 0
    · rw [if_pos h0] at ho
      have hv := Sum.inl.inj ho
      subst hv
      exact pw_iret C dL_tryBound_5 rfl ⟨by omega, by omega⟩ (RA.mk (ans_0 h0).symm hX1 hF1)
    · rw [if_neg h0] at ho
      cases ho
  · obtain ⟨hX1, hF1, ho⟩ := e
    by_cases h0 : r.1 = 0
    · rw [if_pos h0] at ho
      cases ho
    · rw [if_neg h0] at ho
      have hE := Sum.inr.inj ho
      clear ho
      have hE2 : E1 = (EX xA xA xA) r.1 := hE
      subst hE2
      have h1 : r.1 = 1 := by omega
      rw [show (EX xA xA xA) r.1 = xA by rw [h1]; rfl]
      refine px_catch (rest := []) (q := 0) C [] ⟨0, 5, 6, 13⟩ [] rfl (fun z hz => absurd hz List.not_mem_nil) (by decide) (by decide) clL_13 ca_IllegalArgumentException (fun q9 => ?_)
      show PW Γ G _ 6 _ _ _ _ _
      refine pw_astore_n (q := 7) (j := 2) C dL_tryBound_6 rfl rfl (by decide) rfl ?_
      refine pw_ldci (q := 9) C dL_tryBound_7 cn_15 rfl ?_
      exact pw_iret C dL_tryBound_9 rfl ⟨by omega, by omega⟩ (RA.mk (ans_x h1 rfl cod_A) hX1 hF1)
set_option maxHeartbeats 200000 in
set_option maxRecDepth 100000 in
theorem l_tryCut {M : PH} {x : Nat} {r : RS} {fs : List Value} {c1 : Int32} {c2 : Int32} {c3 : Int32} (hp : Run iX10_cut [.ref x, .int c1, .int c2, .int c3] M 2 12 (QX M x (EX xB xA xS) r)) (hk : r.1 ≤ 3) (hx : M.2 x = some (.inr (7, fs))) : RunH iL_tryCut hL_tryCut [.ref x, .int c1, .int c2, .int c3] M 2 12 (RA M x (EX xB xA xS) r) := by
  refine RunH.of (l0 := [some (.ref x), some (.int c1), some (.int c2), some (.int c3), none]) (by decide +kernel) (Nat.le_of_ble_eq_true rfl) (by rfl) (fun Γ G C => ?_)
  refine pw_aload_n (q := 1) (j := 0) C dL_tryCut_0 rfl rfl rfl ?_
  refine pw_iload_n (q := 2) (j := 1) C dL_tryCut_1 rfl rfl rfl ?_
  refine pw_iload_n (q := 3) (j := 2) C dL_tryCut_2 rfl rfl rfl ?_
  refine pw_iload_n (q := 4) (j := 3) C dL_tryCut_3 rfl rfl rfl ?_
  refine pw_any (cr_v (j := iX10_cut) C dL_tryCut_4 lL_63 mX10_cut (ro_mk (by decide) (by decide)) hx rfl hp rfl rfl (Nat.le_of_ble_eq_true rfl) ⟨by omega, by omega⟩) rfl (fun v M1 e => ?_) (fun E1 M1 e => ?_)
  · obtain ⟨hX1, hF1, ho⟩ := e
    by_cases h0 : r.1 = 0
    · rw [if_pos h0] at ho
      have hv := Sum.inl.inj ho
      subst hv
      exact pw_iret C dL_tryCut_7 rfl ⟨by omega, by omega⟩ (RA.mk (ans_0 h0).symm hX1 hF1)
    · rw [if_neg h0] at ho
      cases ho
  · obtain ⟨hX1, hF1, ho⟩ := e
    by_cases h0 : r.1 = 0
    · rw [if_pos h0] at ho
      cases ho
    · rw [if_neg h0] at ho
      have hE := Sum.inr.inj ho
      clear ho
      have hE2 : E1 = (EX xB xA xS) r.1 := hE
      subst hE2
      rcases (show r.1 = 1 ∨ r.1 = 2 ∨ r.1 = 3 by omega) with h1 | h1 | h1
      · rw [show (EX xB xA xS) r.1 = xB by rw [h1]; rfl]
        refine px_catch (rest := []) (q := 0) C [] ⟨0, 7, 8, 38⟩ [⟨0, 7, 13, 13⟩, ⟨0, 7, 18, 24⟩] rfl (fun z hz => absurd hz List.not_mem_nil) (by decide) (by decide) clL_38 ca_IndexOutOfBoundsException (fun q9 => ?_)
        show PW Γ G _ 8 _ _ _ _ _
        refine pw_astore (q := 10) C dL_tryCut_8 rfl (by decide) rfl ?_
        refine pw_ldci (q := 12) C dL_tryCut_10 cn_40 rfl ?_
        exact pw_iret C dL_tryCut_12 rfl ⟨by omega, by omega⟩ (RA.mk (ans_x h1 rfl cod_B) hX1 hF1)
      · rw [show (EX xB xA xS) r.1 = xA by rw [h1]; rfl]
        refine px_catch (rest := []) (q := 0) C [⟨0, 7, 8, 38⟩] ⟨0, 7, 13, 13⟩ [⟨0, 7, 18, 24⟩] rfl (fun z hz => by
          simp only [List.mem_cons, List.not_mem_nil, or_false] at hz
          subst hz
          exact Or.inr ⟨by decide, xB, clL_38, fun s h => h.2.2.2.2.2.2.2.2.2.1⟩) (by decide) (by decide) clL_13 ca_IllegalArgumentException (fun q9 => ?_)
        show PW Γ G _ 13 _ _ _ _ _
        refine pw_astore (q := 15) C dL_tryCut_13 rfl (by decide) rfl ?_
        refine pw_ldci (q := 17) C dL_tryCut_15 cn_15 rfl ?_
        exact pw_iret C dL_tryCut_17 rfl ⟨by omega, by omega⟩ (RA.mk (ans_x h1 rfl cod_A) hX1 hF1)
      · rw [show (EX xB xA xS) r.1 = xS by rw [h1]; rfl]
        refine px_catch (rest := []) (q := 0) C [⟨0, 7, 8, 38⟩, ⟨0, 7, 13, 13⟩] ⟨0, 7, 18, 24⟩ [] rfl (fun z hz => by
          simp only [List.mem_cons, List.not_mem_nil, or_false] at hz
          rcases hz with rfl | rfl
          · exact Or.inr ⟨by decide, xB, clL_38, fun s h => h.2.2.2.2.2.2.2.2.2.2⟩
          · exact Or.inr ⟨by decide, xA, clL_13, fun s h => h.2.2.2.2.2.2.2.2.1⟩) (by decide) (by decide) clL_24 ca_IllegalStateException (fun q9 => ?_)
        show PW Γ G _ 18 _ _ _ _ _
        refine pw_astore (q := 20) C dL_tryCut_18 rfl (by decide) rfl ?_
        refine pw_ldci (q := 22) C dL_tryCut_20 cn_26 rfl ?_
        exact pw_iret C dL_tryCut_22 rfl ⟨by omega, by omega⟩ (RA.mk (ans_x h1 rfl cod_S) hX1 hF1)
set_option maxHeartbeats 200000 in
set_option maxRecDepth 100000 in
theorem l_tryInspect {M : PH} {x : Nat} {r : RS} {fs : List Value} {c1 : Int32} (hp : Run iX10_inspect [.ref x, .int c1] M 2 12 (QX M x (EX xB xS xS) r)) (hk : r.1 ≤ 2) (hx : M.2 x = some (.inr (7, fs))) : RunH iL_tryInspect hL_tryInspect [.ref x, .int c1] M 2 12 (RA M x (EX xB xS xS) r) := by
  refine RunH.of (l0 := [some (.ref x), some (.int c1), none]) (by decide +kernel) (Nat.le_of_ble_eq_true rfl) (by rfl) (fun Γ G C => ?_)
  refine pw_aload_n (q := 1) (j := 0) C dL_tryInspect_0 rfl rfl rfl ?_
  refine pw_iload_n (q := 2) (j := 1) C dL_tryInspect_1 rfl rfl rfl ?_
  refine pw_any (cr_v (j := iX10_inspect) C dL_tryInspect_2 lL_66 mX10_inspect (ro_mk (by decide) (by decide)) hx rfl hp rfl rfl (Nat.le_of_ble_eq_true rfl) ⟨by omega, by omega⟩) rfl (fun v M1 e => ?_) (fun E1 M1 e => ?_)
  · obtain ⟨hX1, hF1, ho⟩ := e
    by_cases h0 : r.1 = 0
    · rw [if_pos h0] at ho
      have hv := Sum.inl.inj ho
      subst hv
      exact pw_iret C dL_tryInspect_5 rfl ⟨by omega, by omega⟩ (RA.mk (ans_0 h0).symm hX1 hF1)
    · rw [if_neg h0] at ho
      cases ho
  · obtain ⟨hX1, hF1, ho⟩ := e
    by_cases h0 : r.1 = 0
    · rw [if_pos h0] at ho
      cases ho
    · rw [if_neg h0] at ho
      have hE := Sum.inr.inj ho
      clear ho
      have hE2 : E1 = (EX xB xS xS) r.1 := hE
      subst hE2
      rcases (show r.1 = 1 ∨ r.1 = 2 by omega) with h1 | h1
      · rw [show (EX xB xS xS) r.1 = xB by rw [h1]; rfl]
        refine px_catch (rest := []) (q := 0) C [] ⟨0, 5, 6, 38⟩ [⟨0, 5, 10, 24⟩] rfl (fun z hz => absurd hz List.not_mem_nil) (by decide) (by decide) clL_38 ca_IndexOutOfBoundsException (fun q9 => ?_)
        show PW Γ G _ 6 _ _ _ _ _
        refine pw_astore_n (q := 7) (j := 2) C dL_tryInspect_6 rfl rfl (by decide) rfl ?_
        refine pw_ldci (q := 9) C dL_tryInspect_7 cn_40 rfl ?_
        exact pw_iret C dL_tryInspect_9 rfl ⟨by omega, by omega⟩ (RA.mk (ans_x h1 rfl cod_B) hX1 hF1)
      · rw [show (EX xB xS xS) r.1 = xS by rw [h1]; rfl]
        refine px_catch (rest := []) (q := 0) C [⟨0, 5, 6, 38⟩] ⟨0, 5, 10, 24⟩ [] rfl (fun z hz => by
          simp only [List.mem_cons, List.not_mem_nil, or_false] at hz
          subst hz
          exact Or.inr ⟨by decide, xB, clL_38, fun s h => h.2.2.2.2.2.2.2.2.2.2⟩) (by decide) (by decide) clL_24 ca_IllegalStateException (fun q9 => ?_)
        show PW Γ G _ 10 _ _ _ _ _
        refine pw_astore_n (q := 11) (j := 2) C dL_tryInspect_10 rfl rfl (by decide) rfl ?_
        refine pw_ldci (q := 13) C dL_tryInspect_11 cn_26 rfl ?_
        exact pw_iret C dL_tryInspect_13 rfl ⟨by omega, by omega⟩ (RA.mk (ans_x h1 rfl cod_S) hX1 hF1)
set_option maxHeartbeats 200000 in
set_option maxRecDepth 100000 in
theorem l_tryRecut {M : PH} {x : Nat} {r : RS} {fs : List Value} {c1 : Int32} {c2 : Int32} {c3 : Int32} (hp : Run iX10_recut [.ref x, .int c1, .int c2, .int c3] M 2 12 (QX M x (EX xB xS xS) r)) (hk : r.1 ≤ 2) (hx : M.2 x = some (.inr (7, fs))) : RunH iL_tryRecut hL_tryRecut [.ref x, .int c1, .int c2, .int c3] M 2 12 (RA M x (EX xB xS xS) r) := by
  refine RunH.of (l0 := [some (.ref x), some (.int c1), some (.int c2), some (.int c3), none]) (by decide +kernel) (Nat.le_of_ble_eq_true rfl) (by rfl) (fun Γ G C => ?_)
  refine pw_aload_n (q := 1) (j := 0) C dL_tryRecut_0 rfl rfl rfl ?_
  refine pw_iload_n (q := 2) (j := 1) C dL_tryRecut_1 rfl rfl rfl ?_
  refine pw_iload_n (q := 3) (j := 2) C dL_tryRecut_2 rfl rfl rfl ?_
  refine pw_iload_n (q := 4) (j := 3) C dL_tryRecut_3 rfl rfl rfl ?_
  refine pw_any (cr_v (j := iX10_recut) C dL_tryRecut_4 lL_69 mX10_recut (ro_mk (by decide) (by decide)) hx rfl hp rfl rfl (Nat.le_of_ble_eq_true rfl) ⟨by omega, by omega⟩) rfl (fun v M1 e => ?_) (fun E1 M1 e => ?_)
  · obtain ⟨hX1, hF1, ho⟩ := e
    by_cases h0 : r.1 = 0
    · rw [if_pos h0] at ho
      have hv := Sum.inl.inj ho
      subst hv
      exact pw_iret C dL_tryRecut_7 rfl ⟨by omega, by omega⟩ (RA.mk (ans_0 h0).symm hX1 hF1)
    · rw [if_neg h0] at ho
      cases ho
  · obtain ⟨hX1, hF1, ho⟩ := e
    by_cases h0 : r.1 = 0
    · rw [if_pos h0] at ho
      cases ho
    · rw [if_neg h0] at ho
      have hE := Sum.inr.inj ho
      clear ho
      have hE2 : E1 = (EX xB xS xS) r.1 := hE
      subst hE2
      rcases (show r.1 = 1 ∨ r.1 = 2 by omega) with h1 | h1
      · rw [show (EX xB xS xS) r.1 = xB by rw [h1]; rfl]
        refine px_catch (rest := []) (q := 0) C [] ⟨0, 7, 8, 38⟩ [⟨0, 7, 13, 24⟩] rfl (fun z hz => absurd hz List.not_mem_nil) (by decide) (by decide) clL_38 ca_IndexOutOfBoundsException (fun q9 => ?_)
        show PW Γ G _ 8 _ _ _ _ _
        refine pw_astore (q := 10) C dL_tryRecut_8 rfl (by decide) rfl ?_
        refine pw_ldci (q := 12) C dL_tryRecut_10 cn_40 rfl ?_
        exact pw_iret C dL_tryRecut_12 rfl ⟨by omega, by omega⟩ (RA.mk (ans_x h1 rfl cod_B) hX1 hF1)
      · rw [show (EX xB xS xS) r.1 = xS by rw [h1]; rfl]
        refine px_catch (rest := []) (q := 0) C [⟨0, 7, 8, 38⟩] ⟨0, 7, 13, 24⟩ [] rfl (fun z hz => by
          simp only [List.mem_cons, List.not_mem_nil, or_false] at hz
          subst hz
          exact Or.inr ⟨by decide, xB, clL_38, fun s h => h.2.2.2.2.2.2.2.2.2.2⟩) (by decide) (by decide) clL_24 ca_IllegalStateException (fun q9 => ?_)
        show PW Γ G _ 13 _ _ _ _ _
        refine pw_astore (q := 15) C dL_tryRecut_13 rfl (by decide) rfl ?_
        refine pw_ldci (q := 17) C dL_tryRecut_15 cn_26 rfl ?_
        exact pw_iret C dL_tryRecut_17 rfl ⟨by omega, by omega⟩ (RA.mk (ans_x h1 rfl cod_S) hX1 hF1)
set_option maxHeartbeats 200000 in
set_option maxRecDepth 100000 in
theorem l_tryScrap {M : PH} {x : Nat} {r : RS} {fs : List Value} {c1 : Int32} (hp : Run iX10_scrap [.ref x, .int c1] M 2 12 (QX M x (EX xB xS xS) r)) (hk : r.1 ≤ 2) (hx : M.2 x = some (.inr (7, fs))) : RunH iL_tryScrap hL_tryScrap [.ref x, .int c1] M 2 12 (RA M x (EX xB xS xS) r) := by
  refine RunH.of (l0 := [some (.ref x), some (.int c1), none]) (by decide +kernel) (Nat.le_of_ble_eq_true rfl) (by rfl) (fun Γ G C => ?_)
  refine pw_aload_n (q := 1) (j := 0) C dL_tryScrap_0 rfl rfl rfl ?_
  refine pw_iload_n (q := 2) (j := 1) C dL_tryScrap_1 rfl rfl rfl ?_
  refine pw_any (cr_v (j := iX10_scrap) C dL_tryScrap_2 lL_72 mX10_scrap (ro_mk (by decide) (by decide)) hx rfl hp rfl rfl (Nat.le_of_ble_eq_true rfl) ⟨by omega, by omega⟩) rfl (fun v M1 e => ?_) (fun E1 M1 e => ?_)
  · obtain ⟨hX1, hF1, ho⟩ := e
    by_cases h0 : r.1 = 0
    · rw [if_pos h0] at ho
      have hv := Sum.inl.inj ho
      subst hv
      exact pw_iret C dL_tryScrap_5 rfl ⟨by omega, by omega⟩ (RA.mk (ans_0 h0).symm hX1 hF1)
    · rw [if_neg h0] at ho
      cases ho
  · obtain ⟨hX1, hF1, ho⟩ := e
    by_cases h0 : r.1 = 0
    · rw [if_pos h0] at ho
      cases ho
    · rw [if_neg h0] at ho
      have hE := Sum.inr.inj ho
      clear ho
      have hE2 : E1 = (EX xB xS xS) r.1 := hE
      subst hE2
      rcases (show r.1 = 1 ∨ r.1 = 2 by omega) with h1 | h1
      · rw [show (EX xB xS xS) r.1 = xB by rw [h1]; rfl]
        refine px_catch (rest := []) (q := 0) C [] ⟨0, 5, 6, 38⟩ [⟨0, 5, 10, 24⟩] rfl (fun z hz => absurd hz List.not_mem_nil) (by decide) (by decide) clL_38 ca_IndexOutOfBoundsException (fun q9 => ?_)
        show PW Γ G _ 6 _ _ _ _ _
        refine pw_astore_n (q := 7) (j := 2) C dL_tryScrap_6 rfl rfl (by decide) rfl ?_
        refine pw_ldci (q := 9) C dL_tryScrap_7 cn_40 rfl ?_
        exact pw_iret C dL_tryScrap_9 rfl ⟨by omega, by omega⟩ (RA.mk (ans_x h1 rfl cod_B) hX1 hF1)
      · rw [show (EX xB xS xS) r.1 = xS by rw [h1]; rfl]
        refine px_catch (rest := []) (q := 0) C [⟨0, 5, 6, 38⟩] ⟨0, 5, 10, 24⟩ [] rfl (fun z hz => by
          simp only [List.mem_cons, List.not_mem_nil, or_false] at hz
          subst hz
          exact Or.inr ⟨by decide, xB, clL_38, fun s h => h.2.2.2.2.2.2.2.2.2.2⟩) (by decide) (by decide) clL_24 ca_IllegalStateException (fun q9 => ?_)
        show PW Γ G _ 10 _ _ _ _ _
        refine pw_astore_n (q := 11) (j := 2) C dL_tryScrap_10 rfl rfl (by decide) rfl ?_
        refine pw_ldci (q := 13) C dL_tryScrap_11 cn_26 rfl ?_
        exact pw_iret C dL_tryScrap_13 rfl ⟨by omega, by omega⟩ (RA.mk (ans_x h1 rfl cod_S) hX1 hF1)
set_option maxHeartbeats 200000 in
set_option maxRecDepth 100000 in
theorem l_tryPlace {M : PH} {x : Nat} {r : RS} {fs : List Value} {c1 : Int32} (hp : Run iX10_set [.ref x, .int c1] M 2 12 (QX M x (EX xB xS xS) r)) (hk : r.1 ≤ 2) (hx : M.2 x = some (.inr (7, fs))) : RunH iL_tryPlace hL_tryPlace [.ref x, .int c1] M 2 12 (RA M x (EX xB xS xS) r) := by
  refine RunH.of (l0 := [some (.ref x), some (.int c1), none]) (by decide +kernel) (Nat.le_of_ble_eq_true rfl) (by rfl) (fun Γ G C => ?_)
  refine pw_aload_n (q := 1) (j := 0) C dL_tryPlace_0 rfl rfl rfl ?_
  refine pw_iload_n (q := 2) (j := 1) C dL_tryPlace_1 rfl rfl rfl ?_
  refine pw_any (cr_v (j := iX10_set) C dL_tryPlace_2 lL_75 mX10_set (ro_mk (by decide) (by decide)) hx rfl hp rfl rfl (Nat.le_of_ble_eq_true rfl) ⟨by omega, by omega⟩) rfl (fun v M1 e => ?_) (fun E1 M1 e => ?_)
  · obtain ⟨hX1, hF1, ho⟩ := e
    by_cases h0 : r.1 = 0
    · rw [if_pos h0] at ho
      have hv := Sum.inl.inj ho
      subst hv
      exact pw_iret C dL_tryPlace_5 rfl ⟨by omega, by omega⟩ (RA.mk (ans_0 h0).symm hX1 hF1)
    · rw [if_neg h0] at ho
      cases ho
  · obtain ⟨hX1, hF1, ho⟩ := e
    by_cases h0 : r.1 = 0
    · rw [if_pos h0] at ho
      cases ho
    · rw [if_neg h0] at ho
      have hE := Sum.inr.inj ho
      clear ho
      have hE2 : E1 = (EX xB xS xS) r.1 := hE
      subst hE2
      rcases (show r.1 = 1 ∨ r.1 = 2 by omega) with h1 | h1
      · rw [show (EX xB xS xS) r.1 = xB by rw [h1]; rfl]
        refine px_catch (rest := []) (q := 0) C [] ⟨0, 5, 6, 38⟩ [⟨0, 5, 10, 24⟩] rfl (fun z hz => absurd hz List.not_mem_nil) (by decide) (by decide) clL_38 ca_IndexOutOfBoundsException (fun q9 => ?_)
        show PW Γ G _ 6 _ _ _ _ _
        refine pw_astore_n (q := 7) (j := 2) C dL_tryPlace_6 rfl rfl (by decide) rfl ?_
        refine pw_ldci (q := 9) C dL_tryPlace_7 cn_40 rfl ?_
        exact pw_iret C dL_tryPlace_9 rfl ⟨by omega, by omega⟩ (RA.mk (ans_x h1 rfl cod_B) hX1 hF1)
      · rw [show (EX xB xS xS) r.1 = xS by rw [h1]; rfl]
        refine px_catch (rest := []) (q := 0) C [⟨0, 5, 6, 38⟩] ⟨0, 5, 10, 24⟩ [] rfl (fun z hz => by
          simp only [List.mem_cons, List.not_mem_nil, or_false] at hz
          subst hz
          exact Or.inr ⟨by decide, xB, clL_38, fun s h => h.2.2.2.2.2.2.2.2.2.2⟩) (by decide) (by decide) clL_24 ca_IllegalStateException (fun q9 => ?_)
        show PW Γ G _ 10 _ _ _ _ _
        refine pw_astore_n (q := 11) (j := 2) C dL_tryPlace_10 rfl rfl (by decide) rfl ?_
        refine pw_ldci (q := 13) C dL_tryPlace_11 cn_26 rfl ?_
        exact pw_iret C dL_tryPlace_13 rfl ⟨by omega, by omega⟩ (RA.mk (ans_x h1 rfl cod_S) hX1 hF1)
set_option maxHeartbeats 200000 in
set_option maxRecDepth 100000 in
theorem l_tryUndo {M : PH} {x : Nat} {r : RS} {fs : List Value} (hp : Run iX10_undo [.ref x] M 2 12 (QX M x (EX xS xS xS) r)) (hk : r.1 ≤ 1) (hx : M.2 x = some (.inr (7, fs))) : RunH iL_tryUndo hL_tryUndo [.ref x] M 2 12 (RA M x (EX xS xS xS) r) := by
  refine RunH.of (l0 := [some (.ref x), none]) (by decide +kernel) (Nat.le_of_ble_eq_true rfl) (by rfl) (fun Γ G C => ?_)
  refine pw_aload_n (q := 1) (j := 0) C dL_tryUndo_0 rfl rfl rfl ?_
  refine pw_any (cr_v (j := iX10_undo) C dL_tryUndo_1 lL_78 mX10_undo (ro_mk (by decide) (by decide)) hx rfl hp rfl rfl (Nat.le_of_ble_eq_true rfl) ⟨by omega, by omega⟩) rfl (fun v M1 e => ?_) (fun E1 M1 e => ?_)
  · obtain ⟨hX1, hF1, ho⟩ := e
    by_cases h0 : r.1 = 0
    · rw [if_pos h0] at ho
      have hv := Sum.inl.inj ho
      subst hv
      exact pw_iret C dL_tryUndo_4 rfl ⟨by omega, by omega⟩ (RA.mk (ans_0 h0).symm hX1 hF1)
    · rw [if_neg h0] at ho
      cases ho
  · obtain ⟨hX1, hF1, ho⟩ := e
    by_cases h0 : r.1 = 0
    · rw [if_pos h0] at ho
      cases ho
    · rw [if_neg h0] at ho
      have hE := Sum.inr.inj ho
      clear ho
      have hE2 : E1 = (EX xS xS xS) r.1 := hE
      subst hE2
      have h1 : r.1 = 1 := by omega
      rw [show (EX xS xS xS) r.1 = xS by rw [h1]; rfl]
      refine px_catch (rest := []) (q := 0) C [] ⟨0, 4, 5, 24⟩ [] rfl (fun z hz => absurd hz List.not_mem_nil) (by decide) (by decide) clL_24 ca_IllegalStateException (fun q9 => ?_)
      show PW Γ G _ 5 _ _ _ _ _
      refine pw_astore_n (q := 6) (j := 1) C dL_tryUndo_5 rfl rfl (by decide) rfl ?_
      refine pw_ldci (q := 8) C dL_tryUndo_6 cn_26 rfl ?_
      exact pw_iret C dL_tryUndo_8 rfl ⟨by omega, by omega⟩ (RA.mk (ans_x h1 rfl cod_S) hX1 hF1)
set_option maxHeartbeats 200000 in
set_option maxRecDepth 100000 in
theorem l_tryFor {M : PH} {x : Nat} {r : RS} {fs : List Value} {c1 : Int32} (hp : Run iX10_recutFor [.ref x, .int c1] M 2 12 (QX M x (EX xB xB xB) r)) (hk : r.1 ≤ 1) (hx : M.2 x = some (.inr (7, fs))) : RunH iL_tryFor hL_tryFor [.ref x, .int c1] M 2 12 (RA M x (EX xB xB xB) r) := by
  refine RunH.of (l0 := [some (.ref x), some (.int c1), none]) (by decide +kernel) (Nat.le_of_ble_eq_true rfl) (by rfl) (fun Γ G C => ?_)
  refine pw_aload_n (q := 1) (j := 0) C dL_tryFor_0 rfl rfl rfl ?_
  refine pw_iload_n (q := 2) (j := 1) C dL_tryFor_1 rfl rfl rfl ?_
  refine pw_any (cr_v (j := iX10_recutFor) C dL_tryFor_2 lL_81 mX10_recutFor (ro_mk (by decide) (by decide)) hx rfl hp rfl rfl (Nat.le_of_ble_eq_true rfl) ⟨by omega, by omega⟩) rfl (fun v M1 e => ?_) (fun E1 M1 e => ?_)
  · obtain ⟨hX1, hF1, ho⟩ := e
    by_cases h0 : r.1 = 0
    · rw [if_pos h0] at ho
      have hv := Sum.inl.inj ho
      subst hv
      exact pw_iret C dL_tryFor_5 rfl ⟨by omega, by omega⟩ (RA.mk (ans_0 h0).symm hX1 hF1)
    · rw [if_neg h0] at ho
      cases ho
  · obtain ⟨hX1, hF1, ho⟩ := e
    by_cases h0 : r.1 = 0
    · rw [if_pos h0] at ho
      cases ho
    · rw [if_neg h0] at ho
      have hE := Sum.inr.inj ho
      clear ho
      have hE2 : E1 = (EX xB xB xB) r.1 := hE
      subst hE2
      have h1 : r.1 = 1 := by omega
      rw [show (EX xB xB xB) r.1 = xB by rw [h1]; rfl]
      refine px_catch (rest := []) (q := 0) C [] ⟨0, 5, 6, 38⟩ [] rfl (fun z hz => absurd hz List.not_mem_nil) (by decide) (by decide) clL_38 ca_IndexOutOfBoundsException (fun q9 => ?_)
      show PW Γ G _ 6 _ _ _ _ _
      refine pw_astore_n (q := 7) (j := 2) C dL_tryFor_6 rfl rfl (by decide) rfl ?_
      refine pw_ldci (q := 9) C dL_tryFor_7 cn_40 rfl ?_
      exact pw_iret C dL_tryFor_9 rfl ⟨by omega, by omega⟩ (RA.mk (ans_x h1 rfl cod_B) hX1 hF1)
set_option maxHeartbeats 200000 in
set_option maxRecDepth 100000 in
theorem lp_tryCheapest {M : PH} {x : Nat} {fs : List Value} {v : Int32} {c1 : Int32} (hp : Run iX10_cheapest [.ref x, .int c1] M 0 0 (RV (.int v) (fun M1 => M1 = M))) (hx : M.2 x = some (.inr (7, fs))) : RunH iL_tryCheapest hL_tryCheapest [.ref x, .int c1] M 0 0 (RV (.int v) (fun M1 => M1 = M)) := by
  refine RunH.of (l0 := [some (.ref x), some (.int c1), none]) (by decide +kernel) (Nat.le_of_ble_eq_true rfl) (by rfl) (fun Γ G C => ?_)
  refine pw_aload_n (q := 1) (j := 0) C dL_tryCheapest_0 rfl rfl rfl ?_
  refine pw_iload_n (q := 2) (j := 1) C dL_tryCheapest_1 rfl rfl rfl ?_
  refine pw_rd (q := 5) (cr_v (j := iX10_cheapest) C dL_tryCheapest_2 lL_84 mX10_cheapest (ro_mk (by decide) (by decide)) hx rfl (hp) rfl rfl (Nat.le_of_ble_eq_true rfl) ⟨by omega, by omega⟩) rfl ?_
  exact pw_iret C dL_tryCheapest_5 rfl ⟨by omega, by omega⟩ (RV.mk rfl rfl)
set_option maxHeartbeats 200000 in
set_option maxRecDepth 100000 in
theorem l_tryCheapest {M : PH} {x : Nat} {r : RS} {fs : List Value} {c1 : Int32} (hp : Run iX10_cheapest [.ref x, .int c1] M 2 12 (QX M x (EX xB xB xB) r)) (hk : r.1 ≤ 1) (hx : M.2 x = some (.inr (7, fs))) : RunH iL_tryCheapest hL_tryCheapest [.ref x, .int c1] M 2 12 (RA M x (EX xB xB xB) r) := by
  refine RunH.of (l0 := [some (.ref x), some (.int c1), none]) (by decide +kernel) (Nat.le_of_ble_eq_true rfl) (by rfl) (fun Γ G C => ?_)
  refine pw_aload_n (q := 1) (j := 0) C dL_tryCheapest_0 rfl rfl rfl ?_
  refine pw_iload_n (q := 2) (j := 1) C dL_tryCheapest_1 rfl rfl rfl ?_
  refine pw_any (cr_v (j := iX10_cheapest) C dL_tryCheapest_2 lL_84 mX10_cheapest (ro_mk (by decide) (by decide)) hx rfl hp rfl rfl (Nat.le_of_ble_eq_true rfl) ⟨by omega, by omega⟩) rfl (fun v M1 e => ?_) (fun E1 M1 e => ?_)
  · obtain ⟨hX1, hF1, ho⟩ := e
    by_cases h0 : r.1 = 0
    · rw [if_pos h0] at ho
      have hv := Sum.inl.inj ho
      subst hv
      exact pw_iret C dL_tryCheapest_5 rfl ⟨by omega, by omega⟩ (RA.mk (ans_0 h0).symm hX1 hF1)
    · rw [if_neg h0] at ho
      cases ho
  · obtain ⟨hX1, hF1, ho⟩ := e
    by_cases h0 : r.1 = 0
    · rw [if_pos h0] at ho
      cases ho
    · rw [if_neg h0] at ho
      have hE := Sum.inr.inj ho
      clear ho
      have hE2 : E1 = (EX xB xB xB) r.1 := hE
      subst hE2
      have h1 : r.1 = 1 := by omega
      rw [show (EX xB xB xB) r.1 = xB by rw [h1]; rfl]
      refine px_catch (rest := []) (q := 0) C [] ⟨0, 5, 6, 38⟩ [] rfl (fun z hz => absurd hz List.not_mem_nil) (by decide) (by decide) clL_38 ca_IndexOutOfBoundsException (fun q9 => ?_)
      show PW Γ G _ 6 _ _ _ _ _
      refine pw_astore_n (q := 7) (j := 2) C dL_tryCheapest_6 rfl rfl (by decide) rfl ?_
      refine pw_ldci (q := 9) C dL_tryCheapest_7 cn_40 rfl ?_
      exact pw_iret C dL_tryCheapest_9 rfl ⟨by omega, by omega⟩ (RA.mk (ans_x h1 rfl cod_B) hX1 hF1)
set_option maxHeartbeats 200000 in
set_option maxRecDepth 100000 in
theorem lp_tryEarn {M : PH} {x : Nat} {fs : List Value} {v : Int32} {c1 : Int32} (hp : Run iX10_wouldEarn [.ref x, .int c1] M 0 0 (RV (.int v) (fun M1 => M1 = M))) (hx : M.2 x = some (.inr (7, fs))) : RunH iL_tryEarn hL_tryEarn [.ref x, .int c1] M 0 0 (RV (.int v) (fun M1 => M1 = M)) := by
  refine RunH.of (l0 := [some (.ref x), some (.int c1), none]) (by decide +kernel) (Nat.le_of_ble_eq_true rfl) (by rfl) (fun Γ G C => ?_)
  refine pw_aload_n (q := 1) (j := 0) C dL_tryEarn_0 rfl rfl rfl ?_
  refine pw_iload_n (q := 2) (j := 1) C dL_tryEarn_1 rfl rfl rfl ?_
  refine pw_rd (q := 5) (cr_v (j := iX10_wouldEarn) C dL_tryEarn_2 lL_87 mX10_wouldEarn (ro_mk (by decide) (by decide)) hx rfl (hp) rfl rfl (Nat.le_of_ble_eq_true rfl) ⟨by omega, by omega⟩) rfl ?_
  exact pw_iret C dL_tryEarn_5 rfl ⟨by omega, by omega⟩ (RV.mk rfl rfl)
set_option maxHeartbeats 200000 in
set_option maxRecDepth 100000 in
theorem l_tryEarn {M : PH} {x : Nat} {r : RS} {fs : List Value} {c1 : Int32} (hp : Run iX10_wouldEarn [.ref x, .int c1] M 2 12 (QX M x (EX xA xA xA) r)) (hk : r.1 ≤ 1) (hx : M.2 x = some (.inr (7, fs))) : RunH iL_tryEarn hL_tryEarn [.ref x, .int c1] M 2 12 (RA M x (EX xA xA xA) r) := by
  refine RunH.of (l0 := [some (.ref x), some (.int c1), none]) (by decide +kernel) (Nat.le_of_ble_eq_true rfl) (by rfl) (fun Γ G C => ?_)
  refine pw_aload_n (q := 1) (j := 0) C dL_tryEarn_0 rfl rfl rfl ?_
  refine pw_iload_n (q := 2) (j := 1) C dL_tryEarn_1 rfl rfl rfl ?_
  refine pw_any (cr_v (j := iX10_wouldEarn) C dL_tryEarn_2 lL_87 mX10_wouldEarn (ro_mk (by decide) (by decide)) hx rfl hp rfl rfl (Nat.le_of_ble_eq_true rfl) ⟨by omega, by omega⟩) rfl (fun v M1 e => ?_) (fun E1 M1 e => ?_)
  · obtain ⟨hX1, hF1, ho⟩ := e
    by_cases h0 : r.1 = 0
    · rw [if_pos h0] at ho
      have hv := Sum.inl.inj ho
      subst hv
      exact pw_iret C dL_tryEarn_5 rfl ⟨by omega, by omega⟩ (RA.mk (ans_0 h0).symm hX1 hF1)
    · rw [if_neg h0] at ho
      cases ho
  · obtain ⟨hX1, hF1, ho⟩ := e
    by_cases h0 : r.1 = 0
    · rw [if_pos h0] at ho
      cases ho
    · rw [if_neg h0] at ho
      have hE := Sum.inr.inj ho
      clear ho
      have hE2 : E1 = (EX xA xA xA) r.1 := hE
      subst hE2
      have h1 : r.1 = 1 := by omega
      rw [show (EX xA xA xA) r.1 = xA by rw [h1]; rfl]
      refine px_catch (rest := []) (q := 0) C [] ⟨0, 5, 6, 13⟩ [] rfl (fun z hz => absurd hz List.not_mem_nil) (by decide) (by decide) clL_13 ca_IllegalArgumentException (fun q9 => ?_)
      show PW Γ G _ 6 _ _ _ _ _
      refine pw_astore_n (q := 7) (j := 2) C dL_tryEarn_6 rfl rfl (by decide) rfl ?_
      refine pw_ldci (q := 9) C dL_tryEarn_7 cn_15 rfl ?_
      exact pw_iret C dL_tryEarn_9 rfl ⟨by omega, by omega⟩ (RA.mk (ans_x h1 rfl cod_A) hX1 hF1)
set_option maxHeartbeats 200000 in
set_option maxRecDepth 100000 in
theorem l_trySave {M : PH} {x : Nat} {r : RS} {fs : List Value} {c1 : Int32} (hp : Run iX10_save [.ref x, .int c1] M 2 12 (QX M x (EX xB xB xB) r)) (hk : r.1 ≤ 1) (hx : M.2 x = some (.inr (7, fs))) : RunH iL_trySave hL_trySave [.ref x, .int c1] M 2 12 (RA M x (EX xB xB xB) r) := by
  refine RunH.of (l0 := [some (.ref x), some (.int c1), none]) (by decide +kernel) (Nat.le_of_ble_eq_true rfl) (by rfl) (fun Γ G C => ?_)
  refine pw_aload_n (q := 1) (j := 0) C dL_trySave_0 rfl rfl rfl ?_
  refine pw_iload_n (q := 2) (j := 1) C dL_trySave_1 rfl rfl rfl ?_
  refine pw_any (cr_v (j := iX10_save) C dL_trySave_2 lL_90 mX10_save (ro_mk (by decide) (by decide)) hx rfl hp rfl rfl (Nat.le_of_ble_eq_true rfl) ⟨by omega, by omega⟩) rfl (fun v M1 e => ?_) (fun E1 M1 e => ?_)
  · obtain ⟨hX1, hF1, ho⟩ := e
    by_cases h0 : r.1 = 0
    · rw [if_pos h0] at ho
      have hv := Sum.inl.inj ho
      subst hv
      exact pw_iret C dL_trySave_5 rfl ⟨by omega, by omega⟩ (RA.mk (ans_0 h0).symm hX1 hF1)
    · rw [if_neg h0] at ho
      cases ho
  · obtain ⟨hX1, hF1, ho⟩ := e
    by_cases h0 : r.1 = 0
    · rw [if_pos h0] at ho
      cases ho
    · rw [if_neg h0] at ho
      have hE := Sum.inr.inj ho
      clear ho
      have hE2 : E1 = (EX xB xB xB) r.1 := hE
      subst hE2
      have h1 : r.1 = 1 := by omega
      rw [show (EX xB xB xB) r.1 = xB by rw [h1]; rfl]
      refine px_catch (rest := []) (q := 0) C [] ⟨0, 5, 6, 38⟩ [] rfl (fun z hz => absurd hz List.not_mem_nil) (by decide) (by decide) clL_38 ca_IndexOutOfBoundsException (fun q9 => ?_)
      show PW Γ G _ 6 _ _ _ _ _
      refine pw_astore_n (q := 7) (j := 2) C dL_trySave_6 rfl rfl (by decide) rfl ?_
      refine pw_ldci (q := 9) C dL_trySave_7 cn_40 rfl ?_
      exact pw_iret C dL_trySave_9 rfl ⟨by omega, by omega⟩ (RA.mk (ans_x h1 rfl cod_B) hX1 hF1)
set_option maxHeartbeats 200000 in
set_option maxRecDepth 100000 in
theorem l_tryRestore {M : PH} {x : Nat} {r : RS} {fs : List Value} {c1 : Int32} (hp : Run iX10_restore [.ref x, .int c1] M 2 12 (QX M x (EX xB xS xS) r)) (hk : r.1 ≤ 2) (hx : M.2 x = some (.inr (7, fs))) : RunH iL_tryRestore hL_tryRestore [.ref x, .int c1] M 2 12 (RA M x (EX xB xS xS) r) := by
  refine RunH.of (l0 := [some (.ref x), some (.int c1), none]) (by decide +kernel) (Nat.le_of_ble_eq_true rfl) (by rfl) (fun Γ G C => ?_)
  refine pw_aload_n (q := 1) (j := 0) C dL_tryRestore_0 rfl rfl rfl ?_
  refine pw_iload_n (q := 2) (j := 1) C dL_tryRestore_1 rfl rfl rfl ?_
  refine pw_any (cr_v (j := iX10_restore) C dL_tryRestore_2 lL_93 mX10_restore (ro_mk (by decide) (by decide)) hx rfl hp rfl rfl (Nat.le_of_ble_eq_true rfl) ⟨by omega, by omega⟩) rfl (fun v M1 e => ?_) (fun E1 M1 e => ?_)
  · obtain ⟨hX1, hF1, ho⟩ := e
    by_cases h0 : r.1 = 0
    · rw [if_pos h0] at ho
      have hv := Sum.inl.inj ho
      subst hv
      exact pw_iret C dL_tryRestore_5 rfl ⟨by omega, by omega⟩ (RA.mk (ans_0 h0).symm hX1 hF1)
    · rw [if_neg h0] at ho
      cases ho
  · obtain ⟨hX1, hF1, ho⟩ := e
    by_cases h0 : r.1 = 0
    · rw [if_pos h0] at ho
      cases ho
    · rw [if_neg h0] at ho
      have hE := Sum.inr.inj ho
      clear ho
      have hE2 : E1 = (EX xB xS xS) r.1 := hE
      subst hE2
      rcases (show r.1 = 1 ∨ r.1 = 2 by omega) with h1 | h1
      · rw [show (EX xB xS xS) r.1 = xB by rw [h1]; rfl]
        refine px_catch (rest := []) (q := 0) C [] ⟨0, 5, 6, 38⟩ [⟨0, 5, 10, 24⟩] rfl (fun z hz => absurd hz List.not_mem_nil) (by decide) (by decide) clL_38 ca_IndexOutOfBoundsException (fun q9 => ?_)
        show PW Γ G _ 6 _ _ _ _ _
        refine pw_astore_n (q := 7) (j := 2) C dL_tryRestore_6 rfl rfl (by decide) rfl ?_
        refine pw_ldci (q := 9) C dL_tryRestore_7 cn_40 rfl ?_
        exact pw_iret C dL_tryRestore_9 rfl ⟨by omega, by omega⟩ (RA.mk (ans_x h1 rfl cod_B) hX1 hF1)
      · rw [show (EX xB xS xS) r.1 = xS by rw [h1]; rfl]
        refine px_catch (rest := []) (q := 0) C [⟨0, 5, 6, 38⟩] ⟨0, 5, 10, 24⟩ [] rfl (fun z hz => by
          simp only [List.mem_cons, List.not_mem_nil, or_false] at hz
          subst hz
          exact Or.inr ⟨by decide, xB, clL_38, fun s h => h.2.2.2.2.2.2.2.2.2.2⟩) (by decide) (by decide) clL_24 ca_IllegalStateException (fun q9 => ?_)
        show PW Γ G _ 10 _ _ _ _ _
        refine pw_astore_n (q := 11) (j := 2) C dL_tryRestore_10 rfl rfl (by decide) rfl ?_
        refine pw_ldci (q := 13) C dL_tryRestore_11 cn_26 rfl ?_
        exact pw_iret C dL_tryRestore_13 rfl ⟨by omega, by omega⟩ (RA.mk (ans_x h1 rfl cod_S) hX1 hF1)
set_option maxHeartbeats 200000 in
set_option maxRecDepth 100000 in
theorem c_append {M : PH} {x : Nat} {v : Int32} {Φ : PH → Prop} {c1 : Int32} {b : Int32} {c : Int32} {d : Int32} (hp : RunH iL_tryAppend hL_tryAppend [.ref x, .int c1] M 2 12 (RV (.int v) Φ)) : Run iL_call [.ref x, .int (nI 0), .int c1, .int b, .int c, .int d] M 2 12 (RV (.int v) Φ) := by
  refine Run.of (l0 := [some (.ref x), some (.int (nI 0)), some (.int c1), some (.int b), some (.int c), some (.int d)]) (by decide +kernel) (Nat.le_of_ble_eq_true rfl) (by rfl) (fun Γ G C => ?_)
  refine pw_iload_n (q := 1) (j := 1) C dL_call_0 rfl rfl rfl ?_
  
  · refine pw_tableIn (q := 0) 100 C dL_call_1 (by decide +kernel) (by decide +kernel) (by rfl) (by decide) ?_
    refine pw_aload_n (q := 101) (j := 0) C dL_call_100 rfl rfl rfl ?_
    refine pw_iload_n (q := 102) (j := 2) C dL_call_101 rfl rfl rfl ?_
    refine pw_val (q := 105) (cr_sh (j := iL_tryAppend) C dL_call_102 lL_96 mL_tryAppend (ro_mk (by decide) (by decide))  (hp) rfl rfl (Nat.le_of_ble_eq_true rfl) ⟨by omega, by omega⟩) rfl (fun M102 e102 => ?_)
    exact pw_iret C dL_call_105 rfl ⟨by omega, by omega⟩ (RV.mk rfl e102)
set_option maxHeartbeats 200000 in
set_option maxRecDepth 100000 in
theorem c_load {M : PH} {x : Nat} {v : Int32} {Φ : PH → Prop} {a : Int32} {b : Int32} {c : Int32} {d : Int32} (hp : RunH iL_tryLoad hL_tryLoad [.ref x] M 2 12 (RV (.int v) Φ)) : Run iL_call [.ref x, .int (nI 1), .int a, .int b, .int c, .int d] M 2 12 (RV (.int v) Φ) := by
  refine Run.of (l0 := [some (.ref x), some (.int (nI 1)), some (.int a), some (.int b), some (.int c), some (.int d)]) (by decide +kernel) (Nat.le_of_ble_eq_true rfl) (by rfl) (fun Γ G C => ?_)
  refine pw_iload_n (q := 1) (j := 1) C dL_call_0 rfl rfl rfl ?_
  
  · refine pw_tableIn (q := 0) 106 C dL_call_1 (by decide +kernel) (by decide +kernel) (by rfl) (by decide) ?_
    refine pw_aload_n (q := 107) (j := 0) C dL_call_106 rfl rfl rfl ?_
    refine pw_val (q := 110) (cr_sh (j := iL_tryLoad) C dL_call_107 lL_102 mL_tryLoad (ro_mk (by decide) (by decide))  (hp) rfl rfl (Nat.le_of_ble_eq_true rfl) ⟨by omega, by omega⟩) rfl (fun M107 e107 => ?_)
    exact pw_iret C dL_call_110 rfl ⟨by omega, by omega⟩ (RV.mk rfl e107)
set_option maxHeartbeats 200000 in
set_option maxRecDepth 100000 in
theorem cp_about {M : PH} {x : Nat} {v : Int32} {c1 : Int32} {b : Int32} {c : Int32} {d : Int32} (hp : RunH iL_tryAbout hL_tryAbout [.ref x, .int c1] M 0 0 (RV (.int v) (fun M1 => M1 = M))) : Run iL_call [.ref x, .int (nI 2), .int c1, .int b, .int c, .int d] M 0 0 (RV (.int v) (fun M1 => M1 = M)) := by
  refine Run.of (l0 := [some (.ref x), some (.int (nI 2)), some (.int c1), some (.int b), some (.int c), some (.int d)]) (by decide +kernel) (Nat.le_of_ble_eq_true rfl) (by rfl) (fun Γ G C => ?_)
  refine pw_iload_n (q := 1) (j := 1) C dL_call_0 rfl rfl rfl ?_
  
  · refine pw_tableIn (q := 0) 111 C dL_call_1 (by decide +kernel) (by decide +kernel) (by rfl) (by decide) ?_
    refine pw_aload_n (q := 112) (j := 0) C dL_call_111 rfl rfl rfl ?_
    refine pw_iload_n (q := 113) (j := 2) C dL_call_112 rfl rfl rfl ?_
    refine pw_rd (q := 116) (cr_sh (j := iL_tryAbout) C dL_call_113 lL_106 mL_tryAbout (ro_mk (by decide) (by decide))  (hp) rfl rfl (Nat.le_of_ble_eq_true rfl) ⟨by omega, by omega⟩) rfl ?_
    exact pw_iret C dL_call_116 rfl ⟨by omega, by omega⟩ (RV.mk rfl rfl)
set_option maxHeartbeats 200000 in
set_option maxRecDepth 100000 in
theorem c_about {M : PH} {x : Nat} {v : Int32} {Φ : PH → Prop} {c1 : Int32} {b : Int32} {c : Int32} {d : Int32} (hp : RunH iL_tryAbout hL_tryAbout [.ref x, .int c1] M 2 12 (RV (.int v) Φ)) : Run iL_call [.ref x, .int (nI 2), .int c1, .int b, .int c, .int d] M 2 12 (RV (.int v) Φ) := by
  refine Run.of (l0 := [some (.ref x), some (.int (nI 2)), some (.int c1), some (.int b), some (.int c), some (.int d)]) (by decide +kernel) (Nat.le_of_ble_eq_true rfl) (by rfl) (fun Γ G C => ?_)
  refine pw_iload_n (q := 1) (j := 1) C dL_call_0 rfl rfl rfl ?_
  
  · refine pw_tableIn (q := 0) 111 C dL_call_1 (by decide +kernel) (by decide +kernel) (by rfl) (by decide) ?_
    refine pw_aload_n (q := 112) (j := 0) C dL_call_111 rfl rfl rfl ?_
    refine pw_iload_n (q := 113) (j := 2) C dL_call_112 rfl rfl rfl ?_
    refine pw_val (q := 116) (cr_sh (j := iL_tryAbout) C dL_call_113 lL_106 mL_tryAbout (ro_mk (by decide) (by decide))  (hp) rfl rfl (Nat.le_of_ble_eq_true rfl) ⟨by omega, by omega⟩) rfl (fun M113 e113 => ?_)
    exact pw_iret C dL_call_116 rfl ⟨by omega, by omega⟩ (RV.mk rfl e113)
set_option maxHeartbeats 200000 in
set_option maxRecDepth 100000 in
theorem cp_course {M : PH} {x : Nat} {v : Int32} {c1 : Int32} {c2 : Int32} {c : Int32} {d : Int32} (hp : RunH iL_tryCourse hL_tryCourse [.ref x, .int c1, .int c2] M 0 0 (RV (.int v) (fun M1 => M1 = M))) : Run iL_call [.ref x, .int (nI 3), .int c1, .int c2, .int c, .int d] M 0 0 (RV (.int v) (fun M1 => M1 = M)) := by
  refine Run.of (l0 := [some (.ref x), some (.int (nI 3)), some (.int c1), some (.int c2), some (.int c), some (.int d)]) (by decide +kernel) (Nat.le_of_ble_eq_true rfl) (by rfl) (fun Γ G C => ?_)
  refine pw_iload_n (q := 1) (j := 1) C dL_call_0 rfl rfl rfl ?_
  
  · refine pw_tableIn (q := 0) 117 C dL_call_1 (by decide +kernel) (by decide +kernel) (by rfl) (by decide) ?_
    refine pw_aload_n (q := 118) (j := 0) C dL_call_117 rfl rfl rfl ?_
    refine pw_iload_n (q := 119) (j := 2) C dL_call_118 rfl rfl rfl ?_
    refine pw_iload_n (q := 120) (j := 3) C dL_call_119 rfl rfl rfl ?_
    refine pw_rd (q := 123) (cr_sh (j := iL_tryCourse) C dL_call_120 lL_109 mL_tryCourse (ro_mk (by decide) (by decide))  (hp) rfl rfl (Nat.le_of_ble_eq_true rfl) ⟨by omega, by omega⟩) rfl ?_
    exact pw_iret C dL_call_123 rfl ⟨by omega, by omega⟩ (RV.mk rfl rfl)
set_option maxHeartbeats 200000 in
set_option maxRecDepth 100000 in
theorem c_course {M : PH} {x : Nat} {v : Int32} {Φ : PH → Prop} {c1 : Int32} {c2 : Int32} {c : Int32} {d : Int32} (hp : RunH iL_tryCourse hL_tryCourse [.ref x, .int c1, .int c2] M 2 12 (RV (.int v) Φ)) : Run iL_call [.ref x, .int (nI 3), .int c1, .int c2, .int c, .int d] M 2 12 (RV (.int v) Φ) := by
  refine Run.of (l0 := [some (.ref x), some (.int (nI 3)), some (.int c1), some (.int c2), some (.int c), some (.int d)]) (by decide +kernel) (Nat.le_of_ble_eq_true rfl) (by rfl) (fun Γ G C => ?_)
  refine pw_iload_n (q := 1) (j := 1) C dL_call_0 rfl rfl rfl ?_
  
  · refine pw_tableIn (q := 0) 117 C dL_call_1 (by decide +kernel) (by decide +kernel) (by rfl) (by decide) ?_
    refine pw_aload_n (q := 118) (j := 0) C dL_call_117 rfl rfl rfl ?_
    refine pw_iload_n (q := 119) (j := 2) C dL_call_118 rfl rfl rfl ?_
    refine pw_iload_n (q := 120) (j := 3) C dL_call_119 rfl rfl rfl ?_
    refine pw_val (q := 123) (cr_sh (j := iL_tryCourse) C dL_call_120 lL_109 mL_tryCourse (ro_mk (by decide) (by decide))  (hp) rfl rfl (Nat.le_of_ble_eq_true rfl) ⟨by omega, by omega⟩) rfl (fun M120 e120 => ?_)
    exact pw_iret C dL_call_123 rfl ⟨by omega, by omega⟩ (RV.mk rfl e120)
set_option maxHeartbeats 200000 in
set_option maxRecDepth 100000 in
theorem cp_mason {M : PH} {x : Nat} {v : Int32} {c1 : Int32} {c2 : Int32} {c : Int32} {d : Int32} (hp : RunH iL_tryMason hL_tryMason [.ref x, .int c1, .int c2] M 0 0 (RV (.int v) (fun M1 => M1 = M))) : Run iL_call [.ref x, .int (nI 4), .int c1, .int c2, .int c, .int d] M 0 0 (RV (.int v) (fun M1 => M1 = M)) := by
  refine Run.of (l0 := [some (.ref x), some (.int (nI 4)), some (.int c1), some (.int c2), some (.int c), some (.int d)]) (by decide +kernel) (Nat.le_of_ble_eq_true rfl) (by rfl) (fun Γ G C => ?_)
  refine pw_iload_n (q := 1) (j := 1) C dL_call_0 rfl rfl rfl ?_
  
  · refine pw_tableIn (q := 0) 124 C dL_call_1 (by decide +kernel) (by decide +kernel) (by rfl) (by decide) ?_
    refine pw_aload_n (q := 125) (j := 0) C dL_call_124 rfl rfl rfl ?_
    refine pw_iload_n (q := 126) (j := 2) C dL_call_125 rfl rfl rfl ?_
    refine pw_iload_n (q := 127) (j := 3) C dL_call_126 rfl rfl rfl ?_
    refine pw_rd (q := 130) (cr_sh (j := iL_tryMason) C dL_call_127 lL_113 mL_tryMason (ro_mk (by decide) (by decide))  (hp) rfl rfl (Nat.le_of_ble_eq_true rfl) ⟨by omega, by omega⟩) rfl ?_
    exact pw_iret C dL_call_130 rfl ⟨by omega, by omega⟩ (RV.mk rfl rfl)
set_option maxHeartbeats 200000 in
set_option maxRecDepth 100000 in
theorem c_mason {M : PH} {x : Nat} {v : Int32} {Φ : PH → Prop} {c1 : Int32} {c2 : Int32} {c : Int32} {d : Int32} (hp : RunH iL_tryMason hL_tryMason [.ref x, .int c1, .int c2] M 2 12 (RV (.int v) Φ)) : Run iL_call [.ref x, .int (nI 4), .int c1, .int c2, .int c, .int d] M 2 12 (RV (.int v) Φ) := by
  refine Run.of (l0 := [some (.ref x), some (.int (nI 4)), some (.int c1), some (.int c2), some (.int c), some (.int d)]) (by decide +kernel) (Nat.le_of_ble_eq_true rfl) (by rfl) (fun Γ G C => ?_)
  refine pw_iload_n (q := 1) (j := 1) C dL_call_0 rfl rfl rfl ?_
  
  · refine pw_tableIn (q := 0) 124 C dL_call_1 (by decide +kernel) (by decide +kernel) (by rfl) (by decide) ?_
    refine pw_aload_n (q := 125) (j := 0) C dL_call_124 rfl rfl rfl ?_
    refine pw_iload_n (q := 126) (j := 2) C dL_call_125 rfl rfl rfl ?_
    refine pw_iload_n (q := 127) (j := 3) C dL_call_126 rfl rfl rfl ?_
    refine pw_val (q := 130) (cr_sh (j := iL_tryMason) C dL_call_127 lL_113 mL_tryMason (ro_mk (by decide) (by decide))  (hp) rfl rfl (Nat.le_of_ble_eq_true rfl) ⟨by omega, by omega⟩) rfl (fun M127 e127 => ?_)
    exact pw_iret C dL_call_130 rfl ⟨by omega, by omega⟩ (RV.mk rfl e127)
set_option maxHeartbeats 200000 in
set_option maxRecDepth 100000 in
theorem cp_stone {M : PH} {x : Nat} {v : Int32} {c1 : Int32} {c2 : Int32} {c : Int32} {d : Int32} (hp : RunH iL_tryStone hL_tryStone [.ref x, .int c1, .int c2] M 0 0 (RV (.int v) (fun M1 => M1 = M))) : Run iL_call [.ref x, .int (nI 5), .int c1, .int c2, .int c, .int d] M 0 0 (RV (.int v) (fun M1 => M1 = M)) := by
  refine Run.of (l0 := [some (.ref x), some (.int (nI 5)), some (.int c1), some (.int c2), some (.int c), some (.int d)]) (by decide +kernel) (Nat.le_of_ble_eq_true rfl) (by rfl) (fun Γ G C => ?_)
  refine pw_iload_n (q := 1) (j := 1) C dL_call_0 rfl rfl rfl ?_
  
  · refine pw_tableIn (q := 0) 131 C dL_call_1 (by decide +kernel) (by decide +kernel) (by rfl) (by decide) ?_
    refine pw_aload_n (q := 132) (j := 0) C dL_call_131 rfl rfl rfl ?_
    refine pw_iload_n (q := 133) (j := 2) C dL_call_132 rfl rfl rfl ?_
    refine pw_iload_n (q := 134) (j := 3) C dL_call_133 rfl rfl rfl ?_
    refine pw_rd (q := 137) (cr_sh (j := iL_tryStone) C dL_call_134 lL_116 mL_tryStone (ro_mk (by decide) (by decide))  (hp) rfl rfl (Nat.le_of_ble_eq_true rfl) ⟨by omega, by omega⟩) rfl ?_
    exact pw_iret C dL_call_137 rfl ⟨by omega, by omega⟩ (RV.mk rfl rfl)
set_option maxHeartbeats 200000 in
set_option maxRecDepth 100000 in
theorem c_stone {M : PH} {x : Nat} {v : Int32} {Φ : PH → Prop} {c1 : Int32} {c2 : Int32} {c : Int32} {d : Int32} (hp : RunH iL_tryStone hL_tryStone [.ref x, .int c1, .int c2] M 2 12 (RV (.int v) Φ)) : Run iL_call [.ref x, .int (nI 5), .int c1, .int c2, .int c, .int d] M 2 12 (RV (.int v) Φ) := by
  refine Run.of (l0 := [some (.ref x), some (.int (nI 5)), some (.int c1), some (.int c2), some (.int c), some (.int d)]) (by decide +kernel) (Nat.le_of_ble_eq_true rfl) (by rfl) (fun Γ G C => ?_)
  refine pw_iload_n (q := 1) (j := 1) C dL_call_0 rfl rfl rfl ?_
  
  · refine pw_tableIn (q := 0) 131 C dL_call_1 (by decide +kernel) (by decide +kernel) (by rfl) (by decide) ?_
    refine pw_aload_n (q := 132) (j := 0) C dL_call_131 rfl rfl rfl ?_
    refine pw_iload_n (q := 133) (j := 2) C dL_call_132 rfl rfl rfl ?_
    refine pw_iload_n (q := 134) (j := 3) C dL_call_133 rfl rfl rfl ?_
    refine pw_val (q := 137) (cr_sh (j := iL_tryStone) C dL_call_134 lL_116 mL_tryStone (ro_mk (by decide) (by decide))  (hp) rfl rfl (Nat.le_of_ble_eq_true rfl) ⟨by omega, by omega⟩) rfl (fun M134 e134 => ?_)
    exact pw_iret C dL_call_137 rfl ⟨by omega, by omega⟩ (RV.mk rfl e134)
set_option maxHeartbeats 200000 in
set_option maxRecDepth 100000 in
theorem cp_why {M : PH} {x : Nat} {v : Int32} {c1 : Int32} {b : Int32} {c : Int32} {d : Int32} (hp : RunH iL_tryWhy hL_tryWhy [.ref x, .int c1] M 0 0 (RV (.int v) (fun M1 => M1 = M))) : Run iL_call [.ref x, .int (nI 6), .int c1, .int b, .int c, .int d] M 0 0 (RV (.int v) (fun M1 => M1 = M)) := by
  refine Run.of (l0 := [some (.ref x), some (.int (nI 6)), some (.int c1), some (.int b), some (.int c), some (.int d)]) (by decide +kernel) (Nat.le_of_ble_eq_true rfl) (by rfl) (fun Γ G C => ?_)
  refine pw_iload_n (q := 1) (j := 1) C dL_call_0 rfl rfl rfl ?_
  
  · refine pw_tableIn (q := 0) 138 C dL_call_1 (by decide +kernel) (by decide +kernel) (by rfl) (by decide) ?_
    refine pw_aload_n (q := 139) (j := 0) C dL_call_138 rfl rfl rfl ?_
    refine pw_iload_n (q := 140) (j := 2) C dL_call_139 rfl rfl rfl ?_
    refine pw_rd (q := 143) (cr_sh (j := iL_tryWhy) C dL_call_140 lL_119 mL_tryWhy (ro_mk (by decide) (by decide))  (hp) rfl rfl (Nat.le_of_ble_eq_true rfl) ⟨by omega, by omega⟩) rfl ?_
    exact pw_iret C dL_call_143 rfl ⟨by omega, by omega⟩ (RV.mk rfl rfl)
set_option maxHeartbeats 200000 in
set_option maxRecDepth 100000 in
theorem c_why {M : PH} {x : Nat} {v : Int32} {Φ : PH → Prop} {c1 : Int32} {b : Int32} {c : Int32} {d : Int32} (hp : RunH iL_tryWhy hL_tryWhy [.ref x, .int c1] M 2 12 (RV (.int v) Φ)) : Run iL_call [.ref x, .int (nI 6), .int c1, .int b, .int c, .int d] M 2 12 (RV (.int v) Φ) := by
  refine Run.of (l0 := [some (.ref x), some (.int (nI 6)), some (.int c1), some (.int b), some (.int c), some (.int d)]) (by decide +kernel) (Nat.le_of_ble_eq_true rfl) (by rfl) (fun Γ G C => ?_)
  refine pw_iload_n (q := 1) (j := 1) C dL_call_0 rfl rfl rfl ?_
  
  · refine pw_tableIn (q := 0) 138 C dL_call_1 (by decide +kernel) (by decide +kernel) (by rfl) (by decide) ?_
    refine pw_aload_n (q := 139) (j := 0) C dL_call_138 rfl rfl rfl ?_
    refine pw_iload_n (q := 140) (j := 2) C dL_call_139 rfl rfl rfl ?_
    refine pw_val (q := 143) (cr_sh (j := iL_tryWhy) C dL_call_140 lL_119 mL_tryWhy (ro_mk (by decide) (by decide))  (hp) rfl rfl (Nat.le_of_ble_eq_true rfl) ⟨by omega, by omega⟩) rfl (fun M140 e140 => ?_)
    exact pw_iret C dL_call_143 rfl ⟨by omega, by omega⟩ (RV.mk rfl e140)
set_option maxHeartbeats 200000 in
set_option maxRecDepth 100000 in
theorem c_build {M : PH} {x : Nat} {v : Int32} {Φ : PH → Prop} {c1 : Int32} {c2 : Int32} {c3 : Int32} {d : Int32} (hp : RunH iL_tryBuild hL_tryBuild [.ref x, .int c1, .int c2, .int c3] M 2 12 (RV (.int v) Φ)) : Run iL_call [.ref x, .int (nI 7), .int c1, .int c2, .int c3, .int d] M 2 12 (RV (.int v) Φ) := by
  refine Run.of (l0 := [some (.ref x), some (.int (nI 7)), some (.int c1), some (.int c2), some (.int c3), some (.int d)]) (by decide +kernel) (Nat.le_of_ble_eq_true rfl) (by rfl) (fun Γ G C => ?_)
  refine pw_iload_n (q := 1) (j := 1) C dL_call_0 rfl rfl rfl ?_
  
  · refine pw_tableIn (q := 0) 144 C dL_call_1 (by decide +kernel) (by decide +kernel) (by rfl) (by decide) ?_
    refine pw_aload_n (q := 145) (j := 0) C dL_call_144 rfl rfl rfl ?_
    refine pw_iload_n (q := 146) (j := 2) C dL_call_145 rfl rfl rfl ?_
    refine pw_iload_n (q := 147) (j := 3) C dL_call_146 rfl rfl rfl ?_
    refine pw_iload (q := 149) C dL_call_147 rfl rfl ?_
    refine pw_val (q := 152) (cr_sh (j := iL_tryBuild) C dL_call_149 lL_122 mL_tryBuild (ro_mk (by decide) (by decide))  (hp) rfl rfl (Nat.le_of_ble_eq_true rfl) ⟨by omega, by omega⟩) rfl (fun M149 e149 => ?_)
    exact pw_iret C dL_call_152 rfl ⟨by omega, by omega⟩ (RV.mk rfl e149)
set_option maxHeartbeats 200000 in
set_option maxRecDepth 100000 in
theorem c_hire {M : PH} {x : Nat} {v : Int32} {Φ : PH → Prop} {c1 : Int32} {c2 : Int32} {c : Int32} {d : Int32} (hp : RunH iL_tryHire hL_tryHire [.ref x, .int c1, .int c2] M 2 12 (RV (.int v) Φ)) : Run iL_call [.ref x, .int (nI 8), .int c1, .int c2, .int c, .int d] M 2 12 (RV (.int v) Φ) := by
  refine Run.of (l0 := [some (.ref x), some (.int (nI 8)), some (.int c1), some (.int c2), some (.int c), some (.int d)]) (by decide +kernel) (Nat.le_of_ble_eq_true rfl) (by rfl) (fun Γ G C => ?_)
  refine pw_iload_n (q := 1) (j := 1) C dL_call_0 rfl rfl rfl ?_
  
  · refine pw_tableIn (q := 0) 153 C dL_call_1 (by decide +kernel) (by decide +kernel) (by rfl) (by decide) ?_
    refine pw_aload_n (q := 154) (j := 0) C dL_call_153 rfl rfl rfl ?_
    refine pw_iload_n (q := 155) (j := 2) C dL_call_154 rfl rfl rfl ?_
    refine pw_iload_n (q := 156) (j := 3) C dL_call_155 rfl rfl rfl ?_
    refine pw_val (q := 159) (cr_sh (j := iL_tryHire) C dL_call_156 lL_126 mL_tryHire (ro_mk (by decide) (by decide))  (hp) rfl rfl (Nat.le_of_ble_eq_true rfl) ⟨by omega, by omega⟩) rfl (fun M156 e156 => ?_)
    exact pw_iret C dL_call_159 rfl ⟨by omega, by omega⟩ (RV.mk rfl e156)
set_option maxHeartbeats 200000 in
set_option maxRecDepth 100000 in
theorem c_rate {M : PH} {x : Nat} {v : Int32} {Φ : PH → Prop} {c1 : Int32} {c2 : Int32} {c : Int32} {d : Int32} (hp : RunH iL_tryRate hL_tryRate [.ref x, .int c1, .int c2] M 2 12 (RV (.int v) Φ)) : Run iL_call [.ref x, .int (nI 9), .int c1, .int c2, .int c, .int d] M 2 12 (RV (.int v) Φ) := by
  refine Run.of (l0 := [some (.ref x), some (.int (nI 9)), some (.int c1), some (.int c2), some (.int c), some (.int d)]) (by decide +kernel) (Nat.le_of_ble_eq_true rfl) (by rfl) (fun Γ G C => ?_)
  refine pw_iload_n (q := 1) (j := 1) C dL_call_0 rfl rfl rfl ?_
  
  · refine pw_tableIn (q := 0) 160 C dL_call_1 (by decide +kernel) (by decide +kernel) (by rfl) (by decide) ?_
    refine pw_aload_n (q := 161) (j := 0) C dL_call_160 rfl rfl rfl ?_
    refine pw_iload_n (q := 162) (j := 2) C dL_call_161 rfl rfl rfl ?_
    refine pw_iload_n (q := 163) (j := 3) C dL_call_162 rfl rfl rfl ?_
    refine pw_val (q := 166) (cr_sh (j := iL_tryRate) C dL_call_163 lL_129 mL_tryRate (ro_mk (by decide) (by decide))  (hp) rfl rfl (Nat.le_of_ble_eq_true rfl) ⟨by omega, by omega⟩) rfl (fun M163 e163 => ?_)
    exact pw_iret C dL_call_166 rfl ⟨by omega, by omega⟩ (RV.mk rfl e163)
set_option maxHeartbeats 200000 in
set_option maxRecDepth 100000 in
theorem c_bound {M : PH} {x : Nat} {v : Int32} {Φ : PH → Prop} {c1 : Int32} {b : Int32} {c : Int32} {d : Int32} (hp : RunH iL_tryBound hL_tryBound [.ref x, .int c1] M 2 12 (RV (.int v) Φ)) : Run iL_call [.ref x, .int (nI 10), .int c1, .int b, .int c, .int d] M 2 12 (RV (.int v) Φ) := by
  refine Run.of (l0 := [some (.ref x), some (.int (nI 10)), some (.int c1), some (.int b), some (.int c), some (.int d)]) (by decide +kernel) (Nat.le_of_ble_eq_true rfl) (by rfl) (fun Γ G C => ?_)
  refine pw_iload_n (q := 1) (j := 1) C dL_call_0 rfl rfl rfl ?_
  
  · refine pw_tableIn (q := 0) 167 C dL_call_1 (by decide +kernel) (by decide +kernel) (by rfl) (by decide) ?_
    refine pw_aload_n (q := 168) (j := 0) C dL_call_167 rfl rfl rfl ?_
    refine pw_iload_n (q := 169) (j := 2) C dL_call_168 rfl rfl rfl ?_
    refine pw_val (q := 172) (cr_sh (j := iL_tryBound) C dL_call_169 lL_132 mL_tryBound (ro_mk (by decide) (by decide))  (hp) rfl rfl (Nat.le_of_ble_eq_true rfl) ⟨by omega, by omega⟩) rfl (fun M169 e169 => ?_)
    exact pw_iret C dL_call_172 rfl ⟨by omega, by omega⟩ (RV.mk rfl e169)
set_option maxHeartbeats 200000 in
set_option maxRecDepth 100000 in
theorem c_cut {M : PH} {x : Nat} {v : Int32} {Φ : PH → Prop} {c1 : Int32} {c2 : Int32} {c3 : Int32} {d : Int32} (hp : RunH iL_tryCut hL_tryCut [.ref x, .int c1, .int c2, .int c3] M 2 12 (RV (.int v) Φ)) : Run iL_call [.ref x, .int (nI 11), .int c1, .int c2, .int c3, .int d] M 2 12 (RV (.int v) Φ) := by
  refine Run.of (l0 := [some (.ref x), some (.int (nI 11)), some (.int c1), some (.int c2), some (.int c3), some (.int d)]) (by decide +kernel) (Nat.le_of_ble_eq_true rfl) (by rfl) (fun Γ G C => ?_)
  refine pw_iload_n (q := 1) (j := 1) C dL_call_0 rfl rfl rfl ?_
  
  · refine pw_tableIn (q := 0) 173 C dL_call_1 (by decide +kernel) (by decide +kernel) (by rfl) (by decide) ?_
    refine pw_aload_n (q := 174) (j := 0) C dL_call_173 rfl rfl rfl ?_
    refine pw_iload_n (q := 175) (j := 2) C dL_call_174 rfl rfl rfl ?_
    refine pw_iload_n (q := 176) (j := 3) C dL_call_175 rfl rfl rfl ?_
    refine pw_iload (q := 178) C dL_call_176 rfl rfl ?_
    refine pw_val (q := 181) (cr_sh (j := iL_tryCut) C dL_call_178 lL_135 mL_tryCut (ro_mk (by decide) (by decide))  (hp) rfl rfl (Nat.le_of_ble_eq_true rfl) ⟨by omega, by omega⟩) rfl (fun M178 e178 => ?_)
    exact pw_iret C dL_call_181 rfl ⟨by omega, by omega⟩ (RV.mk rfl e178)
set_option maxHeartbeats 200000 in
set_option maxRecDepth 100000 in
theorem c_inspect {M : PH} {x : Nat} {v : Int32} {Φ : PH → Prop} {c1 : Int32} {b : Int32} {c : Int32} {d : Int32} (hp : RunH iL_tryInspect hL_tryInspect [.ref x, .int c1] M 2 12 (RV (.int v) Φ)) : Run iL_call [.ref x, .int (nI 12), .int c1, .int b, .int c, .int d] M 2 12 (RV (.int v) Φ) := by
  refine Run.of (l0 := [some (.ref x), some (.int (nI 12)), some (.int c1), some (.int b), some (.int c), some (.int d)]) (by decide +kernel) (Nat.le_of_ble_eq_true rfl) (by rfl) (fun Γ G C => ?_)
  refine pw_iload_n (q := 1) (j := 1) C dL_call_0 rfl rfl rfl ?_
  
  · refine pw_tableIn (q := 0) 182 C dL_call_1 (by decide +kernel) (by decide +kernel) (by rfl) (by decide) ?_
    refine pw_aload_n (q := 183) (j := 0) C dL_call_182 rfl rfl rfl ?_
    refine pw_iload_n (q := 184) (j := 2) C dL_call_183 rfl rfl rfl ?_
    refine pw_val (q := 187) (cr_sh (j := iL_tryInspect) C dL_call_184 lL_138 mL_tryInspect (ro_mk (by decide) (by decide))  (hp) rfl rfl (Nat.le_of_ble_eq_true rfl) ⟨by omega, by omega⟩) rfl (fun M184 e184 => ?_)
    exact pw_iret C dL_call_187 rfl ⟨by omega, by omega⟩ (RV.mk rfl e184)
set_option maxHeartbeats 200000 in
set_option maxRecDepth 100000 in
theorem c_recut {M : PH} {x : Nat} {v : Int32} {Φ : PH → Prop} {c1 : Int32} {c2 : Int32} {c3 : Int32} {d : Int32} (hp : RunH iL_tryRecut hL_tryRecut [.ref x, .int c1, .int c2, .int c3] M 2 12 (RV (.int v) Φ)) : Run iL_call [.ref x, .int (nI 13), .int c1, .int c2, .int c3, .int d] M 2 12 (RV (.int v) Φ) := by
  refine Run.of (l0 := [some (.ref x), some (.int (nI 13)), some (.int c1), some (.int c2), some (.int c3), some (.int d)]) (by decide +kernel) (Nat.le_of_ble_eq_true rfl) (by rfl) (fun Γ G C => ?_)
  refine pw_iload_n (q := 1) (j := 1) C dL_call_0 rfl rfl rfl ?_
  
  · refine pw_tableIn (q := 0) 188 C dL_call_1 (by decide +kernel) (by decide +kernel) (by rfl) (by decide) ?_
    refine pw_aload_n (q := 189) (j := 0) C dL_call_188 rfl rfl rfl ?_
    refine pw_iload_n (q := 190) (j := 2) C dL_call_189 rfl rfl rfl ?_
    refine pw_iload_n (q := 191) (j := 3) C dL_call_190 rfl rfl rfl ?_
    refine pw_iload (q := 193) C dL_call_191 rfl rfl ?_
    refine pw_val (q := 196) (cr_sh (j := iL_tryRecut) C dL_call_193 lL_141 mL_tryRecut (ro_mk (by decide) (by decide))  (hp) rfl rfl (Nat.le_of_ble_eq_true rfl) ⟨by omega, by omega⟩) rfl (fun M193 e193 => ?_)
    exact pw_iret C dL_call_196 rfl ⟨by omega, by omega⟩ (RV.mk rfl e193)
set_option maxHeartbeats 200000 in
set_option maxRecDepth 100000 in
theorem c_scrap {M : PH} {x : Nat} {v : Int32} {Φ : PH → Prop} {c1 : Int32} {b : Int32} {c : Int32} {d : Int32} (hp : RunH iL_tryScrap hL_tryScrap [.ref x, .int c1] M 2 12 (RV (.int v) Φ)) : Run iL_call [.ref x, .int (nI 14), .int c1, .int b, .int c, .int d] M 2 12 (RV (.int v) Φ) := by
  refine Run.of (l0 := [some (.ref x), some (.int (nI 14)), some (.int c1), some (.int b), some (.int c), some (.int d)]) (by decide +kernel) (Nat.le_of_ble_eq_true rfl) (by rfl) (fun Γ G C => ?_)
  refine pw_iload_n (q := 1) (j := 1) C dL_call_0 rfl rfl rfl ?_
  
  · refine pw_tableIn (q := 0) 197 C dL_call_1 (by decide +kernel) (by decide +kernel) (by rfl) (by decide) ?_
    refine pw_aload_n (q := 198) (j := 0) C dL_call_197 rfl rfl rfl ?_
    refine pw_iload_n (q := 199) (j := 2) C dL_call_198 rfl rfl rfl ?_
    refine pw_val (q := 202) (cr_sh (j := iL_tryScrap) C dL_call_199 lL_144 mL_tryScrap (ro_mk (by decide) (by decide))  (hp) rfl rfl (Nat.le_of_ble_eq_true rfl) ⟨by omega, by omega⟩) rfl (fun M199 e199 => ?_)
    exact pw_iret C dL_call_202 rfl ⟨by omega, by omega⟩ (RV.mk rfl e199)
set_option maxHeartbeats 200000 in
set_option maxRecDepth 100000 in
theorem c_place {M : PH} {x : Nat} {v : Int32} {Φ : PH → Prop} {c1 : Int32} {b : Int32} {c : Int32} {d : Int32} (hp : RunH iL_tryPlace hL_tryPlace [.ref x, .int c1] M 2 12 (RV (.int v) Φ)) : Run iL_call [.ref x, .int (nI 15), .int c1, .int b, .int c, .int d] M 2 12 (RV (.int v) Φ) := by
  refine Run.of (l0 := [some (.ref x), some (.int (nI 15)), some (.int c1), some (.int b), some (.int c), some (.int d)]) (by decide +kernel) (Nat.le_of_ble_eq_true rfl) (by rfl) (fun Γ G C => ?_)
  refine pw_iload_n (q := 1) (j := 1) C dL_call_0 rfl rfl rfl ?_
  
  · refine pw_tableIn (q := 0) 203 C dL_call_1 (by decide +kernel) (by decide +kernel) (by rfl) (by decide) ?_
    refine pw_aload_n (q := 204) (j := 0) C dL_call_203 rfl rfl rfl ?_
    refine pw_iload_n (q := 205) (j := 2) C dL_call_204 rfl rfl rfl ?_
    refine pw_val (q := 208) (cr_sh (j := iL_tryPlace) C dL_call_205 lL_147 mL_tryPlace (ro_mk (by decide) (by decide))  (hp) rfl rfl (Nat.le_of_ble_eq_true rfl) ⟨by omega, by omega⟩) rfl (fun M205 e205 => ?_)
    exact pw_iret C dL_call_208 rfl ⟨by omega, by omega⟩ (RV.mk rfl e205)
set_option maxHeartbeats 200000 in
set_option maxRecDepth 100000 in
theorem c_undo {M : PH} {x : Nat} {v : Int32} {Φ : PH → Prop} {a : Int32} {b : Int32} {c : Int32} {d : Int32} (hp : RunH iL_tryUndo hL_tryUndo [.ref x] M 2 12 (RV (.int v) Φ)) : Run iL_call [.ref x, .int (nI 16), .int a, .int b, .int c, .int d] M 2 12 (RV (.int v) Φ) := by
  refine Run.of (l0 := [some (.ref x), some (.int (nI 16)), some (.int a), some (.int b), some (.int c), some (.int d)]) (by decide +kernel) (Nat.le_of_ble_eq_true rfl) (by rfl) (fun Γ G C => ?_)
  refine pw_iload_n (q := 1) (j := 1) C dL_call_0 rfl rfl rfl ?_
  
  · refine pw_tableIn (q := 0) 209 C dL_call_1 (by decide +kernel) (by decide +kernel) (by rfl) (by decide) ?_
    refine pw_aload_n (q := 210) (j := 0) C dL_call_209 rfl rfl rfl ?_
    refine pw_val (q := 213) (cr_sh (j := iL_tryUndo) C dL_call_210 lL_150 mL_tryUndo (ro_mk (by decide) (by decide))  (hp) rfl rfl (Nat.le_of_ble_eq_true rfl) ⟨by omega, by omega⟩) rfl (fun M210 e210 => ?_)
    exact pw_iret C dL_call_213 rfl ⟨by omega, by omega⟩ (RV.mk rfl e210)
set_option maxHeartbeats 200000 in
set_option maxRecDepth 100000 in
theorem c_for {M : PH} {x : Nat} {v : Int32} {Φ : PH → Prop} {c1 : Int32} {b : Int32} {c : Int32} {d : Int32} (hp : RunH iL_tryFor hL_tryFor [.ref x, .int c1] M 2 12 (RV (.int v) Φ)) : Run iL_call [.ref x, .int (nI 17), .int c1, .int b, .int c, .int d] M 2 12 (RV (.int v) Φ) := by
  refine Run.of (l0 := [some (.ref x), some (.int (nI 17)), some (.int c1), some (.int b), some (.int c), some (.int d)]) (by decide +kernel) (Nat.le_of_ble_eq_true rfl) (by rfl) (fun Γ G C => ?_)
  refine pw_iload_n (q := 1) (j := 1) C dL_call_0 rfl rfl rfl ?_
  
  · refine pw_tableIn (q := 0) 214 C dL_call_1 (by decide +kernel) (by decide +kernel) (by rfl) (by decide) ?_
    refine pw_aload_n (q := 215) (j := 0) C dL_call_214 rfl rfl rfl ?_
    refine pw_iload_n (q := 216) (j := 2) C dL_call_215 rfl rfl rfl ?_
    refine pw_val (q := 219) (cr_sh (j := iL_tryFor) C dL_call_216 lL_153 mL_tryFor (ro_mk (by decide) (by decide))  (hp) rfl rfl (Nat.le_of_ble_eq_true rfl) ⟨by omega, by omega⟩) rfl (fun M216 e216 => ?_)
    exact pw_iret C dL_call_219 rfl ⟨by omega, by omega⟩ (RV.mk rfl e216)
set_option maxHeartbeats 200000 in
set_option maxRecDepth 100000 in
theorem cp_cheapest {M : PH} {x : Nat} {v : Int32} {c1 : Int32} {b : Int32} {c : Int32} {d : Int32} (hp : RunH iL_tryCheapest hL_tryCheapest [.ref x, .int c1] M 0 0 (RV (.int v) (fun M1 => M1 = M))) : Run iL_call [.ref x, .int (nI 18), .int c1, .int b, .int c, .int d] M 0 0 (RV (.int v) (fun M1 => M1 = M)) := by
  refine Run.of (l0 := [some (.ref x), some (.int (nI 18)), some (.int c1), some (.int b), some (.int c), some (.int d)]) (by decide +kernel) (Nat.le_of_ble_eq_true rfl) (by rfl) (fun Γ G C => ?_)
  refine pw_iload_n (q := 1) (j := 1) C dL_call_0 rfl rfl rfl ?_
  
  · refine pw_tableIn (q := 0) 220 C dL_call_1 (by decide +kernel) (by decide +kernel) (by rfl) (by decide) ?_
    refine pw_aload_n (q := 221) (j := 0) C dL_call_220 rfl rfl rfl ?_
    refine pw_iload_n (q := 222) (j := 2) C dL_call_221 rfl rfl rfl ?_
    refine pw_rd (q := 225) (cr_sh (j := iL_tryCheapest) C dL_call_222 lL_156 mL_tryCheapest (ro_mk (by decide) (by decide))  (hp) rfl rfl (Nat.le_of_ble_eq_true rfl) ⟨by omega, by omega⟩) rfl ?_
    exact pw_iret C dL_call_225 rfl ⟨by omega, by omega⟩ (RV.mk rfl rfl)
set_option maxHeartbeats 200000 in
set_option maxRecDepth 100000 in
theorem c_cheapest {M : PH} {x : Nat} {v : Int32} {Φ : PH → Prop} {c1 : Int32} {b : Int32} {c : Int32} {d : Int32} (hp : RunH iL_tryCheapest hL_tryCheapest [.ref x, .int c1] M 2 12 (RV (.int v) Φ)) : Run iL_call [.ref x, .int (nI 18), .int c1, .int b, .int c, .int d] M 2 12 (RV (.int v) Φ) := by
  refine Run.of (l0 := [some (.ref x), some (.int (nI 18)), some (.int c1), some (.int b), some (.int c), some (.int d)]) (by decide +kernel) (Nat.le_of_ble_eq_true rfl) (by rfl) (fun Γ G C => ?_)
  refine pw_iload_n (q := 1) (j := 1) C dL_call_0 rfl rfl rfl ?_
  
  · refine pw_tableIn (q := 0) 220 C dL_call_1 (by decide +kernel) (by decide +kernel) (by rfl) (by decide) ?_
    refine pw_aload_n (q := 221) (j := 0) C dL_call_220 rfl rfl rfl ?_
    refine pw_iload_n (q := 222) (j := 2) C dL_call_221 rfl rfl rfl ?_
    refine pw_val (q := 225) (cr_sh (j := iL_tryCheapest) C dL_call_222 lL_156 mL_tryCheapest (ro_mk (by decide) (by decide))  (hp) rfl rfl (Nat.le_of_ble_eq_true rfl) ⟨by omega, by omega⟩) rfl (fun M222 e222 => ?_)
    exact pw_iret C dL_call_225 rfl ⟨by omega, by omega⟩ (RV.mk rfl e222)
set_option maxHeartbeats 200000 in
set_option maxRecDepth 100000 in
theorem cp_earn {M : PH} {x : Nat} {v : Int32} {c1 : Int32} {b : Int32} {c : Int32} {d : Int32} (hp : RunH iL_tryEarn hL_tryEarn [.ref x, .int c1] M 0 0 (RV (.int v) (fun M1 => M1 = M))) : Run iL_call [.ref x, .int (nI 19), .int c1, .int b, .int c, .int d] M 0 0 (RV (.int v) (fun M1 => M1 = M)) := by
  refine Run.of (l0 := [some (.ref x), some (.int (nI 19)), some (.int c1), some (.int b), some (.int c), some (.int d)]) (by decide +kernel) (Nat.le_of_ble_eq_true rfl) (by rfl) (fun Γ G C => ?_)
  refine pw_iload_n (q := 1) (j := 1) C dL_call_0 rfl rfl rfl ?_
  
  · refine pw_tableIn (q := 0) 226 C dL_call_1 (by decide +kernel) (by decide +kernel) (by rfl) (by decide) ?_
    refine pw_aload_n (q := 227) (j := 0) C dL_call_226 rfl rfl rfl ?_
    refine pw_iload_n (q := 228) (j := 2) C dL_call_227 rfl rfl rfl ?_
    refine pw_rd (q := 231) (cr_sh (j := iL_tryEarn) C dL_call_228 lL_159 mL_tryEarn (ro_mk (by decide) (by decide))  (hp) rfl rfl (Nat.le_of_ble_eq_true rfl) ⟨by omega, by omega⟩) rfl ?_
    exact pw_iret C dL_call_231 rfl ⟨by omega, by omega⟩ (RV.mk rfl rfl)
set_option maxHeartbeats 200000 in
set_option maxRecDepth 100000 in
theorem c_earn {M : PH} {x : Nat} {v : Int32} {Φ : PH → Prop} {c1 : Int32} {b : Int32} {c : Int32} {d : Int32} (hp : RunH iL_tryEarn hL_tryEarn [.ref x, .int c1] M 2 12 (RV (.int v) Φ)) : Run iL_call [.ref x, .int (nI 19), .int c1, .int b, .int c, .int d] M 2 12 (RV (.int v) Φ) := by
  refine Run.of (l0 := [some (.ref x), some (.int (nI 19)), some (.int c1), some (.int b), some (.int c), some (.int d)]) (by decide +kernel) (Nat.le_of_ble_eq_true rfl) (by rfl) (fun Γ G C => ?_)
  refine pw_iload_n (q := 1) (j := 1) C dL_call_0 rfl rfl rfl ?_
  
  · refine pw_tableIn (q := 0) 226 C dL_call_1 (by decide +kernel) (by decide +kernel) (by rfl) (by decide) ?_
    refine pw_aload_n (q := 227) (j := 0) C dL_call_226 rfl rfl rfl ?_
    refine pw_iload_n (q := 228) (j := 2) C dL_call_227 rfl rfl rfl ?_
    refine pw_val (q := 231) (cr_sh (j := iL_tryEarn) C dL_call_228 lL_159 mL_tryEarn (ro_mk (by decide) (by decide))  (hp) rfl rfl (Nat.le_of_ble_eq_true rfl) ⟨by omega, by omega⟩) rfl (fun M228 e228 => ?_)
    exact pw_iret C dL_call_231 rfl ⟨by omega, by omega⟩ (RV.mk rfl e228)
set_option maxHeartbeats 200000 in
set_option maxRecDepth 100000 in
theorem c_save {M : PH} {x : Nat} {v : Int32} {Φ : PH → Prop} {c1 : Int32} {b : Int32} {c : Int32} {d : Int32} (hp : RunH iL_trySave hL_trySave [.ref x, .int c1] M 2 12 (RV (.int v) Φ)) : Run iL_call [.ref x, .int (nI 20), .int c1, .int b, .int c, .int d] M 2 12 (RV (.int v) Φ) := by
  refine Run.of (l0 := [some (.ref x), some (.int (nI 20)), some (.int c1), some (.int b), some (.int c), some (.int d)]) (by decide +kernel) (Nat.le_of_ble_eq_true rfl) (by rfl) (fun Γ G C => ?_)
  refine pw_iload_n (q := 1) (j := 1) C dL_call_0 rfl rfl rfl ?_
  
  · refine pw_tableIn (q := 0) 232 C dL_call_1 (by decide +kernel) (by decide +kernel) (by rfl) (by decide) ?_
    refine pw_aload_n (q := 233) (j := 0) C dL_call_232 rfl rfl rfl ?_
    refine pw_iload_n (q := 234) (j := 2) C dL_call_233 rfl rfl rfl ?_
    refine pw_val (q := 237) (cr_sh (j := iL_trySave) C dL_call_234 lL_162 mL_trySave (ro_mk (by decide) (by decide))  (hp) rfl rfl (Nat.le_of_ble_eq_true rfl) ⟨by omega, by omega⟩) rfl (fun M234 e234 => ?_)
    exact pw_iret C dL_call_237 rfl ⟨by omega, by omega⟩ (RV.mk rfl e234)
set_option maxHeartbeats 200000 in
set_option maxRecDepth 100000 in
theorem c_restore {M : PH} {x : Nat} {v : Int32} {Φ : PH → Prop} {c1 : Int32} {b : Int32} {c : Int32} {d : Int32} (hp : RunH iL_tryRestore hL_tryRestore [.ref x, .int c1] M 2 12 (RV (.int v) Φ)) : Run iL_call [.ref x, .int (nI 21), .int c1, .int b, .int c, .int d] M 2 12 (RV (.int v) Φ) := by
  refine Run.of (l0 := [some (.ref x), some (.int (nI 21)), some (.int c1), some (.int b), some (.int c), some (.int d)]) (by decide +kernel) (Nat.le_of_ble_eq_true rfl) (by rfl) (fun Γ G C => ?_)
  refine pw_iload_n (q := 1) (j := 1) C dL_call_0 rfl rfl rfl ?_
  
  · refine pw_tableOut (q := 0) 238 C dL_call_1 (Or.inr (by decide +kernel)) (by decide) ?_
    refine pw_aload_n (q := 239) (j := 0) C dL_call_238 rfl rfl rfl ?_
    refine pw_iload_n (q := 240) (j := 2) C dL_call_239 rfl rfl rfl ?_
    refine pw_val (q := 243) (cr_sh (j := iL_tryRestore) C dL_call_240 lL_165 mL_tryRestore (ro_mk (by decide) (by decide))  (hp) rfl rfl (Nat.le_of_ble_eq_true rfl) ⟨by omega, by omega⟩) rfl (fun M240 e240 => ?_)
    exact pw_iret C dL_call_243 rfl ⟨by omega, by omega⟩ (RV.mk rfl e240)
