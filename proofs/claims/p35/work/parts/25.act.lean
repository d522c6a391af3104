/-! Actions. -/
theorem why_le (P : Nat → Nat) (s : Nat) : why P s ≤ 4 := by unfold why; split <;> (try split) <;> (try split) <;> (try split) <;> omega
def spAddCourse (S : St) (a b c : Int32) : RS := if inW a 1 9 ∧ inW b 1 6 ∧ inW c 1 9 then (if sP S 5 < 6 then (0, nI (sP S 5), wA S (newCourseP (sP S) (idx a) (idx b) (idx c))) else (2, 0, S)) else (1, 0, S)
def spAddMason (S : St) (a b : Int32) : RS := if inW a 1 9 ∧ inW b 1 12 then (if sP S 6 < 6 then (0, nI (sP S 6), wA S (newMasonP (sP S) (idx a) (idx b))) else (2, 0, S)) else (1, 0, S)
def spSetRate (S : St) (m r : Int32) : RS := if inI m (sP S 6) then (if inW r 1 9 then (0, nI (sP S (26 + 4 * idx m)), wA S (updN (sP S) (26 + 4 * idx m) (idx r))) else (2, 0, S)) else (1, 0, S)
def spSetBound (S : St) (b : Int32) : RS := if inW b 0 9 then (0, nI (sP S 0), wA S (updN (sP S) 0 (idx b))) else (1, 0, S)
def spCut (S : St) (m c f : Int32) : RS := if inI m (sP S 6) ∧ inI c (sP S 5) then (if inW f 0 9 then (if canCut (sP S) (idx m) (idx c) then (0, nI (sP S 7), wA S (cutP (sP S) (idx m) (idx c) (idx f))) else (3, 0, S)) else (2, 0, S)) else (1, 0, S)
def spInspect (S : St) (s : Int32) : RS := if inI s (sP S 7) then (if sP S (50 + 6 * idx s + 3) = 0 then (0, (if sP S 0 < sP S (50 + 6 * idx s + 2) then -9 else nI (price (sP S) (idx s))), wA S (inspectP (sP S) (idx s))) else (2, 0, S)) else (1, 0, S)
def spRecut (S : St) (m s c : Int32) : RS := if inI m (sP S 6) ∧ inI s (sP S 7) ∧ inI c (sP S 5) then (if canRecut (sP S) (idx m) (idx s) (idx c) then (0, nI (recutF (sP S) (idx s) (idx c)), wA S (recutP (sP S) (idx m) (idx s) (idx c))) else (2, 0, S)) else (1, 0, S)
def spScrap (S : St) (s : Int32) : RS := if inI s (sP S 7) then (if sP S (50 + 6 * idx s + 3) = 2 then (0, nI (cntS (stateP (sP S) (idx s) 4) 4), wA S (stateP (sP S) (idx s) 4)) else (2, 0, S)) else (1, 0, S)
def spSet (S : St) (s : Int32) : RS := if inI s (sP S 7) then (if why (sP S) (idx s) = 0 then (0, nI (cntC (stateP (sP S) (idx s) 3) (sP S (50 + 6 * idx s)) 3), wA S (stateP (sP S) (idx s) 3)) else (2, 0, S)) else (1, 0, S)
def spUndo (S : St) : RS := if sM S = 0 then (1, 0, S) else (0, nI (sM S - 1), (sN S, sT S, sH S (sM S - 1), sM S - 1, sH S, sB S, sK S))
theorem RepX.act {M M1 M2 : PH} {x : Nat} {S : St} {P : Nat → Nat} (h : RepX M x S) (hr : ∃ nx, RingAt M1 (x + 17) nx (min (sM S + 1) 14) (noteH (sM S) (sH S) (sP S))) (s1 : Same M M1 (x + 17) (x + 17 + 100)) (hl : LodgeAt M2 (x + 3) P) (s2 : Same M1 M2 (x + 3) (x + 3 + 7)) : RepX M2 x (wA S P) ∧ Fr M M2 x := by
  obtain ⟨a0, a1, a2, a3, ⟨Q, a4⟩, a5, a6, L, W, a7⟩ := h
  obtain ⟨nx, b5⟩ := hr
  have hs : ∀ q, (q < x + 17 ∨ x + 17 + 100 ≤ q) → (q < x + 3 ∨ x + 3 + 7 ≤ q) → M2.2 q = M.2 q := fun q g1 g2 => (s2.2 q g2).trans (s1.2 q g1)
  have hz : M2.1 = M.1 := s2.1.trans s1.1
  exact ⟨⟨(hs _ (by omega) (by omega)).trans a0, by omega, a2.keep (fun q g1 g2 => hs q (by omega) (by omega)), hl, ⟨Q, a4.keep (fun q g1 g2 => hs q (by omega) (by omega))⟩, ⟨nx, b5.keep (fun q g1 g2 => s2.2 q (by omega))⟩, a6.keep (fun q g1 g2 => hs q (by omega) (by omega)), L, W, a7.keep (fun q g1 g2 => hs q (by omega) (by omega))⟩, ⟨Nat.le_of_eq hz.symm, fun q _ g2 => hs q (by omega) (by omega)⟩⟩
theorem RepX.back {M M1 : PH} {x rem : Nat} {S : St} {P : Nat → Nat} (h : RepX M x S) (hr : ∃ nx, RingAt M1 (x + 17) nx rem (sH S)) (hl : LodgeAt M1 (x + 3) P) (s1 : Same2 M M1 (x + 17) (x + 17 + 1) (x + 3) (x + 3 + 7)) : RepX M1 x (sN S, sT S, P, rem, sH S, sB S, sK S) ∧ Fr M M1 x := by
  obtain ⟨a0, a1, a2, a3, ⟨Q, a4⟩, a5, a6, L, W, a7⟩ := h
  have hs := s1.2
  have hz : M1.1 = M.1 := s1.1
  exact ⟨⟨(hs _ (by omega) (by omega)).trans a0, by omega, a2.keep (fun q g1 g2 => hs q (by omega) (by omega)), hl, ⟨Q, a4.keep (fun q g1 g2 => hs q (by omega) (by omega))⟩, hr, a6.keep (fun q g1 g2 => hs q (by omega) (by omega)), L, W, a7.keep (fun q g1 g2 => hs q (by omega) (by omega))⟩, s1.fr (by omega) (by omega) (by omega) (by omega)⟩
set_option maxHeartbeats 200000 in
set_option maxRecDepth 100000 in
theorem p_addCourse {M : PH} {x D : Nat} {S : St} (hX : RepX M x S) (hS : SInv D S) (c1 c2 c3 : Int32) : Run iX10_addCourse [.ref x, .int c1, .int c2, .int c3] M 2 12 (QX M x (EX xA xS xS) (spAddCourse S c1 c2 c3)) := by
  obtain ⟨a0, ax, aT, hL, ⟨aQ, aq⟩, ⟨nx, aR⟩, aS, aL, aW, aF⟩ := id hX
  obtain ⟨fc, fm, fs, hG, hr⟩ := id hL
  have hI := hS.1.1
  have hb := hI.b
  refine Run.of (l0 := [some (.ref x), some (.int c1), some (.int c2), some (.int c3)]) (by decide +kernel) (Nat.le_of_ble_eq_true rfl) (by rfl) (fun Γ G C => ?_)
  by_cases h1 : inW c1 1 9
  · refine pw_iload_n (q := 1) (j := 1) C dX10_addCourse_0 rfl rfl rfl ?_
    refine pw_iconst_n (q := 2) C 1 dX10_addCourse_1 (by decide +kernel) rfl ?_
    refine pw_bipush_n (q := 4) C 9 dX10_addCourse_2 (by decide +kernel) rfl ?_
    refine pw_rd (q := 7) (cr_s (j := iX10_isWithin) C dX10_addCourse_4 lX10_47 mX10_isWithin (ro_mk (by decide) (by decide))  (i_in h1) rfl rfl (Nat.le_of_ble_eq_true rfl) ⟨by omega, by omega⟩) rfl ?_
    refine pw_if_eq_n (q := 10) 30 C dX10_addCourse_7 (by decide) rfl (by omega) (fun g7 => absurd g7 (by decide)) (fun g7 => ?_)
    by_cases h2 : inW c2 1 6
    · refine pw_iload_n (q := 11) (j := 2) C dX10_addCourse_10 rfl rfl rfl ?_
      refine pw_iconst_n (q := 12) C 1 dX10_addCourse_11 (by decide +kernel) rfl ?_
      refine pw_bipush_n (q := 14) C 6 dX10_addCourse_12 (by decide +kernel) rfl ?_
      refine pw_rd (q := 17) (cr_s (j := iX10_isWithin) C dX10_addCourse_14 lX10_47 mX10_isWithin (ro_mk (by decide) (by decide))  (i_in h2) rfl rfl (Nat.le_of_ble_eq_true rfl) ⟨by omega, by omega⟩) rfl ?_
      refine pw_if_eq_n (q := 20) 30 C dX10_addCourse_17 (by decide) rfl (by omega) (fun g17 => absurd g17 (by decide)) (fun g17 => ?_)
      by_cases h3 : inW c3 1 9
      · refine pw_iload_n (q := 21) (j := 3) C dX10_addCourse_20 rfl rfl rfl ?_
        refine pw_iconst_n (q := 22) C 1 dX10_addCourse_21 (by decide +kernel) rfl ?_
        refine pw_bipush_n (q := 24) C 9 dX10_addCourse_22 (by decide +kernel) rfl ?_
        refine pw_rd (q := 27) (cr_s (j := iX10_isWithin) C dX10_addCourse_24 lX10_47 mX10_isWithin (ro_mk (by decide) (by decide))  (i_in h3) rfl rfl (Nat.le_of_ble_eq_true rfl) ⟨by omega, by omega⟩) rfl ?_
        refine pw_if_ne_n (q := 30) 40 C dX10_addCourse_27 (by decide) rfl (by omega) (fun g27 => ?_) (fun g27 => absurd g27 (fun q => absurd q (by decide)))
        obtain ⟨k1, hl1, hk1, rfl⟩ := inW_n h1 (by omega) (by omega)
        obtain ⟨k2, hl2, hk2, rfl⟩ := inW_n h2 (by omega) (by omega)
        obtain ⟨k3, hl3, hk3, rfl⟩ := inW_n h3 (by omega) (by omega)
        refine pw_aload_n (q := 41) (j := 0) C dX10_addCourse_40 rfl rfl rfl ?_
        refine pw_getf (q := 44) C dX10_addCourse_41 fX10_19 a0 (by rfl) rfl ?_
        refine pw_getf (q := 47) C dX10_addCourse_44 fX10_104 hG.1 (by rfl) rfl ?_
        refine pw_rd (q := 50) (cr_v (j := iX8_hasRoom) C dX10_addCourse_47 lX10_172 mX8_hasRoom (ro_mk (by decide) (by decide)) hG.2.1.1 rfl (k_hasRoom hG.2.1) rfl rfl (Nat.le_of_ble_eq_true rfl) ⟨by omega, by omega⟩) rfl ?_
        refine pw_if_ne_b (q := 53) 63 C dX10_addCourse_50 (by decide) rfl (fun g50 => ?_) (fun g50 => ?_)
        · refine pw_aload_n (q := 64) (j := 0) C dX10_addCourse_63 rfl rfl rfl ?_
          refine pw_getf (q := 67) C dX10_addCourse_64 fX10_29 a0 (by rfl) rfl ?_
          refine pw_aload_n (q := 68) (j := 0) C dX10_addCourse_67 rfl rfl rfl ?_
          refine pw_getf (q := 71) C dX10_addCourse_68 fX10_19 a0 (by rfl) rfl ?_
          refine pw_void (q := 74) (cr_v (j := iX3_remember) C dX10_addCourse_71 lX10_177 mX3_remember (ro_mk (by decide) (by decide)) aR.1 rfl (r_remember aR hL hb.2.1 (by omega)) rfl rfl (Nat.le_of_ble_eq_true rfl) ⟨by omega, by omega⟩) rfl (fun M71 e71 => ?_)
          obtain ⟨hR8, sm8⟩ := e71
          have hL := hL.far sm8 (by omega)
          obtain ⟨fc, fm, fs, hG, hr⟩ := id hL
          have a0 := (sm8.2 x (by omega)).trans a0
          refine pw_aload_n (q := 75) (j := 0) C dX10_addCourse_74 rfl rfl rfl ?_
          refine pw_getf (q := 78) C dX10_addCourse_75 fX10_19 a0 (by rfl) rfl ?_
          refine pw_iload_n (q := 79) (j := 1) C dX10_addCourse_78 rfl rfl rfl ?_
          refine pw_iload_n (q := 80) (j := 2) C dX10_addCourse_79 rfl rfl rfl ?_
          refine pw_iload_n (q := 81) (j := 3) C dX10_addCourse_80 rfl rfl rfl ?_
          refine pw_val (q := 84) (cr_v (j := iX2_newCourse) C dX10_addCourse_81 lX10_181 mX2_newCourse (ro_mk (by decide) (by decide)) hG.1 rfl (w_newCourse hL g50) rfl rfl (Nat.le_of_ble_eq_true rfl) ⟨by omega, by omega⟩) rfl (fun M81 e81 => ?_)
          exact pw_iret C dX10_addCourse_84 rfl ⟨by omega, by omega⟩ (by
              obtain ⟨hL9, sm9⟩ := e81
              have t := hX.act ⟨_, hR8⟩ sm8 hL9 sm9
              exact QX.ok (by rw [spAddCourse, if_pos ⟨h1, h2, h3⟩, if_pos g50, idx_n (show k1 < 2147483648 by omega), idx_n (show k2 < 2147483648 by omega), idx_n (show k3 < 2147483648 by omega)]) t.1 t.2)
        · refine pw_throw (T := []) C twX10_62_175_66 dX10_addCourse_53 dX10_addCourse_56 dX10_addCourse_57 dX10_addCourse_59 dX10_addCourse_62 ⟨by decide, Nat.le_of_ble_eq_true rfl⟩ ⟨by omega, by omega⟩ (fun z hz => QX.no 1 (by rw [spAddCourse, if_pos ⟨h1, h2, h3⟩, if_neg g50]) rfl (hX.up hz) (Fr.up hz))
      · refine pw_iload_n (q := 21) (j := 3) C dX10_addCourse_20 rfl rfl rfl ?_
        refine pw_iconst_n (q := 22) C 1 dX10_addCourse_21 (by decide +kernel) rfl ?_
        refine pw_bipush_n (q := 24) C 9 dX10_addCourse_22 (by decide +kernel) rfl ?_
        refine pw_rd (q := 27) (cr_s (j := iX10_isWithin) C dX10_addCourse_24 lX10_47 mX10_isWithin (ro_mk (by decide) (by decide))  (i_out h3) rfl rfl (Nat.le_of_ble_eq_true rfl) ⟨by omega, by omega⟩) rfl ?_
        refine pw_if_ne_n (q := 30) 40 C dX10_addCourse_27 (by decide) rfl (by omega) (fun g27 => absurd g27 (by omega)) (fun g27 => ?_)
        refine pw_throw (T := []) C twX10_51_170_55 dX10_addCourse_30 dX10_addCourse_33 dX10_addCourse_34 dX10_addCourse_36 dX10_addCourse_39 ⟨by decide, Nat.le_of_ble_eq_true rfl⟩ ⟨by omega, by omega⟩ (fun z hz => QX.no 0 (by rw [spAddCourse, if_neg (fun q => h3 q.2.2)]) rfl (hX.up hz) (Fr.up hz))
    · refine pw_iload_n (q := 11) (j := 2) C dX10_addCourse_10 rfl rfl rfl ?_
      refine pw_iconst_n (q := 12) C 1 dX10_addCourse_11 (by decide +kernel) rfl ?_
      refine pw_bipush_n (q := 14) C 6 dX10_addCourse_12 (by decide +kernel) rfl ?_
      refine pw_rd (q := 17) (cr_s (j := iX10_isWithin) C dX10_addCourse_14 lX10_47 mX10_isWithin (ro_mk (by decide) (by decide))  (i_out h2) rfl rfl (Nat.le_of_ble_eq_true rfl) ⟨by omega, by omega⟩) rfl ?_
      refine pw_if_eq_n (q := 20) 30 C dX10_addCourse_17 (by decide) rfl (by omega) (fun g17 => ?_) (fun g17 => absurd g17 (fun q => q rfl))
      refine pw_throw (T := []) C twX10_51_170_55 dX10_addCourse_30 dX10_addCourse_33 dX10_addCourse_34 dX10_addCourse_36 dX10_addCourse_39 ⟨by decide, Nat.le_of_ble_eq_true rfl⟩ ⟨by omega, by omega⟩ (fun z hz => QX.no 0 (by rw [spAddCourse, if_neg (fun q => h2 q.2.1)]) rfl (hX.up hz) (Fr.up hz))
  · refine pw_iload_n (q := 1) (j := 1) C dX10_addCourse_0 rfl rfl rfl ?_
    refine pw_iconst_n (q := 2) C 1 dX10_addCourse_1 (by decide +kernel) rfl ?_
    refine pw_bipush_n (q := 4) C 9 dX10_addCourse_2 (by decide +kernel) rfl ?_
    refine pw_rd (q := 7) (cr_s (j := iX10_isWithin) C dX10_addCourse_4 lX10_47 mX10_isWithin (ro_mk (by decide) (by decide))  (i_out h1) rfl rfl (Nat.le_of_ble_eq_true rfl) ⟨by omega, by omega⟩) rfl ?_
    refine pw_if_eq_n (q := 10) 30 C dX10_addCourse_7 (by decide) rfl (by omega) (fun g7 => ?_) (fun g7 => absurd g7 (fun q => q rfl))
    refine pw_throw (T := []) C twX10_51_170_55 dX10_addCourse_30 dX10_addCourse_33 dX10_addCourse_34 dX10_addCourse_36 dX10_addCourse_39 ⟨by decide, Nat.le_of_ble_eq_true rfl⟩ ⟨by omega, by omega⟩ (fun z hz => QX.no 0 (by rw [spAddCourse, if_neg (fun q => h1 q.1)]) rfl (hX.up hz) (Fr.up hz))
set_option maxHeartbeats 200000 in
set_option maxRecDepth 100000 in
theorem p_addMason {M : PH} {x D : Nat} {S : St} (hX : RepX M x S) (hS : SInv D S) (c1 c2 : Int32) : Run iX10_addMason [.ref x, .int c1, .int c2] M 2 12 (QX M x (EX xA xS xS) (spAddMason S c1 c2)) := by
  obtain ⟨a0, ax, aT, hL, ⟨aQ, aq⟩, ⟨nx, aR⟩, aS, aL, aW, aF⟩ := id hX
  obtain ⟨fc, fm, fs, hG, hr⟩ := id hL
  have hI := hS.1.1
  have hb := hI.b
  refine Run.of (l0 := [some (.ref x), some (.int c1), some (.int c2)]) (by decide +kernel) (Nat.le_of_ble_eq_true rfl) (by rfl) (fun Γ G C => ?_)
  by_cases h1 : inW c1 1 9
  · refine pw_iload_n (q := 1) (j := 1) C dX10_addMason_0 rfl rfl rfl ?_
    refine pw_iconst_n (q := 2) C 1 dX10_addMason_1 (by decide +kernel) rfl ?_
    refine pw_bipush_n (q := 4) C 9 dX10_addMason_2 (by decide +kernel) rfl ?_
    refine pw_rd (q := 7) (cr_s (j := iX10_isWithin) C dX10_addMason_4 lX10_47 mX10_isWithin (ro_mk (by decide) (by decide))  (i_in h1) rfl rfl (Nat.le_of_ble_eq_true rfl) ⟨by omega, by omega⟩) rfl ?_
    refine pw_if_eq_n (q := 10) 20 C dX10_addMason_7 (by decide) rfl (by omega) (fun g7 => absurd g7 (by decide)) (fun g7 => ?_)
    by_cases h2 : inW c2 1 12
    · refine pw_iload_n (q := 11) (j := 2) C dX10_addMason_10 rfl rfl rfl ?_
      refine pw_iconst_n (q := 12) C 1 dX10_addMason_11 (by decide +kernel) rfl ?_
      refine pw_bipush_n (q := 14) C 12 dX10_addMason_12 (by decide +kernel) rfl ?_
      refine pw_rd (q := 17) (cr_s (j := iX10_isWithin) C dX10_addMason_14 lX10_47 mX10_isWithin (ro_mk (by decide) (by decide))  (i_in h2) rfl rfl (Nat.le_of_ble_eq_true rfl) ⟨by omega, by omega⟩) rfl ?_
      refine pw_if_ne_n (q := 20) 30 C dX10_addMason_17 (by decide) rfl (by omega) (fun g17 => ?_) (fun g17 => absurd g17 (fun q => absurd q (by decide)))
      obtain ⟨k1, hl1, hk1, rfl⟩ := inW_n h1 (by omega) (by omega)
      obtain ⟨k2, hl2, hk2, rfl⟩ := inW_n h2 (by omega) (by omega)
      refine pw_aload_n (q := 31) (j := 0) C dX10_addMason_30 rfl rfl rfl ?_
      refine pw_getf (q := 34) C dX10_addMason_31 fX10_19 a0 (by rfl) rfl ?_
      refine pw_getf (q := 37) C dX10_addMason_34 fX10_107 hG.1 (by rfl) rfl ?_
      refine pw_rd (q := 40) (cr_v (j := iX8_hasRoom) C dX10_addMason_37 lX10_172 mX8_hasRoom (ro_mk (by decide) (by decide)) hG.2.2.1.1 rfl (k_hasRoom hG.2.2.1) rfl rfl (Nat.le_of_ble_eq_true rfl) ⟨by omega, by omega⟩) rfl ?_
      refine pw_if_ne_b (q := 43) 53 C dX10_addMason_40 (by decide) rfl (fun g40 => ?_) (fun g40 => ?_)
      · refine pw_aload_n (q := 54) (j := 0) C dX10_addMason_53 rfl rfl rfl ?_
        refine pw_getf (q := 57) C dX10_addMason_54 fX10_29 a0 (by rfl) rfl ?_
        refine pw_aload_n (q := 58) (j := 0) C dX10_addMason_57 rfl rfl rfl ?_
        refine pw_getf (q := 61) C dX10_addMason_58 fX10_19 a0 (by rfl) rfl ?_
        refine pw_void (q := 64) (cr_v (j := iX3_remember) C dX10_addMason_61 lX10_177 mX3_remember (ro_mk (by decide) (by decide)) aR.1 rfl (r_remember aR hL hb.2.1 (by omega)) rfl rfl (Nat.le_of_ble_eq_true rfl) ⟨by omega, by omega⟩) rfl (fun M61 e61 => ?_)
        obtain ⟨hR8, sm8⟩ := e61
        have hL := hL.far sm8 (by omega)
        obtain ⟨fc, fm, fs, hG, hr⟩ := id hL
        have a0 := (sm8.2 x (by omega)).trans a0
        refine pw_aload_n (q := 65) (j := 0) C dX10_addMason_64 rfl rfl rfl ?_
        refine pw_getf (q := 68) C dX10_addMason_65 fX10_19 a0 (by rfl) rfl ?_
        refine pw_iload_n (q := 69) (j := 1) C dX10_addMason_68 rfl rfl rfl ?_
        refine pw_iload_n (q := 70) (j := 2) C dX10_addMason_69 rfl rfl rfl ?_
        refine pw_val (q := 73) (cr_v (j := iX2_newMason) C dX10_addMason_70 lX10_189 mX2_newMason (ro_mk (by decide) (by decide)) hG.1 rfl (w_newMason hL g40) rfl rfl (Nat.le_of_ble_eq_true rfl) ⟨by omega, by omega⟩) rfl (fun M70 e70 => ?_)
        exact pw_iret C dX10_addMason_73 rfl ⟨by omega, by omega⟩ (by
            obtain ⟨hL9, sm9⟩ := e70
            have t := hX.act ⟨_, hR8⟩ sm8 hL9 sm9
            exact QX.ok (by rw [spAddMason, if_pos ⟨h1, h2⟩, if_pos g40, idx_n (show k1 < 2147483648 by omega), idx_n (show k2 < 2147483648 by omega)]) t.1 t.2)
      · refine pw_throw (T := []) C twX10_62_187_66 dX10_addMason_43 dX10_addMason_46 dX10_addMason_47 dX10_addMason_49 dX10_addMason_52 ⟨by decide, Nat.le_of_ble_eq_true rfl⟩ ⟨by omega, by omega⟩ (fun z hz => QX.no 1 (by rw [spAddMason, if_pos ⟨h1, h2⟩, if_neg g40]) rfl (hX.up hz) (Fr.up hz))
    · refine pw_iload_n (q := 11) (j := 2) C dX10_addMason_10 rfl rfl rfl ?_
      refine pw_iconst_n (q := 12) C 1 dX10_addMason_11 (by decide +kernel) rfl ?_
      refine pw_bipush_n (q := 14) C 12 dX10_addMason_12 (by decide +kernel) rfl ?_
      refine pw_rd (q := 17) (cr_s (j := iX10_isWithin) C dX10_addMason_14 lX10_47 mX10_isWithin (ro_mk (by decide) (by decide))  (i_out h2) rfl rfl (Nat.le_of_ble_eq_true rfl) ⟨by omega, by omega⟩) rfl ?_
      refine pw_if_ne_n (q := 20) 30 C dX10_addMason_17 (by decide) rfl (by omega) (fun g17 => absurd g17 (by omega)) (fun g17 => ?_)
      refine pw_throw (T := []) C twX10_51_185_55 dX10_addMason_20 dX10_addMason_23 dX10_addMason_24 dX10_addMason_26 dX10_addMason_29 ⟨by decide, Nat.le_of_ble_eq_true rfl⟩ ⟨by omega, by omega⟩ (fun z hz => QX.no 0 (by rw [spAddMason, if_neg (fun q => h2 q.2)]) rfl (hX.up hz) (Fr.up hz))
  · refine pw_iload_n (q := 1) (j := 1) C dX10_addMason_0 rfl rfl rfl ?_
    refine pw_iconst_n (q := 2) C 1 dX10_addMason_1 (by decide +kernel) rfl ?_
    refine pw_bipush_n (q := 4) C 9 dX10_addMason_2 (by decide +kernel) rfl ?_
    refine pw_rd (q := 7) (cr_s (j := iX10_isWithin) C dX10_addMason_4 lX10_47 mX10_isWithin (ro_mk (by decide) (by decide))  (i_out h1) rfl rfl (Nat.le_of_ble_eq_true rfl) ⟨by omega, by omega⟩) rfl ?_
    refine pw_if_eq_n (q := 10) 20 C dX10_addMason_7 (by decide) rfl (by omega) (fun g7 => ?_) (fun g7 => absurd g7 (fun q => q rfl))
    refine pw_throw (T := []) C twX10_51_185_55 dX10_addMason_20 dX10_addMason_23 dX10_addMason_24 dX10_addMason_26 dX10_addMason_29 ⟨by decide, Nat.le_of_ble_eq_true rfl⟩ ⟨by omega, by omega⟩ (fun z hz => QX.no 0 (by rw [spAddMason, if_neg (fun q => h1 q.1)]) rfl (hX.up hz) (Fr.up hz))
set_option maxHeartbeats 200000 in
set_option maxRecDepth 100000 in
theorem p_cut {M : PH} {x D : Nat} {S : St} (hX : RepX M x S) (hS : SInv D S) (c1 c2 c3 : Int32) : Run iX10_cut [.ref x, .int c1, .int c2, .int c3] M 2 12 (QX M x (EX xB xA xS) (spCut S c1 c2 c3)) := by
  obtain ⟨a0, ax, aT, hL, ⟨aQ, aq⟩, ⟨nx, aR⟩, aS, aL, aW, aF⟩ := id hX
  obtain ⟨fc, fm, fs, hG, hr⟩ := id hL
  have hI := hS.1.1
  have hb := hI.b
  refine Run.of (l0 := [some (.ref x), some (.int c1), some (.int c2), some (.int c3)]) (by decide +kernel) (Nat.le_of_ble_eq_true rfl) (by rfl) (fun Γ G C => ?_)
  by_cases h1 : inI c1 (sP S 6)
  · obtain ⟨k1, hk1, rfl⟩ := inI_n h1 (by omega)
    refine pw_aload_n (q := 1) (j := 0) C dX10_cut_0 rfl rfl rfl ?_
    refine pw_iload_n (q := 2) (j := 1) C dX10_cut_1 rfl rfl rfl ?_
    refine pw_void (q := 5) (cr_v (j := iX10_requireMason) C dX10_cut_2 lX10_156 mX10_requireMason (ro_mk (by decide) (by decide)) a0 rfl (q_mason hX hS hk1) rfl rfl (Nat.le_of_ble_eq_true rfl) ⟨by omega, by omega⟩) rfl (fun M2 e2 => ?_)
    subst e2
    by_cases h2 : inI c2 (sP S 5)
    · obtain ⟨k2, hk2, rfl⟩ := inI_n h2 (by omega)
      refine pw_aload_n (q := 6) (j := 0) C dX10_cut_5 rfl rfl rfl ?_
      refine pw_iload_n (q := 7) (j := 2) C dX10_cut_6 rfl rfl rfl ?_
      refine pw_void (q := 10) (cr_v (j := iX10_requireCourse) C dX10_cut_7 lX10_140 mX10_requireCourse (ro_mk (by decide) (by decide)) a0 rfl (q_course hX hS hk2) rfl rfl (Nat.le_of_ble_eq_true rfl) ⟨by omega, by omega⟩) rfl (fun M7 e7 => ?_)
      subst e7
      by_cases h3 : inW c3 0 9
      · refine pw_iload_n (q := 11) (j := 3) C dX10_cut_10 rfl rfl rfl ?_
        refine pw_iconst_n (q := 12) C 0 dX10_cut_11 (by decide +kernel) rfl ?_
        refine pw_bipush_n (q := 14) C 9 dX10_cut_12 (by decide +kernel) rfl ?_
        refine pw_rd (q := 17) (cr_s (j := iX10_isWithin) C dX10_cut_14 lX10_47 mX10_isWithin (ro_mk (by decide) (by decide))  (i_in h3) rfl rfl (Nat.le_of_ble_eq_true rfl) ⟨by omega, by omega⟩) rfl ?_
        refine pw_if_ne_n (q := 20) 30 C dX10_cut_17 (by decide) rfl (by omega) (fun g17 => ?_) (fun g17 => absurd g17 (fun q => absurd q (by decide)))
        obtain ⟨k3, hl3, hk3, rfl⟩ := inW_n h3 (by omega) (by omega)
        refine pw_aload_n (q := 31) (j := 0) C dX10_cut_30 rfl rfl rfl ?_
        refine pw_getf (q := 34) C dX10_cut_31 fX10_19 a0 (by rfl) rfl ?_
        refine pw_iload_n (q := 35) (j := 1) C dX10_cut_34 rfl rfl rfl ?_
        refine pw_iload_n (q := 36) (j := 2) C dX10_cut_35 rfl rfl rfl ?_
        refine pw_rd (q := 39) (cr_v (j := iX2_mayCut) C dX10_cut_36 lX10_203 mX2_mayCut (ro_mk (by decide) (by decide)) hG.1 rfl (k_mayCut_in hL hI hk1 hk2) rfl rfl (Nat.le_of_ble_eq_true rfl) ⟨by omega, by omega⟩) rfl ?_
        refine pw_if_ne_b (q := 42) 52 C dX10_cut_39 (by decide) rfl (fun g39 => ?_) (fun g39 => ?_)
        · refine pw_aload_n (q := 53) (j := 0) C dX10_cut_52 rfl rfl rfl ?_
          refine pw_getf (q := 56) C dX10_cut_53 fX10_29 a0 (by rfl) rfl ?_
          refine pw_aload_n (q := 57) (j := 0) C dX10_cut_56 rfl rfl rfl ?_
          refine pw_getf (q := 60) C dX10_cut_57 fX10_19 a0 (by rfl) rfl ?_
          refine pw_void (q := 63) (cr_v (j := iX3_remember) C dX10_cut_60 lX10_177 mX3_remember (ro_mk (by decide) (by decide)) aR.1 rfl (r_remember aR hL hb.2.1 (by omega)) rfl rfl (Nat.le_of_ble_eq_true rfl) ⟨by omega, by omega⟩) rfl (fun M60 e60 => ?_)
          obtain ⟨hR8, sm8⟩ := e60
          have hL := hL.far sm8 (by omega)
          obtain ⟨fc, fm, fs, hG, hr⟩ := id hL
          have a0 := (sm8.2 x (by omega)).trans a0
          refine pw_aload_n (q := 64) (j := 0) C dX10_cut_63 rfl rfl rfl ?_
          refine pw_getf (q := 67) C dX10_cut_64 fX10_19 a0 (by rfl) rfl ?_
          refine pw_iload_n (q := 68) (j := 1) C dX10_cut_67 rfl rfl rfl ?_
          refine pw_iload_n (q := 69) (j := 2) C dX10_cut_68 rfl rfl rfl ?_
          refine pw_iload_n (q := 70) (j := 3) C dX10_cut_69 rfl rfl rfl ?_
          refine pw_val (q := 73) (cr_v (j := iX2_cutStone) C dX10_cut_70 lX10_209 mX2_cutStone (ro_mk (by decide) (by decide)) hG.1 rfl (w_cut hL hk1 hk2 g39) rfl rfl (Nat.le_of_ble_eq_true rfl) ⟨by omega, by omega⟩) rfl (fun M70 e70 => ?_)
          exact pw_iret C dX10_cut_73 rfl ⟨by omega, by omega⟩ (by
              obtain ⟨hL9, sm9⟩ := e70
              have t := hX.act ⟨_, hR8⟩ sm8 hL9 sm9
              exact QX.ok (by rw [spCut, if_pos ⟨h1, h2⟩, if_pos h3, idx_n (show k1 < 2147483648 by omega), idx_n (show k2 < 2147483648 by omega), idx_n (show k3 < 2147483648 by omega), if_pos g39]) t.1 t.2)
        · refine pw_throw (T := []) C twX10_62_207_66 dX10_cut_42 dX10_cut_45 dX10_cut_46 dX10_cut_48 dX10_cut_51 ⟨by decide, Nat.le_of_ble_eq_true rfl⟩ ⟨by omega, by omega⟩ (fun z hz => QX.no 2 (by rw [spCut, if_pos ⟨h1, h2⟩, if_pos h3, idx_n (show k1 < 2147483648 by omega), idx_n (show k2 < 2147483648 by omega), if_neg g39]) rfl (hX.up hz) (Fr.up hz))
      · refine pw_iload_n (q := 11) (j := 3) C dX10_cut_10 rfl rfl rfl ?_
        refine pw_iconst_n (q := 12) C 0 dX10_cut_11 (by decide +kernel) rfl ?_
        refine pw_bipush_n (q := 14) C 9 dX10_cut_12 (by decide +kernel) rfl ?_
        refine pw_rd (q := 17) (cr_s (j := iX10_isWithin) C dX10_cut_14 lX10_47 mX10_isWithin (ro_mk (by decide) (by decide))  (i_out h3) rfl rfl (Nat.le_of_ble_eq_true rfl) ⟨by omega, by omega⟩) rfl ?_
        refine pw_if_ne_n (q := 20) 30 C dX10_cut_17 (by decide) rfl (by omega) (fun g17 => absurd g17 (by omega)) (fun g17 => ?_)
        refine pw_throw (T := []) C twX10_51_201_55 dX10_cut_20 dX10_cut_23 dX10_cut_24 dX10_cut_26 dX10_cut_29 ⟨by decide, Nat.le_of_ble_eq_true rfl⟩ ⟨by omega, by omega⟩ (fun z hz => QX.no 1 (by rw [spCut, if_pos ⟨h1, h2⟩, if_neg h3]) rfl (hX.up hz) (Fr.up hz))
    · refine pw_aload_n (q := 6) (j := 0) C dX10_cut_5 rfl rfl rfl ?_
      refine pw_iload_n (q := 7) (j := 2) C dX10_cut_6 rfl rfl rfl ?_
      refine pw_exc (q := 10) (cr_v (j := iX10_requireCourse) C dX10_cut_7 lX10_140 mX10_requireCourse (ro_mk (by decide) (by decide)) a0 rfl (q_courseN hX hS h2) rfl rfl (Nat.le_of_ble_eq_true rfl) ⟨by omega, by omega⟩) (fun M7 e7 => ?_)
      exact px_out C ⟨by omega, by omega⟩ (QX.no 0 (by rw [spCut, if_neg (fun q => h2 q.2)]) rfl (hX.up2 e7) (Fr.up2 e7))
  · refine pw_aload_n (q := 1) (j := 0) C dX10_cut_0 rfl rfl rfl ?_
    refine pw_iload_n (q := 2) (j := 1) C dX10_cut_1 rfl rfl rfl ?_
    refine pw_exc (q := 5) (cr_v (j := iX10_requireMason) C dX10_cut_2 lX10_156 mX10_requireMason (ro_mk (by decide) (by decide)) a0 rfl (q_masonN hX hS h1) rfl rfl (Nat.le_of_ble_eq_true rfl) ⟨by omega, by omega⟩) (fun M2 e2 => ?_)
    exact px_out C ⟨by omega, by omega⟩ (QX.no 0 (by rw [spCut, if_neg (fun q => h1 q.1)]) rfl (hX.up2 e2) (Fr.up2 e2))
set_option maxHeartbeats 200000 in
set_option maxRecDepth 100000 in
theorem p_setRate {M : PH} {x D : Nat} {S : St} (hX : RepX M x S) (hS : SInv D S) (c1 c2 : Int32) : Run iX10_setRate [.ref x, .int c1, .int c2] M 2 12 (QX M x (EX xB xA xS) (spSetRate S c1 c2)) := by
  obtain ⟨a0, ax, aT, hL, ⟨aQ, aq⟩, ⟨nx, aR⟩, aS, aL, aW, aF⟩ := id hX
  obtain ⟨fc, fm, fs, hG, hr⟩ := id hL
  have hI := hS.1.1
  have hb := hI.b
  refine Run.of (l0 := [some (.ref x), some (.int c1), some (.int c2), none]) (by decide +kernel) (Nat.le_of_ble_eq_true rfl) (by rfl) (fun Γ G C => ?_)
  by_cases h1 : inI c1 (sP S 6)
  · obtain ⟨k1, hk1, rfl⟩ := inI_n h1 (by omega)
    refine pw_aload_n (q := 1) (j := 0) C dX10_setRate_0 rfl rfl rfl ?_
    refine pw_iload_n (q := 2) (j := 1) C dX10_setRate_1 rfl rfl rfl ?_
    refine pw_void (q := 5) (cr_v (j := iX10_requireMason) C dX10_setRate_2 lX10_156 mX10_requireMason (ro_mk (by decide) (by decide)) a0 rfl (q_mason hX hS hk1) rfl rfl (Nat.le_of_ble_eq_true rfl) ⟨by omega, by omega⟩) rfl (fun M2 e2 => ?_)
    subst e2
    by_cases h2 : inW c2 1 9
    · refine pw_iload_n (q := 6) (j := 2) C dX10_setRate_5 rfl rfl rfl ?_
      refine pw_iconst_n (q := 7) C 1 dX10_setRate_6 (by decide +kernel) rfl ?_
      refine pw_bipush_n (q := 9) C 9 dX10_setRate_7 (by decide +kernel) rfl ?_
      refine pw_rd (q := 12) (cr_s (j := iX10_isWithin) C dX10_setRate_9 lX10_47 mX10_isWithin (ro_mk (by decide) (by decide))  (i_in h2) rfl rfl (Nat.le_of_ble_eq_true rfl) ⟨by omega, by omega⟩) rfl ?_
      refine pw_if_ne_n (q := 15) 25 C dX10_setRate_12 (by decide) rfl (by omega) (fun g12 => ?_) (fun g12 => absurd g12 (fun q => absurd q (by decide)))
      obtain ⟨k2, hl2, hk2, rfl⟩ := inW_n h2 (by omega) (by omega)
      refine pw_aload_n (q := 26) (j := 0) C dX10_setRate_25 rfl rfl rfl ?_
      refine pw_getf (q := 29) C dX10_setRate_26 fX10_29 a0 (by rfl) rfl ?_
      refine pw_aload_n (q := 30) (j := 0) C dX10_setRate_29 rfl rfl rfl ?_
      refine pw_getf (q := 33) C dX10_setRate_30 fX10_19 a0 (by rfl) rfl ?_
      refine pw_void (q := 36) (cr_v (j := iX3_remember) C dX10_setRate_33 lX10_177 mX3_remember (ro_mk (by decide) (by decide)) aR.1 rfl (r_remember aR hL hb.2.1 (by omega)) rfl rfl (Nat.le_of_ble_eq_true rfl) ⟨by omega, by omega⟩) rfl (fun M33 e33 => ?_)
      obtain ⟨hR8, sm8⟩ := e33
      have hL := hL.far sm8 (by omega)
      obtain ⟨fc, fm, fs, hG, hr⟩ := id hL
      have a0 := (sm8.2 x (by omega)).trans a0
      refine pw_aload_n (q := 37) (j := 0) C dX10_setRate_36 rfl rfl rfl ?_
      refine pw_getf (q := 40) C dX10_setRate_37 fX10_19 a0 (by rfl) rfl ?_
      refine pw_getf (q := 43) C dX10_setRate_40 fX10_107 hG.1 (by rfl) rfl ?_
      refine pw_iload_n (q := 44) (j := 1) C dX10_setRate_43 rfl rfl rfl ?_
      refine pw_iconst_n (q := 45) C 0 dX10_setRate_44 (by decide +kernel) rfl ?_
      refine pw_rd (q := 48) (cr_v (j := iX8_get) C dX10_setRate_45 lX10_144 mX8_get (ro_mk (by decide) (by decide)) hG.2.2.1.1 rfl (g_m0 hG hr hk1) rfl rfl (Nat.le_of_ble_eq_true rfl) ⟨by omega, by omega⟩) rfl ?_
      refine pw_istore_n (q := 49) (j := 3) C dX10_setRate_48 rfl rfl (by decide) rfl ?_
      refine pw_aload_n (q := 50) (j := 0) C dX10_setRate_49 rfl rfl rfl ?_
      refine pw_getf (q := 53) C dX10_setRate_50 fX10_19 a0 (by rfl) rfl ?_
      refine pw_getf (q := 56) C dX10_setRate_53 fX10_107 hG.1 (by rfl) rfl ?_
      refine pw_iload_n (q := 57) (j := 1) C dX10_setRate_56 rfl rfl rfl ?_
      refine pw_iconst_n (q := 58) C 0 dX10_setRate_57 (by decide +kernel) rfl ?_
      refine pw_iload_n (q := 59) (j := 2) C dX10_setRate_58 rfl rfl rfl ?_
      refine pw_void (q := 62) (cr_v (j := iX8_put) C dX10_setRate_59 lX10_194 mX8_put (ro_mk (by decide) (by decide)) hG.2.2.1.1 rfl (p_m hL k2 hk1 (by omega)) rfl rfl (Nat.le_of_ble_eq_true rfl) ⟨by omega, by omega⟩) rfl (fun M59 e59 => ?_)
      refine pw_iload_n (q := 63) (j := 3) C dX10_setRate_62 rfl rfl rfl ?_
      exact pw_iret C dX10_setRate_63 rfl ⟨by omega, by omega⟩ (by
          obtain ⟨hL9, sm9⟩ := e59
          have t := hX.act ⟨_, hR8⟩ sm8 hL9 sm9
          exact QX.ok (by rw [spSetRate, if_pos h1, if_pos h2, idx_n (show k1 < 2147483648 by omega), idx_n (show k2 < 2147483648 by omega)]; rfl) t.1 t.2)
    · refine pw_iload_n (q := 6) (j := 2) C dX10_setRate_5 rfl rfl rfl ?_
      refine pw_iconst_n (q := 7) C 1 dX10_setRate_6 (by decide +kernel) rfl ?_
      refine pw_bipush_n (q := 9) C 9 dX10_setRate_7 (by decide +kernel) rfl ?_
      refine pw_rd (q := 12) (cr_s (j := iX10_isWithin) C dX10_setRate_9 lX10_47 mX10_isWithin (ro_mk (by decide) (by decide))  (i_out h2) rfl rfl (Nat.le_of_ble_eq_true rfl) ⟨by omega, by omega⟩) rfl ?_
      refine pw_if_ne_n (q := 15) 25 C dX10_setRate_12 (by decide) rfl (by omega) (fun g12 => absurd g12 (by omega)) (fun g12 => ?_)
      refine pw_throw (T := []) C twX10_51_192_55 dX10_setRate_15 dX10_setRate_18 dX10_setRate_19 dX10_setRate_21 dX10_setRate_24 ⟨by decide, Nat.le_of_ble_eq_true rfl⟩ ⟨by omega, by omega⟩ (fun z hz => QX.no 1 (by rw [spSetRate, if_pos h1, if_neg h2]) rfl (hX.up hz) (Fr.up hz))
  · refine pw_aload_n (q := 1) (j := 0) C dX10_setRate_0 rfl rfl rfl ?_
    refine pw_iload_n (q := 2) (j := 1) C dX10_setRate_1 rfl rfl rfl ?_
    refine pw_exc (q := 5) (cr_v (j := iX10_requireMason) C dX10_setRate_2 lX10_156 mX10_requireMason (ro_mk (by decide) (by decide)) a0 rfl (q_masonN hX hS h1) rfl rfl (Nat.le_of_ble_eq_true rfl) ⟨by omega, by omega⟩) (fun M2 e2 => ?_)
    exact px_out C ⟨by omega, by omega⟩ (QX.no 0 (by rw [spSetRate, if_neg h1]) rfl (hX.up2 e2) (Fr.up2 e2))
set_option maxHeartbeats 200000 in
set_option maxRecDepth 100000 in
theorem p_setBound {M : PH} {x D : Nat} {S : St} (hX : RepX M x S) (hS : SInv D S) (c1 : Int32) : Run iX10_setBound [.ref x, .int c1] M 2 12 (QX M x (EX xA xA xS) (spSetBound S c1)) := by
  obtain ⟨a0, ax, aT, hL, ⟨aQ, aq⟩, ⟨nx, aR⟩, aS, aL, aW, aF⟩ := id hX
  obtain ⟨fc, fm, fs, hG, hr⟩ := id hL
  have hI := hS.1.1
  have hb := hI.b
  refine Run.of (l0 := [some (.ref x), some (.int c1), none]) (by decide +kernel) (Nat.le_of_ble_eq_true rfl) (by rfl) (fun Γ G C => ?_)
  by_cases h1 : inW c1 0 9
  · refine pw_iload_n (q := 1) (j := 1) C dX10_setBound_0 rfl rfl rfl ?_
    refine pw_void (q := 4) (cr_s (j := iX10_requireBound) C dX10_setBound_1 lX10_198 mX10_requireBound (ro_mk (by decide) (by decide))  (q_Bound h1) rfl rfl (Nat.le_of_ble_eq_true rfl) ⟨by omega, by omega⟩) rfl (fun M1 e1 => ?_)
    subst e1
    obtain ⟨k1, hl1, hk1, rfl⟩ := inW_n h1 (by omega) (by omega)
    refine pw_aload_n (q := 5) (j := 0) C dX10_setBound_4 rfl rfl rfl ?_
    refine pw_getf (q := 8) C dX10_setBound_5 fX10_29 a0 (by rfl) rfl ?_
    refine pw_aload_n (q := 9) (j := 0) C dX10_setBound_8 rfl rfl rfl ?_
    refine pw_getf (q := 12) C dX10_setBound_9 fX10_19 a0 (by rfl) rfl ?_
    refine pw_void (q := 15) (cr_v (j := iX3_remember) C dX10_setBound_12 lX10_177 mX3_remember (ro_mk (by decide) (by decide)) aR.1 rfl (r_remember aR hL hb.2.1 (by omega)) rfl rfl (Nat.le_of_ble_eq_true rfl) ⟨by omega, by omega⟩) rfl (fun M12 e12 => ?_)
    obtain ⟨hR8, sm8⟩ := e12
    have hL := hL.far sm8 (by omega)
    obtain ⟨fc, fm, fs, hG, hr⟩ := id hL
    have a0 := (sm8.2 x (by omega)).trans a0
    refine pw_aload_n (q := 16) (j := 0) C dX10_setBound_15 rfl rfl rfl ?_
    refine pw_getf (q := 19) C dX10_setBound_16 fX10_19 a0 (by rfl) rfl ?_
    refine pw_getf (q := 22) C dX10_setBound_19 fX10_118 hG.1 (by rfl) rfl ?_
    refine pw_istore_n (q := 23) (j := 2) C dX10_setBound_22 rfl rfl (by decide) rfl ?_
    refine pw_aload_n (q := 24) (j := 0) C dX10_setBound_23 rfl rfl rfl ?_
    refine pw_getf (q := 27) C dX10_setBound_24 fX10_19 a0 (by rfl) rfl ?_
    refine pw_iload_n (q := 28) (j := 1) C dX10_setBound_27 rfl rfl rfl ?_
    refine pw_put (q := 31) C dX10_setBound_28 fX10_118 hG.1 (by rfl) (by rfl) (Nat.le_of_ble_eq_true rfl) rfl ?_
    refine pw_heap (fun M28 => LodgeAt M28 (x + 3) (updN (sP S) 0 k1) ∧ Same M12 M28 (x + 3) (x + 3 + 7)) ⟨hL.sc 0 k1 (by omega), Same.put (by omega) (by omega)⟩ (fun M28 e28 => ?_)
    refine pw_iload_n (q := 32) (j := 2) C dX10_setBound_31 rfl rfl rfl ?_
    exact pw_iret C dX10_setBound_32 rfl ⟨by omega, by omega⟩ (by
        obtain ⟨hL9, sm9⟩ := e28
        have t := hX.act ⟨_, hR8⟩ sm8 hL9 sm9
        exact QX.ok (by rw [spSetBound, if_pos h1, idx_n (show k1 < 2147483648 by omega)]) t.1 t.2)
  · refine pw_iload_n (q := 1) (j := 1) C dX10_setBound_0 rfl rfl rfl ?_
    refine pw_exc (q := 4) (cr_s (j := iX10_requireBound) C dX10_setBound_1 lX10_198 mX10_requireBound (ro_mk (by decide) (by decide))  (q_BoundN h1) rfl rfl (Nat.le_of_ble_eq_true rfl) ⟨by omega, by omega⟩) (fun M1 e1 => ?_)
    exact px_out C ⟨by omega, by omega⟩ (QX.no 0 (by rw [spSetBound, if_neg h1]) rfl (hX.up2 e1) (Fr.up2 e1))
set_option maxHeartbeats 200000 in
set_option maxRecDepth 100000 in
theorem p_inspect {M : PH} {x D : Nat} {S : St} (hX : RepX M x S) (hS : SInv D S) (c1 : Int32) : Run iX10_inspect [.ref x, .int c1] M 2 12 (QX M x (EX xB xS xS) (spInspect S c1)) := by
  obtain ⟨a0, ax, aT, hL, ⟨aQ, aq⟩, ⟨nx, aR⟩, aS, aL, aW, aF⟩ := id hX
  obtain ⟨fc, fm, fs, hG, hr⟩ := id hL
  have hI := hS.1.1
  have hb := hI.b
  refine Run.of (l0 := [some (.ref x), some (.int c1)]) (by decide +kernel) (Nat.le_of_ble_eq_true rfl) (by rfl) (fun Γ G C => ?_)
  by_cases h1 : inI c1 (sP S 7)
  · obtain ⟨k1, hk1, rfl⟩ := inI_n h1 (by omega)
    have w9 := why_le (sP S) k1
    refine pw_aload_n (q := 1) (j := 0) C dX10_inspect_0 rfl rfl rfl ?_
    refine pw_iload_n (q := 2) (j := 1) C dX10_inspect_1 rfl rfl rfl ?_
    refine pw_void (q := 5) (cr_v (j := iX10_requireStone) C dX10_inspect_2 lX10_164 mX10_requireStone (ro_mk (by decide) (by decide)) a0 rfl (q_stone hX hS hk1) rfl rfl (Nat.le_of_ble_eq_true rfl) ⟨by omega, by omega⟩) rfl (fun M2 e2 => ?_)
    subst e2
    refine pw_aload_n (q := 6) (j := 0) C dX10_inspect_5 rfl rfl rfl ?_
    refine pw_getf (q := 9) C dX10_inspect_6 fX10_19 a0 (by rfl) rfl ?_
    refine pw_iload_n (q := 10) (j := 1) C dX10_inspect_9 rfl rfl rfl ?_
    refine pw_rd (q := 13) (cr_v (j := iX2_mayInspect) C dX10_inspect_10 lX10_212 mX2_mayInspect (ro_mk (by decide) (by decide)) hG.1 rfl (k_mayInspect_in hL hI hk1) rfl rfl (Nat.le_of_ble_eq_true rfl) ⟨by omega, by omega⟩) rfl ?_
    refine pw_if_ne_b (q := 16) 26 C dX10_inspect_13 (by decide) rfl (fun g13 => ?_) (fun g13 => ?_)
    · refine pw_aload_n (q := 27) (j := 0) C dX10_inspect_26 rfl rfl rfl ?_
      refine pw_getf (q := 30) C dX10_inspect_27 fX10_29 a0 (by rfl) rfl ?_
      refine pw_aload_n (q := 31) (j := 0) C dX10_inspect_30 rfl rfl rfl ?_
      refine pw_getf (q := 34) C dX10_inspect_31 fX10_19 a0 (by rfl) rfl ?_
      refine pw_void (q := 37) (cr_v (j := iX3_remember) C dX10_inspect_34 lX10_177 mX3_remember (ro_mk (by decide) (by decide)) aR.1 rfl (r_remember aR hL hb.2.1 (by omega)) rfl rfl (Nat.le_of_ble_eq_true rfl) ⟨by omega, by omega⟩) rfl (fun M34 e34 => ?_)
      obtain ⟨hR8, sm8⟩ := e34
      have hL := hL.far sm8 (by omega)
      obtain ⟨fc, fm, fs, hG, hr⟩ := id hL
      have a0 := (sm8.2 x (by omega)).trans a0
      refine pw_aload_n (q := 38) (j := 0) C dX10_inspect_37 rfl rfl rfl ?_
      refine pw_getf (q := 41) C dX10_inspect_38 fX10_19 a0 (by rfl) rfl ?_
      refine pw_iload_n (q := 42) (j := 1) C dX10_inspect_41 rfl rfl rfl ?_
      refine pw_val (q := 45) (cr_v (j := iX2_inspectStone) C dX10_inspect_42 lX10_218 mX2_inspectStone (ro_mk (by decide) (by decide)) hG.1 rfl (w_inspect hL hI hk1) rfl rfl (Nat.le_of_ble_eq_true rfl) ⟨by omega, by omega⟩) rfl (fun M42 e42 => ?_)
      exact pw_iret C dX10_inspect_45 rfl ⟨by omega, by omega⟩ (by
          obtain ⟨hL9, sm9⟩ := e42
          have t := hX.act ⟨_, hR8⟩ sm8 hL9 sm9
          exact QX.ok (by rw [spInspect, if_pos h1, idx_n (show k1 < 2147483648 by omega), if_pos g13]) t.1 t.2)
    · refine pw_throw (T := []) C twX10_62_216_66 dX10_inspect_16 dX10_inspect_19 dX10_inspect_20 dX10_inspect_22 dX10_inspect_25 ⟨by decide, Nat.le_of_ble_eq_true rfl⟩ ⟨by omega, by omega⟩ (fun z hz => QX.no 1 (by rw [spInspect, if_pos h1, idx_n (show k1 < 2147483648 by omega), if_neg g13]) rfl (hX.up hz) (Fr.up hz))
  · refine pw_aload_n (q := 1) (j := 0) C dX10_inspect_0 rfl rfl rfl ?_
    refine pw_iload_n (q := 2) (j := 1) C dX10_inspect_1 rfl rfl rfl ?_
    refine pw_exc (q := 5) (cr_v (j := iX10_requireStone) C dX10_inspect_2 lX10_164 mX10_requireStone (ro_mk (by decide) (by decide)) a0 rfl (q_stoneN hX hS h1) rfl rfl (Nat.le_of_ble_eq_true rfl) ⟨by omega, by omega⟩) (fun M2 e2 => ?_)
    exact px_out C ⟨by omega, by omega⟩ (QX.no 0 (by rw [spInspect, if_neg h1]) rfl (hX.up2 e2) (Fr.up2 e2))
set_option maxHeartbeats 200000 in
set_option maxRecDepth 100000 in
theorem p_scrap {M : PH} {x D : Nat} {S : St} (hX : RepX M x S) (hS : SInv D S) (c1 : Int32) : Run iX10_scrap [.ref x, .int c1] M 2 12 (QX M x (EX xB xS xS) (spScrap S c1)) := by
  obtain ⟨a0, ax, aT, hL, ⟨aQ, aq⟩, ⟨nx, aR⟩, aS, aL, aW, aF⟩ := id hX
  obtain ⟨fc, fm, fs, hG, hr⟩ := id hL
  have hI := hS.1.1
  have hb := hI.b
  refine Run.of (l0 := [some (.ref x), some (.int c1)]) (by decide +kernel) (Nat.le_of_ble_eq_true rfl) (by rfl) (fun Γ G C => ?_)
  by_cases h1 : inI c1 (sP S 7)
  · obtain ⟨k1, hk1, rfl⟩ := inI_n h1 (by omega)
    have w9 := why_le (sP S) k1
    refine pw_aload_n (q := 1) (j := 0) C dX10_scrap_0 rfl rfl rfl ?_
    refine pw_iload_n (q := 2) (j := 1) C dX10_scrap_1 rfl rfl rfl ?_
    refine pw_void (q := 5) (cr_v (j := iX10_requireStone) C dX10_scrap_2 lX10_164 mX10_requireStone (ro_mk (by decide) (by decide)) a0 rfl (q_stone hX hS hk1) rfl rfl (Nat.le_of_ble_eq_true rfl) ⟨by omega, by omega⟩) rfl (fun M2 e2 => ?_)
    subst e2
    refine pw_aload_n (q := 6) (j := 0) C dX10_scrap_5 rfl rfl rfl ?_
    refine pw_getf (q := 9) C dX10_scrap_6 fX10_19 a0 (by rfl) rfl ?_
    refine pw_iload_n (q := 10) (j := 1) C dX10_scrap_9 rfl rfl rfl ?_
    refine pw_rd (q := 13) (cr_v (j := iX2_mayScrap) C dX10_scrap_10 lX10_229 mX2_mayScrap (ro_mk (by decide) (by decide)) hG.1 rfl (k_mayScrap_in hL hI hk1) rfl rfl (Nat.le_of_ble_eq_true rfl) ⟨by omega, by omega⟩) rfl ?_
    refine pw_if_ne_b (q := 16) 26 C dX10_scrap_13 (by decide) rfl (fun g13 => ?_) (fun g13 => ?_)
    · refine pw_aload_n (q := 27) (j := 0) C dX10_scrap_26 rfl rfl rfl ?_
      refine pw_getf (q := 30) C dX10_scrap_27 fX10_29 a0 (by rfl) rfl ?_
      refine pw_aload_n (q := 31) (j := 0) C dX10_scrap_30 rfl rfl rfl ?_
      refine pw_getf (q := 34) C dX10_scrap_31 fX10_19 a0 (by rfl) rfl ?_
      refine pw_void (q := 37) (cr_v (j := iX3_remember) C dX10_scrap_34 lX10_177 mX3_remember (ro_mk (by decide) (by decide)) aR.1 rfl (r_remember aR hL hb.2.1 (by omega)) rfl rfl (Nat.le_of_ble_eq_true rfl) ⟨by omega, by omega⟩) rfl (fun M34 e34 => ?_)
      obtain ⟨hR8, sm8⟩ := e34
      have hL := hL.far sm8 (by omega)
      obtain ⟨fc, fm, fs, hG, hr⟩ := id hL
      have a0 := (sm8.2 x (by omega)).trans a0
      refine pw_aload_n (q := 38) (j := 0) C dX10_scrap_37 rfl rfl rfl ?_
      refine pw_getf (q := 41) C dX10_scrap_38 fX10_19 a0 (by rfl) rfl ?_
      refine pw_iload_n (q := 42) (j := 1) C dX10_scrap_41 rfl rfl rfl ?_
      refine pw_val (q := 45) (cr_v (j := iX2_scrapStone) C dX10_scrap_42 lX10_234 mX2_scrapStone (ro_mk (by decide) (by decide)) hG.1 rfl (w_scrap hL hI hk1 (hI.scrap hk1 g13)) rfl rfl (Nat.le_of_ble_eq_true rfl) ⟨by omega, by omega⟩) rfl (fun M42 e42 => ?_)
      exact pw_iret C dX10_scrap_45 rfl ⟨by omega, by omega⟩ (by
          obtain ⟨hL9, sm9⟩ := e42
          have t := hX.act ⟨_, hR8⟩ sm8 hL9 sm9
          exact QX.ok (by rw [spScrap, if_pos h1, idx_n (show k1 < 2147483648 by omega), if_pos g13]) t.1 t.2)
    · refine pw_throw (T := []) C twX10_62_232_66 dX10_scrap_16 dX10_scrap_19 dX10_scrap_20 dX10_scrap_22 dX10_scrap_25 ⟨by decide, Nat.le_of_ble_eq_true rfl⟩ ⟨by omega, by omega⟩ (fun z hz => QX.no 1 (by rw [spScrap, if_pos h1, idx_n (show k1 < 2147483648 by omega), if_neg g13]) rfl (hX.up hz) (Fr.up hz))
  · refine pw_aload_n (q := 1) (j := 0) C dX10_scrap_0 rfl rfl rfl ?_
    refine pw_iload_n (q := 2) (j := 1) C dX10_scrap_1 rfl rfl rfl ?_
    refine pw_exc (q := 5) (cr_v (j := iX10_requireStone) C dX10_scrap_2 lX10_164 mX10_requireStone (ro_mk (by decide) (by decide)) a0 rfl (q_stoneN hX hS h1) rfl rfl (Nat.le_of_ble_eq_true rfl) ⟨by omega, by omega⟩) (fun M2 e2 => ?_)
    exact px_out C ⟨by omega, by omega⟩ (QX.no 0 (by rw [spScrap, if_neg h1]) rfl (hX.up2 e2) (Fr.up2 e2))
set_option maxHeartbeats 200000 in
set_option maxRecDepth 100000 in
theorem p_set {M : PH} {x D : Nat} {S : St} (hX : RepX M x S) (hS : SInv D S) (c1 : Int32) : Run iX10_set [.ref x, .int c1] M 2 12 (QX M x (EX xB xS xS) (spSet S c1)) := by
  obtain ⟨a0, ax, aT, hL, ⟨aQ, aq⟩, ⟨nx, aR⟩, aS, aL, aW, aF⟩ := id hX
  obtain ⟨fc, fm, fs, hG, hr⟩ := id hL
  have hI := hS.1.1
  have hb := hI.b
  refine Run.of (l0 := [some (.ref x), some (.int c1)]) (by decide +kernel) (Nat.le_of_ble_eq_true rfl) (by rfl) (fun Γ G C => ?_)
  by_cases h1 : inI c1 (sP S 7)
  · obtain ⟨k1, hk1, rfl⟩ := inI_n h1 (by omega)
    have w9 := why_le (sP S) k1
    refine pw_aload_n (q := 1) (j := 0) C dX10_set_0 rfl rfl rfl ?_
    refine pw_iload_n (q := 2) (j := 1) C dX10_set_1 rfl rfl rfl ?_
    refine pw_void (q := 5) (cr_v (j := iX10_requireStone) C dX10_set_2 lX10_164 mX10_requireStone (ro_mk (by decide) (by decide)) a0 rfl (q_stone hX hS hk1) rfl rfl (Nat.le_of_ble_eq_true rfl) ⟨by omega, by omega⟩) rfl (fun M2 e2 => ?_)
    subst e2
    refine pw_aload_n (q := 6) (j := 0) C dX10_set_5 rfl rfl rfl ?_
    refine pw_getf (q := 9) C dX10_set_6 fX10_19 a0 (by rfl) rfl ?_
    refine pw_iload_n (q := 10) (j := 1) C dX10_set_9 rfl rfl rfl ?_
    refine pw_rd (q := 13) (cr_v (j := iX2_hindrance) C dX10_set_10 lX10_167 mX2_hindrance (ro_mk (by decide) (by decide)) hG.1 rfl (k_hindrance_in hL hI hk1) rfl rfl (Nat.le_of_ble_eq_true rfl) ⟨by omega, by omega⟩) rfl ?_
    refine pw_if_eq_n (q := 16) 26 C dX10_set_13 (by decide) rfl (by omega) (fun g13 => ?_) (fun g13 => ?_)
    · refine pw_aload_n (q := 27) (j := 0) C dX10_set_26 rfl rfl rfl ?_
      refine pw_getf (q := 30) C dX10_set_27 fX10_29 a0 (by rfl) rfl ?_
      refine pw_aload_n (q := 31) (j := 0) C dX10_set_30 rfl rfl rfl ?_
      refine pw_getf (q := 34) C dX10_set_31 fX10_19 a0 (by rfl) rfl ?_
      refine pw_void (q := 37) (cr_v (j := iX3_remember) C dX10_set_34 lX10_177 mX3_remember (ro_mk (by decide) (by decide)) aR.1 rfl (r_remember aR hL hb.2.1 (by omega)) rfl rfl (Nat.le_of_ble_eq_true rfl) ⟨by omega, by omega⟩) rfl (fun M34 e34 => ?_)
      obtain ⟨hR8, sm8⟩ := e34
      have hL := hL.far sm8 (by omega)
      obtain ⟨fc, fm, fs, hG, hr⟩ := id hL
      have a0 := (sm8.2 x (by omega)).trans a0
      refine pw_aload_n (q := 38) (j := 0) C dX10_set_37 rfl rfl rfl ?_
      refine pw_getf (q := 41) C dX10_set_38 fX10_19 a0 (by rfl) rfl ?_
      refine pw_iload_n (q := 42) (j := 1) C dX10_set_41 rfl rfl rfl ?_
      refine pw_val (q := 45) (cr_v (j := iX2_setStone) C dX10_set_42 lX10_239 mX2_setStone (ro_mk (by decide) (by decide)) hG.1 rfl (w_set hL hI hk1 (hI.set hk1 g13)) rfl rfl (Nat.le_of_ble_eq_true rfl) ⟨by omega, by omega⟩) rfl (fun M42 e42 => ?_)
      exact pw_iret C dX10_set_45 rfl ⟨by omega, by omega⟩ (by
          obtain ⟨hL9, sm9⟩ := e42
          have t := hX.act ⟨_, hR8⟩ sm8 hL9 sm9
          exact QX.ok (by rw [spSet, if_pos h1, idx_n (show k1 < 2147483648 by omega), if_pos g13]) t.1 t.2)
    · refine pw_throw (T := []) C twX10_62_237_66 dX10_set_16 dX10_set_19 dX10_set_20 dX10_set_22 dX10_set_25 ⟨by decide, Nat.le_of_ble_eq_true rfl⟩ ⟨by omega, by omega⟩ (fun z hz => QX.no 1 (by rw [spSet, if_pos h1, idx_n (show k1 < 2147483648 by omega), if_neg g13]) rfl (hX.up hz) (Fr.up hz))
  · refine pw_aload_n (q := 1) (j := 0) C dX10_set_0 rfl rfl rfl ?_
    refine pw_iload_n (q := 2) (j := 1) C dX10_set_1 rfl rfl rfl ?_
    refine pw_exc (q := 5) (cr_v (j := iX10_requireStone) C dX10_set_2 lX10_164 mX10_requireStone (ro_mk (by decide) (by decide)) a0 rfl (q_stoneN hX hS h1) rfl rfl (Nat.le_of_ble_eq_true rfl) ⟨by omega, by omega⟩) (fun M2 e2 => ?_)
    exact px_out C ⟨by omega, by omega⟩ (QX.no 0 (by rw [spSet, if_neg h1]) rfl (hX.up2 e2) (Fr.up2 e2))
set_option maxHeartbeats 200000 in
set_option maxRecDepth 100000 in
theorem p_recut {M : PH} {x D : Nat} {S : St} (hX : RepX M x S) (hS : SInv D S) (c1 c2 c3 : Int32) : Run iX10_recut [.ref x, .int c1, .int c2, .int c3] M 2 12 (QX M x (EX xB xS xS) (spRecut S c1 c2 c3)) := by
  obtain ⟨a0, ax, aT, hL, ⟨aQ, aq⟩, ⟨nx, aR⟩, aS, aL, aW, aF⟩ := id hX
  obtain ⟨fc, fm, fs, hG, hr⟩ := id hL
  have hI := hS.1.1
  have hb := hI.b
  refine Run.of (l0 := [some (.ref x), some (.int c1), some (.int c2), some (.int c3)]) (by decide +kernel) (Nat.le_of_ble_eq_true rfl) (by rfl) (fun Γ G C => ?_)
  by_cases h1 : inI c1 (sP S 6)
  · obtain ⟨k1, hk1, rfl⟩ := inI_n h1 (by omega)
    refine pw_aload_n (q := 1) (j := 0) C dX10_recut_0 rfl rfl rfl ?_
    refine pw_iload_n (q := 2) (j := 1) C dX10_recut_1 rfl rfl rfl ?_
    refine pw_void (q := 5) (cr_v (j := iX10_requireMason) C dX10_recut_2 lX10_156 mX10_requireMason (ro_mk (by decide) (by decide)) a0 rfl (q_mason hX hS hk1) rfl rfl (Nat.le_of_ble_eq_true rfl) ⟨by omega, by omega⟩) rfl (fun M2 e2 => ?_)
    subst e2
    by_cases h2 : inI c2 (sP S 7)
    · obtain ⟨k2, hk2, rfl⟩ := inI_n h2 (by omega)
      refine pw_aload_n (q := 6) (j := 0) C dX10_recut_5 rfl rfl rfl ?_
      refine pw_iload_n (q := 7) (j := 2) C dX10_recut_6 rfl rfl rfl ?_
      refine pw_void (q := 10) (cr_v (j := iX10_requireStone) C dX10_recut_7 lX10_164 mX10_requireStone (ro_mk (by decide) (by decide)) a0 rfl (q_stone hX hS hk2) rfl rfl (Nat.le_of_ble_eq_true rfl) ⟨by omega, by omega⟩) rfl (fun M7 e7 => ?_)
      subst e7
      by_cases h3 : inI c3 (sP S 5)
      · obtain ⟨k3, hk3, rfl⟩ := inI_n h3 (by omega)
        refine pw_aload_n (q := 11) (j := 0) C dX10_recut_10 rfl rfl rfl ?_
        refine pw_iload_n (q := 12) (j := 3) C dX10_recut_11 rfl rfl rfl ?_
        refine pw_void (q := 15) (cr_v (j := iX10_requireCourse) C dX10_recut_12 lX10_140 mX10_requireCourse (ro_mk (by decide) (by decide)) a0 rfl (q_course hX hS hk3) rfl rfl (Nat.le_of_ble_eq_true rfl) ⟨by omega, by omega⟩) rfl (fun M12 e12 => ?_)
        subst e12
        refine pw_aload_n (q := 16) (j := 0) C dX10_recut_15 rfl rfl rfl ?_
        refine pw_getf (q := 19) C dX10_recut_16 fX10_19 a0 (by rfl) rfl ?_
        refine pw_iload_n (q := 20) (j := 1) C dX10_recut_19 rfl rfl rfl ?_
        refine pw_iload_n (q := 21) (j := 2) C dX10_recut_20 rfl rfl rfl ?_
        refine pw_iload_n (q := 22) (j := 3) C dX10_recut_21 rfl rfl rfl ?_
        refine pw_rd (q := 25) (cr_v (j := iX2_mayRecut) C dX10_recut_22 lX10_221 mX2_mayRecut (ro_mk (by decide) (by decide)) hG.1 rfl (k_mayRecut_in hL hI hk1 hk2 hk3) rfl rfl (Nat.le_of_ble_eq_true rfl) ⟨by omega, by omega⟩) rfl ?_
        refine pw_if_ne_b (q := 28) 38 C dX10_recut_25 (by decide) rfl (fun g25 => ?_) (fun g25 => ?_)
        · refine pw_aload_n (q := 39) (j := 0) C dX10_recut_38 rfl rfl rfl ?_
          refine pw_getf (q := 42) C dX10_recut_39 fX10_29 a0 (by rfl) rfl ?_
          refine pw_aload_n (q := 43) (j := 0) C dX10_recut_42 rfl rfl rfl ?_
          refine pw_getf (q := 46) C dX10_recut_43 fX10_19 a0 (by rfl) rfl ?_
          refine pw_void (q := 49) (cr_v (j := iX3_remember) C dX10_recut_46 lX10_177 mX3_remember (ro_mk (by decide) (by decide)) aR.1 rfl (r_remember aR hL hb.2.1 (by omega)) rfl rfl (Nat.le_of_ble_eq_true rfl) ⟨by omega, by omega⟩) rfl (fun M46 e46 => ?_)
          obtain ⟨hR8, sm8⟩ := e46
          have hL := hL.far sm8 (by omega)
          obtain ⟨fc, fm, fs, hG, hr⟩ := id hL
          have a0 := (sm8.2 x (by omega)).trans a0
          refine pw_aload_n (q := 50) (j := 0) C dX10_recut_49 rfl rfl rfl ?_
          refine pw_getf (q := 53) C dX10_recut_50 fX10_19 a0 (by rfl) rfl ?_
          refine pw_iload_n (q := 54) (j := 1) C dX10_recut_53 rfl rfl rfl ?_
          refine pw_iload_n (q := 55) (j := 2) C dX10_recut_54 rfl rfl rfl ?_
          refine pw_iload_n (q := 56) (j := 3) C dX10_recut_55 rfl rfl rfl ?_
          refine pw_val (q := 59) (cr_v (j := iX2_recutStone) C dX10_recut_56 lX10_226 mX2_recutStone (ro_mk (by decide) (by decide)) hG.1 rfl (w_recut hL hI hk1 hk2 hk3 g25) rfl rfl (Nat.le_of_ble_eq_true rfl) ⟨by omega, by omega⟩) rfl (fun M56 e56 => ?_)
          exact pw_iret C dX10_recut_59 rfl ⟨by omega, by omega⟩ (by
              obtain ⟨hL9, sm9⟩ := e56
              have t := hX.act ⟨_, hR8⟩ sm8 hL9 sm9
              exact QX.ok (by rw [spRecut, if_pos ⟨h1, h2, h3⟩, idx_n (show k1 < 2147483648 by omega), idx_n (show k2 < 2147483648 by omega), idx_n (show k3 < 2147483648 by omega), if_pos g25]) t.1 t.2)
        · refine pw_throw (T := []) C twX10_62_224_66 dX10_recut_28 dX10_recut_31 dX10_recut_32 dX10_recut_34 dX10_recut_37 ⟨by decide, Nat.le_of_ble_eq_true rfl⟩ ⟨by omega, by omega⟩ (fun z hz => QX.no 1 (by rw [spRecut, if_pos ⟨h1, h2, h3⟩, idx_n (show k1 < 2147483648 by omega), idx_n (show k2 < 2147483648 by omega), idx_n (show k3 < 2147483648 by omega), if_neg g25]) rfl (hX.up hz) (Fr.up hz))
      · refine pw_aload_n (q := 11) (j := 0) C dX10_recut_10 rfl rfl rfl ?_
        refine pw_iload_n (q := 12) (j := 3) C dX10_recut_11 rfl rfl rfl ?_
        refine pw_exc (q := 15) (cr_v (j := iX10_requireCourse) C dX10_recut_12 lX10_140 mX10_requireCourse (ro_mk (by decide) (by decide)) a0 rfl (q_courseN hX hS h3) rfl rfl (Nat.le_of_ble_eq_true rfl) ⟨by omega, by omega⟩) (fun M12 e12 => ?_)
        exact px_out C ⟨by omega, by omega⟩ (QX.no 0 (by rw [spRecut, if_neg (fun q => h3 q.2.2)]) rfl (hX.up2 e12) (Fr.up2 e12))
    · refine pw_aload_n (q := 6) (j := 0) C dX10_recut_5 rfl rfl rfl ?_
      refine pw_iload_n (q := 7) (j := 2) C dX10_recut_6 rfl rfl rfl ?_
      refine pw_exc (q := 10) (cr_v (j := iX10_requireStone) C dX10_recut_7 lX10_164 mX10_requireStone (ro_mk (by decide) (by decide)) a0 rfl (q_stoneN hX hS h2) rfl rfl (Nat.le_of_ble_eq_true rfl) ⟨by omega, by omega⟩) (fun M7 e7 => ?_)
      exact px_out C ⟨by omega, by omega⟩ (QX.no 0 (by rw [spRecut, if_neg (fun q => h2 q.2.1)]) rfl (hX.up2 e7) (Fr.up2 e7))
  · refine pw_aload_n (q := 1) (j := 0) C dX10_recut_0 rfl rfl rfl ?_
    refine pw_iload_n (q := 2) (j := 1) C dX10_recut_1 rfl rfl rfl ?_
    refine pw_exc (q := 5) (cr_v (j := iX10_requireMason) C dX10_recut_2 lX10_156 mX10_requireMason (ro_mk (by decide) (by decide)) a0 rfl (q_masonN hX hS h1) rfl rfl (Nat.le_of_ble_eq_true rfl) ⟨by omega, by omega⟩) (fun M2 e2 => ?_)
    exact px_out C ⟨by omega, by omega⟩ (QX.no 0 (by rw [spRecut, if_neg (fun q => h1 q.1)]) rfl (hX.up2 e2) (Fr.up2 e2))
set_option maxHeartbeats 200000 in
set_option maxRecDepth 100000 in
theorem p_pay {M : PH} {x D : Nat} {S : St} (hX : RepX M x S) (hS : SInv D S) : Run iX10_pay [.ref x] M 2 12 (QX M x (EX xA xA xA) ((0, nI (owedAll (sP S)), wA S (payP (sP S))))) := by
  obtain ⟨a0, ax, aT, hL, ⟨aQ, aq⟩, ⟨nx, aR⟩, aS, aL, aW, aF⟩ := id hX
  obtain ⟨fc, fm, fs, hG, hr⟩ := id hL
  have hI := hS.1.1
  have hb := hI.b
  refine Run.of (l0 := [some (.ref x)]) (by decide +kernel) (Nat.le_of_ble_eq_true rfl) (by rfl) (fun Γ G C => ?_)
  refine pw_aload_n (q := 1) (j := 0) C dX10_pay_0 rfl rfl rfl ?_
  refine pw_getf (q := 4) C dX10_pay_1 fX10_29 a0 (by rfl) rfl ?_
  refine pw_aload_n (q := 5) (j := 0) C dX10_pay_4 rfl rfl rfl ?_
  refine pw_getf (q := 8) C dX10_pay_5 fX10_19 a0 (by rfl) rfl ?_
  refine pw_void (q := 11) (cr_v (j := iX3_remember) C dX10_pay_8 lX10_177 mX3_remember (ro_mk (by decide) (by decide)) aR.1 rfl (r_remember aR hL hb.2.1 (by omega)) rfl rfl (Nat.le_of_ble_eq_true rfl) ⟨by omega, by omega⟩) rfl (fun M8 e8 => ?_)
  obtain ⟨hR8, sm8⟩ := e8
  have hL := hL.far sm8 (by omega)
  obtain ⟨fc, fm, fs, hG, hr⟩ := id hL
  have a0 := (sm8.2 x (by omega)).trans a0
  refine pw_aload_n (q := 12) (j := 0) C dX10_pay_11 rfl rfl rfl ?_
  refine pw_getf (q := 15) C dX10_pay_12 fX10_19 a0 (by rfl) rfl ?_
  refine pw_val (q := 18) (cr_v (j := iX2_payAll) C dX10_pay_15 lX10_242 mX2_payAll (ro_mk (by decide) (by decide)) hG.1 rfl (w_pay hL) rfl rfl (Nat.le_of_ble_eq_true rfl) ⟨by omega, by omega⟩) rfl (fun M15 e15 => ?_)
  exact pw_iret C dX10_pay_18 rfl ⟨by omega, by omega⟩ (by
      obtain ⟨hL9, sm9⟩ := e15
      have t := hX.act ⟨_, hR8⟩ sm8 hL9 sm9
      exact QX.ok (by rfl) t.1 t.2)
set_option maxHeartbeats 200000 in
set_option maxRecDepth 100000 in
theorem p_nextDay {M : PH} {x D : Nat} {S : St} (hX : RepX M x S) (hS : SInv D S) {fr : Nat} (hfr : fr ≤ 1) : Run iX10_nextDay [.ref x, .int (nI fr)] M 2 12 (QX M x (EX xA xA xA) ((0, nI (sP S 1 + 1), wA S (dayP (sP S) fr)))) := by
  obtain ⟨a0, ax, aT, hL, ⟨aQ, aq⟩, ⟨nx, aR⟩, aS, aL, aW, aF⟩ := id hX
  obtain ⟨fc, fm, fs, hG, hr⟩ := id hL
  have hI := hS.1.1
  have hb := hI.b
  refine Run.of (l0 := [some (.ref x), some (.int (nI fr))]) (by decide +kernel) (Nat.le_of_ble_eq_true rfl) (by rfl) (fun Γ G C => ?_)
  refine pw_aload_n (q := 1) (j := 0) C dX10_nextDay_0 rfl rfl rfl ?_
  refine pw_getf (q := 4) C dX10_nextDay_1 fX10_29 a0 (by rfl) rfl ?_
  refine pw_aload_n (q := 5) (j := 0) C dX10_nextDay_4 rfl rfl rfl ?_
  refine pw_getf (q := 8) C dX10_nextDay_5 fX10_19 a0 (by rfl) rfl ?_
  refine pw_void (q := 11) (cr_v (j := iX3_remember) C dX10_nextDay_8 lX10_177 mX3_remember (ro_mk (by decide) (by decide)) aR.1 rfl (r_remember aR hL hb.2.1 (by omega)) rfl rfl (Nat.le_of_ble_eq_true rfl) ⟨by omega, by omega⟩) rfl (fun M8 e8 => ?_)
  obtain ⟨hR8, sm8⟩ := e8
  have hL := hL.far sm8 (by omega)
  obtain ⟨fc, fm, fs, hG, hr⟩ := id hL
  have a0 := (sm8.2 x (by omega)).trans a0
  refine pw_aload_n (q := 12) (j := 0) C dX10_nextDay_11 rfl rfl rfl ?_
  refine pw_getf (q := 15) C dX10_nextDay_12 fX10_19 a0 (by rfl) rfl ?_
  refine pw_iload_n (q := 16) (j := 1) C dX10_nextDay_15 rfl rfl rfl ?_
  refine pw_val (q := 19) (cr_v (j := iX2_beginDay) C dX10_nextDay_16 lX10_245 mX2_beginDay (ro_mk (by decide) (by decide)) hG.1 rfl (w_day hL hI hfr) rfl rfl (Nat.le_of_ble_eq_true rfl) ⟨by omega, by omega⟩) rfl (fun M16 e16 => ?_)
  exact pw_iret C dX10_nextDay_19 rfl ⟨by omega, by omega⟩ (by
      obtain ⟨hL9, sm9⟩ := e16
      have t := hX.act ⟨_, hR8⟩ sm8 hL9 sm9
      exact QX.ok (by rfl) t.1 t.2)
set_option maxHeartbeats 200000 in
set_option maxRecDepth 100000 in
theorem p_undo {M : PH} {x D : Nat} {S : St} (hX : RepX M x S) (hS : SInv D S) : Run iX10_undo [.ref x] M 2 12 (QX M x (EX xS xS xS) (spUndo S)) := by
  obtain ⟨a0, ax, aT, hL, ⟨aQ, aq⟩, ⟨nx, aR⟩, aS, aL, aW, aF⟩ := id hX
  obtain ⟨fc, fm, fs, hG, hr⟩ := id hL
  have hI := hS.1.1
  have hb := hI.b
  refine Run.of (l0 := [some (.ref x)]) (by decide +kernel) (Nat.le_of_ble_eq_true rfl) (by rfl) (fun Γ G C => ?_)
  refine pw_aload_n (q := 1) (j := 0) C dX10_undo_0 rfl rfl rfl ?_
  refine pw_getf (q := 4) C dX10_undo_1 fX10_29 a0 (by rfl) rfl ?_
  refine pw_rd (q := 7) (cr_v (j := iX3_isEmpty) C dX10_undo_4 lX10_249 mX3_isEmpty (ro_mk (by decide) (by decide)) aR.1 rfl (r_isEmpty aR) rfl rfl (Nat.le_of_ble_eq_true rfl) ⟨by omega, by omega⟩) rfl ?_
  refine pw_if_eq_b (q := 10) 20 C dX10_undo_7 (by decide) rfl (fun g7 => ?_) (fun g7 => ?_)
  · refine pw_aload_n (q := 21) (j := 0) C dX10_undo_20 rfl rfl rfl ?_
    refine pw_getf (q := 24) C dX10_undo_21 fX10_29 a0 (by rfl) rfl ?_
    refine pw_aload_n (q := 25) (j := 0) C dX10_undo_24 rfl rfl rfl ?_
    refine pw_getf (q := 28) C dX10_undo_25 fX10_19 a0 (by rfl) rfl ?_
    refine pw_val (q := 31) (cr_v (j := iX3_takeBack) C dX10_undo_28 lX10_254 mX3_takeBack (ro_mk (by decide) (by decide)) aR.1 rfl (r_takeBack aR hL (fun j hj => (hS.2.1 j hj).1.2.1) (by omega) (by omega)) rfl rfl (Nat.le_of_ble_eq_true rfl) ⟨by omega, by omega⟩) rfl (fun M28 e28 => ?_)
    exact pw_iret C dX10_undo_31 rfl ⟨by omega, by omega⟩ (by
        obtain ⟨hR9, hL9, sm9⟩ := e28
        have t := hX.back ⟨_, hR9⟩ hL9 sm9
        exact QX.ok (by rw [spUndo, if_neg (by omega)]) t.1 t.2)
  · refine pw_throw (T := []) C twX10_62_252_66 dX10_undo_10 dX10_undo_13 dX10_undo_14 dX10_undo_16 dX10_undo_19 ⟨by decide, Nat.le_of_ble_eq_true rfl⟩ ⟨by omega, by omega⟩ (fun z hz => QX.no 0 (by rw [spUndo, if_pos (by omega)]) rfl (hX.up hz) (Fr.up hz))
