/-! Actions. -/
theorem why_le (P : Nat → Nat) (s : Nat) : why P s ≤ 4 := by unfold why; split <;> (try split) <;> (try split) <;> (try split) <;> omega
def spAddCourse (S : St) (a b c : Int32) : RS := if inW a 1 9 ∧ inW b 1 6 ∧ inW c 1 9 then (if sP S 5 < 6 then (0, nI (sP S 5), wA S (newCourseP (sP S) (idx a) (idx b) (idx c))) else (2, 0, S)) else (1, 0, S)
def spAddMason (S : St) (a b : Int32) : RS := if inW a 1 9 ∧ inW b 1 12 then (if sP S 6 < 6 then (0, nI (sP S 6), wA S (newMasonP (sP S) (idx a) (idx b))) else (2, 0, S)) else (1, 0, S)
def spSetRate (S : St) (m r : Int32) : RS := if inI m (sP S 6) then (if inW r 1 9 then (0, nI (sP S (26 + 4 * idx m)), wA S (updN (sP S) (26 + 4 * idx m) (idx r))) else (2, 0, S)) else (1, 0, S)
def spSetBound (S : St) (b : Int32) : RS := if inW b 0 9 then (0, nI (sP S 0), wA S (updN (sP S) 0 (idx b))) else (1, 0, S)
def spCut (S : St) (m c f : Int32) : RS := if inI m (sP S 6) ∧ inI c (sP S 5) then (if inW f 0 9 then (if canCut (sP S) (idx m) (idx c) then (0, nI (sP S 7), wA S (cutP (sP S) (idx m) (idx c) (idx f))) else (3, 0, S)) else (2, 0, S)) else (1, 0, S)
def spInspect (S : St) (s : Int32) : RS := if inI s (sP S 7) then (if sP S (50 + 6 * idx s + 3) = 0 then (0, (if sP S 0 < sP S (50 + 6 * idx s + 2) then -9 else nI (price (sP S) (idx s))), wA S (inspectP (sP S) (idx s))) else (2, 0, S)) else (1, 0, S)
def spRecut (S : St) (m s c : Int32) : RS := if inI m (sP S 6) ∧ inI s (sP S 7) ∧ inI c (sP S 5) then (if canRecut (sP S) (idx m) (idx s) (idx c) then (0, nI (recutF (sP S) (idx s) (idx c)), wA S (recutP (sP S) (idx m) (idx s) (idx c))) else (2, 0, S)) else (1, 0, S)
def spScrap (S : St) (s : Int32) : RS := if inI s (sP S 7) then (if sP S (50 + 6 * idx s + 3) = 2 then (0, nI (cntS (stateP (sP S) (idx s) 4) 4), wA S (stateP (sP S) (idx s) 4)) else (2, 0, S)) else (1, 0, S)
def spSet (S : St) (s : Int32) : RS := if inI s (sP S 7) then (if why (sP S) (idx s) = 0 then (0, nI (cntC (stateP (sP S) (idx s) 3) (sP S (50 + 6 * idx s)) 3), wA S (stateP (sP S) (idx s) 3)) else (2, 0, S)) else (1, 0, S)
def spUndo (S : St) : RS := if sM S = 0 then (1, 0, S) else (0, nI (sM S - 1), (sN S, sT S, sH S (sM S - 1), sM S - 1, sH S, sB S, sK S))
theorem RepX.act {M M1 M2 : PH} {x : Nat} {S : St} {P : Nat → Nat} (h : RepX M x S) (hr : ∃ nx, RingAt M1 (x + 17) nx (min (sM S + 1) 14) (noteH (sM S) (sH S) (sP S))) (s1 : Same M M1 (x + 17) (x + 17 + 100)) (hl : LodgeAt M2 (x + 3) P) (s2 : Same M1 M2 (x + 3) (x + 3 + 7)) : RepX M2 x (wA S P) ∧ Fr M M2 x := by
  obtain ⟨a0, a1, a2, a3, ⟨Q, a4⟩, a5, a6, L, W, a7⟩ := h
  obtain ⟨nx, b5⟩ := hr
  have hs : ∀ q, (q < x + 17 ∨ x + 17 + 100 ≤ q) → (q < x + 3 ∨ x + 3 + 7 ≤ q) → M2.2 q = M.2 q := fun q g1 g2 => (s2.2 q g2).trans (s1.2 q g1)
  have hz : M2.1 = M.1 := s2.1.trans s1.1
  exact ⟨⟨(hs _ (by omega) (by omega)).trans a0, by omega, a2.keep (fun q g1 g2 => hs q (by omega) (by omega)), hl, ⟨Q, a4.keep (fun q g1 g2 => hs q (by omega) (by omega))⟩, ⟨nx, b5.keep (fun q g1 g2 => s2.2 q (by omega))⟩, a6.keep (fun q g1 g2 => hs q (by omega) (by omega)), L, W, a7.keep (fun q g1 g2 => hs q (by omega) (by omega))⟩, ⟨Nat.le_of_eq hz.symm, fun q _ g2 => hs q (by omega) (by omega)⟩⟩
theorem RepX.back {M M1 : PH} {x rem : Nat} {S : St} {P : Nat → Nat} (h : RepX M x S) (hr : ∃ nx, RingAt M1 (x + 17) nx rem (sH S)) (hl : LodgeAt M1 (x + 3) P) (s1 : Same2 M M1 (x + 17) (x + 17 + 1) (x + 3) (x + 3 + 7)) : RepX M1 x (sN S, sT S, P, rem, sH S, sB S, sK S) ∧ Fr M M1 x := by
  obtain ⟨a0, a1, a2, a3, ⟨Q, a4⟩, a5, a6, L, W, a7⟩ := h
  have hs := s1.2
  have hz : M1.1 = M.1 := s1.1
  exact ⟨⟨(hs _ (by omega) (by omega)).trans a0, by omega, a2.keep (fun q g1 g2 => hs q (by omega) (by omega)), hl, ⟨Q, a4.keep (fun q g1 g2 => hs q (by omega) (by omega))⟩, hr, a6.keep (fun q g1 g2 => hs q (by omega) (by omega)), L, W, a7.keep (fun q g1 g2 => hs q (by omega) (by omega))⟩, s1.fr (by omega) (by omega) (by omega) (by omega)⟩
set_option maxHeartbeats 200000 in
set_option maxRecDepth 100000 in
theorem p_addCourse {M : PH} {x D : Nat} {S : St} (hX : RepX M x S) (hS : SInv D S) (c1 c2 c3 : Int32) : Run iX10_addCourse [.ref x, .int c1, .int c2, .int c3] M 2 12 (QX M x (EX xA xS xS) (spAddCourse S c1 c2 c3)) := by
  obtain ⟨a0, ax, aT, hL, ⟨aQ, aq⟩, ⟨nx, aR⟩, aS, aL, aW, aF⟩ := id hX
  obtain ⟨fc, fm, fs, hG, hr⟩ := id hL
  have hI := hS.1.1
  have hb := hI.b
  refine Run.of (l0 := [some (.ref x), some (.int c1), some (.int c2), some (.int c3)]) (by decide +kernel) (Nat.le_of_ble_eq_true rfl) (by rfl) (fun Γ G C => ?_)
  by_cases h1 : inW c1 1 9
  · refine pw_iload_n (q := 1) (j := 1) C dX10_addCourse_0 rfl rfl rfl ?_
    refine pw_iconst_n (q := 2) C 1 dX10_addCourse_1 (by decide +kernel) rfl ?_
    refine pw_bipush_n (q := 4) C 9 dX10_addCourse_2 (by decide +kernel) rfl ?_
    refine pw_rd (q := 7) (cr_s (j := iX10_isWithin) C dX10_addCourse_4 lX10_47 mX10_isWithin (ro_mk (by decide) (by decide))  (i_in h1) rfl rfl (Nat.le_of_ble_eq_true rfl) ⟨by omega, by omega⟩) rfl ?_
    refine pw_if_eq_n (q := 10) 30 C dX10_addCourse_7 (by decide) rfl (by omega) (fun g7 => absurd g7 (by decide)) (fun g7 => ?_)
    by_cases h2 : inW c2 1 6
    · refine pw_iload_n (q := 11) (j := 2) C dX10_addCourse_10 rfl rfl rfl ?_
      refine pw_iconst_n (q := 12) C 1 dX10_addCourse_11 (by decide +kernel) rfl ?_
      refine pw_bipush_n (q := 14) C 6 dX10_addCourse_12 (by decide +kernel) rfl ?_
      refine pw_rd (q := 17) (cr_s (j := iX10_isWithin) C dX10_addCourse_14 lX10_47 mX10_isWithin (ro_mk (by decide) (by decide))  (i_in h2) rfl rfl (Nat.le_of_ble_eq_true rfl) ⟨by omega, by omega⟩) rfl ?_
      refine pw_if_eq_n (q := 20) 30 C dX10_addCourse_17 (by decide) rfl (by omega) (fun g17 => absurd g17 (by decide)) (fun g17 => ?_)
      by_cases h3 : inW c3 1 9
      · refine pw_iload_n (q := 21) (j := 3) C dX10_addCourse_20 rfl rfl rfl ?_
        refine pw_iconst_n (q := 22) C 1 dX10_addCourse_21 (by decide +kernel) rfl ?_
        refine pw_bipush_n (q := 24) C 9 dX10_addCourse_22 (by decide +kernel) rfl ?_
        refine pw_rd (q := 27) (cr_s (j := iX10_isWithin) C dX10_addCourse_24 lX10_47 mX10_isWithin (ro_mk (by decide) (by decide))  (i_in h3) rfl rfl (Nat.le_of_ble_eq_true rfl) ⟨by omega, by omega⟩) rfl ?_
        refine pw_if_ne_n (q := 30) 40 C dX10_addCourse_27 (by decide) rfl (by omega) (fun g27 => ?_) (fun g27 => absurd g27 (fun q => absurd q (by decide)))
        obtain ⟨k1, hl1, hk1, rfl⟩ := inW_n h1 (by omega) (by omega)
        obtain ⟨k2, hl2, hk2, rfl⟩ := inW_n h2 (by omega) (by omega)
        obtain ⟨k3, hl3, hk3, rfl⟩ := inW_n h3 (by omega) (by omega)
        refine pw_aload_n (q := 41) (j := 0) C dX10_addCourse_40 rfl rfl rfl ?_
        refine pw_getf (q := 44) C dX10_addCourse_41 fX10_19 a0 (by rfl) rfl ?_
        refine pw_getf (q := 47) C dX10_addCourse_44 fX10_104 hG.1 (by rfl) rfl ?_
        refine pw_rd (q := 50) (cr_v (j := iX8_hasRoom) C dX10_addCourse_47 lX10_172 mX8_hasRoom (ro_mk (by decide) (by decide)) hG.2.1.1 rfl (k_hasRoom hG.2.1) rfl rfl (Nat.le_of_ble_eq_true rfl) ⟨by omega, by omega⟩) rfl ?_
        refine pw_if_ne_b (q := 53) 63 C dX10_addCourse_50 (by decide) rfl (fun g50 => ?_) (fun g50 => ?_)
        · refine pw_aload_n (q := 64) (j := 0) C dX10_addCourse_63 rfl rfl rfl ?_
          refine pw_getf (q := 67) C dX10_addCourse_64 fX10_29 a0 (by rfl) rfl ?_
          refine pw_aload_n (q := 68) (j := 0) C dX10_addCourse_67 rfl rfl rfl ?_
          refine pw_getf (q := 71) C dX10_addCourse_68 fX10_19 a0 (by rfl) rfl ?_
          refine pw_void (q := 74) (cr_v (j := iX3_remember) C dX10_addCourse_71 lX10_177 mX3_remember (ro_mk (by decide) (by decide)) aR.1 rfl (r_remember aR hL hb.2.1 (by omega)) rfl rfl (Nat.le_of_ble_eq_true rfl) ⟨by omega, by omega⟩) rfl (fun M71 e71 => ?_)
          obtain ⟨hR8, sm8⟩ := e71
          have hL := hL.far sm8 (by omega)
          obtain ⟨fc, fm, fs, hG, hr⟩ := id hL
          have a0 := (sm8.2 x (by omega)).trans a0
          refine pw_aload_n (q := 75) (j := 0) C dX10_addCourse_74 rfl rfl rfl ?_
          refine pw_getf (q := 78) C dX10_addCourse_75 fX10_19 a0 (by rfl) rfl ?_
          refine pw_iload_n (q := 79) (j := 1) C dX10_addCourse_78 rfl rfl rfl ?_
          refine pw_iload_n (q := 80) (j := 2) C dX10_addCourse_79 rfl rfl rfl ?_
          refine pw_iload_n (q := 81) (j := 3) C dX10_addCourse_80 rfl rfl rfl ?_
          refine pw_val (q := 84) (cr_v (j := iX2_newCourse) C dX10_addCourse_81 lX10_181 mX2_newCourse (ro_mk (by decide) (by decide)) hG.1 rfl (w_newCourse hL g50) rfl rfl (Nat.le_of_ble_eq_true rfl) ⟨by omega, by omega⟩) rfl (fun M81 e81 => ?_)
          exact pw_iret C dX10_addCourse_84 rfl ⟨by omega, by omega⟩ (by
              obtain ⟨hL9, sm9⟩ := e81
              have t := hX.act ⟨_, hR8⟩ sm8 hL9 sm9
              exact QX.ok (by rw [spAddCourse, if_pos ⟨h1, h2, h3⟩, if_pos g50, idx_n (show k1 < 2147483648 by omega), idx_n (show k2 < 2147483648 by omega), idx_n (show k3 < 2147483648 by omega)]) t.1 t.2)
        · refine pw_throw (T := []) C twX10_62_175_66 dX10_addCourse_53 dX10_addCourse_56 dX10_addCourse_57 dX10_addCourse_59 dX10_addCourse_62 ⟨by decide, Nat.le_of_ble_eq_true rfl⟩ ⟨by omega, by omega⟩ (fun z hz => QX.no 1 (by rw [spAddCourse, if_pos ⟨h1, h2, h3⟩, if_neg g50]) rfl (hX.up hz) (Fr.up hz))
      · refine pw_iload_n (q := 21) (j := 3) C dX10_addCourse_20 rfl rfl rfl ?_
        refine pw_iconst_n (q := 22) C 1 dX10_addCourse_21 (by decide +kernel) rfl ?_
        refine pw_bipush_n (q := 24) C 9 dX10_addCourse_22 (by decide +kernel) rfl ?_
        refine pw_rd (q := 27) (cr_s (j := iX10_isWithin) C dX10_addCourse_24 lX10_47 mX10_isWithin (ro_mk (by decide) (by decide))  (i_out h3) rfl rfl (Nat.le_of_ble_eq_true rfl) ⟨by omega, by omega⟩) rfl ?_
        refine pw_if_ne_n (q := 30) 40 C dX10_addCourse_27 (by decide) rfl (by omega) (fun g27 => absurd g27 (by omega)) (fun g27 => ?_)
        refine pw_throw (T := []) C twX10_51_170_55 dX10_addCourse_30 dX10_addCourse_33 dX10_addCourse_34 dX10_addCourse_36 dX10_addCourse_39 ⟨by decide, Nat.le_of_ble_eq_true rfl⟩ ⟨by omega, by omega⟩ (fun z hz => QX.no 0 (by rw [spAddCourse, if_neg (fun q => h3 q.2.2)]) rfl (hX.up hz) (Fr.up hz))
    · refine pw_iload_n (q := 11) (j := 2) C dX10_addCourse_10 rfl rfl rfl ?_
      refine pw_iconst_n (q := 12) C 1 dX10_addCourse_11 (by decide +kernel) rfl ?_
      refine pw_bipush_n (q := 14) C 6 dX10_addCourse_12 (by decide +kernel) rfl ?_
      refine pw_rd (q := 17) (cr_s (j := iX10_isWithin) C dX10_addCourse_14 lX10_47 mX10_isWithin (ro_mk (by decide) (by decide))  (i_out h2) rfl rfl (Nat.le_of_ble_eq_true rfl) ⟨by omega, by omega⟩) rfl ?_
      refine pw_if_eq_n (q := 20) 30 C dX10_addCourse_17 (by decide) rfl (by omega) (fun g17 => ?_) (fun g17 => absurd g17 (fun q => q rfl))
      refine pw_throw (T := []) C twX10_51_170_55 dX10_addCourse_30 dX10_addCourse_33 dX10_addCourse_34 dX10_addCourse_36 dX10_addCourse_39 ⟨by decide, Nat.le_of_ble_eq_true rfl⟩ ⟨by omega, by omega⟩ (fun z hz => QX.no 0 (by rw [spAddCourse, if_neg (fun q => h2 q.2.1)]) rfl (hX.up hz) (Fr.up hz))
  · refine pw_iload_n (q := 1) (j := 1) C dX10_addCourse_0 rfl rfl rfl ?_
    refine pw_iconst_n (q := 2) C 1 dX10_addCourse_1 (by decide +kernel) rfl ?_
    refine pw_bipush_n (q := 4) C 9 dX10_addCourse_2 (by decide +kernel) rfl ?_
    refine pw_rd (q := 7) (cr_s (j := iX10_isWithin) C dX10_addCourse_4 lX10_47 mX10_isWithin (ro_mk (by decide) (by decide))  (i_out h1) rfl rfl (Nat.le_of_ble_eq_true rfl) ⟨by omega, by omega⟩) rfl ?_
    refine pw_if_eq_n (q := 10) 30 C dX10_addCourse_7 (by decide) rfl (by omega) (fun g7 => ?_) (fun g7 => absurd g7 (fun q => q rfl))
    refine pw_throw (T := []) C twX10_51_170_55 dX10_addCourse_30 dX10_addCourse_33 dX10_addCourse_34 dX10_addCourse_36 dX10_addCourse_39 ⟨by decide, Nat.le_of_ble_eq_true rfl⟩ ⟨by omega, by omega⟩ (fun z hz => QX.no 0 (by rw [spAddCourse, if_neg (fun q => h1 q.1)]) rfl (hX.up hz) (Fr.up hz))
set_option maxHeartbeats 200000 in
set_option maxRecDepth 100000 in
theorem p_addMason {M : PH} {x D : Nat} {S : St} (hX : RepX M x S) (hS : SInv D S) (c1 c2 : Int32) : Run iX10_addMason [.ref x, .int c1, .int c2] M 2 12 (QX M x (EX xA xS xS) (spAddMason S c1 c2)) := by
  obtain ⟨a0, ax, aT, hL, ⟨aQ, aq⟩, ⟨nx, aR⟩, aS, aL, aW, aF⟩ := id hX
  obtain ⟨fc, fm, fs, hG, hr⟩ := id hL
  have hI := hS.1.1
  have hb := hI.b
  refine Run.of (l0 := [some (.ref x), some (.int c1), some (.int c2)]) (by decide +kernel) (Nat.le_of_ble_eq_true rfl) (by rfl) (fun Γ G C => ?_)
  by_cases h1 : inW c1 1 9
  · refine pw_iload_n (q := 1) (j := 1) C dX10_addMason_0 rfl rfl rfl ?_
    refine pw_iconst_n (q := 2) C 1 dX10_addMason_1 (by decide +kernel) rfl ?_
    refine pw_bipush_n (q := 4) C 9 dX10_addMason_2 (by decide +kernel) rfl ?_
    refine pw_rd (q := 7) (cr_s (j := iX10_isWithin) C dX10_addMason_4 lX10_47 mX10_isWithin (ro_mk (by decide) (by decide))  (i_in h1) rfl rfl (Nat.le_of_ble_eq_true rfl) ⟨by omega, by omega⟩) rfl ?_
    refine pw_if_eq_n (q := 10) 20 C dX10_addMason_7 (by decide) rfl (by omega) (fun g7 => absurd g7 (by decide)) (fun g7 => ?_)
    by_cases h2 : inW c2 1 12
    · refine pw_iload_n (q := 11) (j := 2) C dX10_addMason_10 rfl rfl rfl ?_
      refine pw_iconst_n (q := 12) C 1 dX10_addMason_11 (by decide +kernel) rfl ?_
      refine pw_bipush_n (q := 14) C 12 dX10_addMason_12 (by decide +kernel) rfl ?_
      refine pw_rd (q := 17) (cr_s (j := iX10_isWithin) C dX10_addMason_14 lX10_47 mX10_isWithin (ro_mk (by decide) (by decide))  (i_in h2) rfl rfl (Nat.le_of_ble_eq_true rfl) ⟨by omega, by omega⟩) rfl ?_
      refine pw_if_ne_n (q := 20) 30 C dX10_addMason_17 (by decide) rfl (by omega) (fun g17 => ?_) (fun g17 => absurd g17 (fun q => absurd q (by decide)))
      obtain ⟨k1, hl1, hk1, rfl⟩ := inW_n h1 (by omega) (by omega)
      obtain ⟨k2, hl2, hk2, rfl⟩ := inW_n h2 (by omega) (by omega)
      refine pw_aload_n (q := 31) (j := 0) C dX10_addMason_30 rfl rfl rfl ?_
      refine pw_getf (q := 34) C dX10_addMason_31 fX10_19 a0 (by rfl) rfl ?_
      refine pw_getf (q := 37) C dX10_addMason_34 fX10_107 hG.1 (by rfl) rfl ?_
      refine pw_rd (q := 40) (cr_v (j := iX8_hasRoom) C dX10_addMason_37 lX10_172 mX8_hasRoom (ro_mk (by decide) (by decide)) hG.2.2.1.1 rfl (k_hasRoom hG.2.2.1) rfl rfl (Nat.le_of_ble_eq_true rfl) ⟨by omega, by omega⟩) rfl ?_
      refine pw_if_ne_b (q := 43) 53 C dX10_addMason_40 (by decide) rfl (fun g40 => ?_) (fun g40 => ?_)
      · refine pw_aload_n (q := 54) (j := 0) C dX10_addMason_53 rfl rfl rfl ?_
        refine pw_getf (q := 57) C dX10_addMason_54 fX10_29 a0 (by rfl) rfl ?_
        refine pw_aload_n (q := 58) (j := 0) C dX10_addMason_57 rfl rfl rfl ?_
        refine pw_getf (q := 61) C dX10_addMason_58 fX10_19 a0 (by rfl) rfl ?_
        refine pw_void (q := 64) (cr_v (j := iX3_remember) C dX10_addMason_61 lX10_177 mX3_remember (ro_mk (by decide) (by decide)) aR.1 rfl (r_remember aR hL hb.2.1 (by omega)) rfl rfl (Nat.le_of_ble_eq_true rfl) ⟨by omega, by omega⟩) rfl (fun M61 e61 => ?_)
        obtain ⟨hR8, sm8⟩ := e61
        have hL := hL.far sm8 (by omega)
        obtain ⟨fc, fm, fs, hG, hr⟩ := id hL
        have a0 := (sm8.2 x (by omega)).trans a0
        refine pw_aload_n (q := 65) (j := 0) C dX10_addMason_64 rfl rfl rfl ?_
        refine pw_getf (q := 68) C dX10_addMason_65 fX10_19 a0 (by rfl) rfl ?_
        refine pw_iload_n (q := 69) (j := 1) C dX10_addMason_68 rfl rfl rfl ?_
        refine pw_iload_n (q := 70) (j := 2) C dX10_addMason_69 rfl rfl rfl ?_
        refine pw_val (q := 73) (cr_v (j := iX2_newMason) C dX10_addMason_70 lX10_189 mX2_newMason (ro_mk (by decide) (by decide)) hG.1 rfl (w_newMason hL g40) rfl rfl (Nat.le_of_ble_eq_true rfl) ⟨by omega, by omega⟩) rfl (fun M70 e70 => ?_)
        exact pw_iret C dX10_addMason_73 rfl ⟨by omega, by omega⟩ (by
            obtain ⟨hL9, sm9⟩ := e70
            have t := hX.act ⟨_, hR8⟩ sm8 hL9 sm9
            exact QX.ok (by rw [spAddMason, if_pos ⟨h1, h2⟩, if_pos g40, idx_n (show k1 < 2147483648 by omega), idx_n (show k2 < 2147483648 by omega)]) t.1 t.2)
      · refine pw_throw (T := []) C twX10_62_187_66 dX10_addMason_43 dX10_addMason_46 dX10_addMason_47 dX10_addMason_49 dX10_addMason_52 ⟨by decide, Nat.le_of_ble_eq_true rfl⟩ ⟨by omega, by omega⟩ (fun z hz => QX.no 1 (by rw [spAddMason, if_pos ⟨h1, h2⟩, if_neg g40]) rfl (hX.up hz) (Fr.up hz))
    · refine pw_iload_n (q := 11) (j := 2) C dX10_addMason_10 rfl rfl rfl ?_
      refine pw_iconst_n (q := 12) C 1 dX10_addMason_11 (by decide +kernel) rfl ?_
      refine pw_bipush_n (q := 14) C 12 dX10_addMason_12 (by decide +kernel) rfl ?_
      refine pw_rd (q := 17) (cr_s (j := iX10_isWithin) C dX10_addMason_14 lX10_47 mX10_isWithin (ro_mk (by decide) (by decide))  (i_out h2) rfl rfl (Nat.le_of_ble_eq_true rfl) ⟨by omega, by omega⟩) rfl ?_
      refine pw_if_ne_n (q := 20) 30 C dX10_addMason_17 (by decide) rfl (by omega) (fun g17 => absurd g17 (by omega)) (fun g17 => ?_)
      refine pw_throw (T := []) C twX10_51_185_55 dX10_addMason_20 dX10_addMason_23 dX10_addMason_24 dX10_addMason_26 dX10_addMason_29 ⟨by decide, Nat.le_of_ble_eq_true rfl⟩ ⟨by omega, by omega⟩ (fun z hz => QX.no 0 (by rw [spAddMason, if_neg (fun q => h2 q.2)]) rfl (hX.up hz) (Fr.up hz))
  · refine pw_iload_n (q := 1) (j := 1) C dX10_addMason_0 rfl rfl rfl ?_
    refine pw_iconst_n (q := 2) C 1 dX10_addMason_1 (by decide +kernel) rfl ?_
    refine pw_bipush_n (q := 4) C 9 dX10_addMason_2 (by decide +kernel) rfl ?_
    refine pw_rd (q := 7) (cr_s (j := iX10_isWithin) C dX10_addMason_4 lX10_47 mX10_isWithin (ro_mk (by decide) (by decide))  (i_out h1) rfl rfl (Nat.le_of_ble_eq_true rfl) ⟨by omega, by omega⟩) rfl ?_
    refine pw_if_eq_n (q := 10) 20 C dX10_addMason_7 (by decide) rfl (by omega) (fun g7 => ?_) (fun g7 => absurd g7 (fun q => q rfl))
    refine pw_throw (T := []) C twX10_51_185_55 dX10_addMason_20 dX10_addMason_23 dX10_addMason_24 dX10_addMason_26 dX10_addMason_29 ⟨by decide, Nat.le_of_ble_eq_true rfl⟩ ⟨by omega, by omega⟩ (fun z hz => QX.no 0 (by rw [spAddMason, if_neg (fun q => h1 q.1)]) rfl (hX.up hz) (Fr.up hz))
set_option maxHeartbeats 200000 in
set_option maxRecDepth 100000 in
theorem p_cut {M : PH} {x D : Nat} {S : St} (hX : RepX M x S) (hS : SInv D S) (c1 c2 c3 : Int32) : Run iX10_cut [.ref x, .int c1, .int c2, .int c3] M 2 12 (QX M x (EX xB xA xS) (spCut S c1 c2 c3)) := by
  obtain ⟨a0, ax, aT, hL, ⟨aQ, aq⟩, ⟨nx, aR⟩, aS, aL, aW, aF⟩ := id hX
  obtain ⟨fc, fm, fs, hG, hr⟩ := id hL
  have hI := hS.1.1
  have hb := hI.b
  refine Run.of (l0 := [some (.ref x), some (.int c1), some (.int c2), some (.int c3)]) (by decide +kernel) (Nat.le_of_ble_eq_true rfl) (by rfl) (fun Γ G C => ?_)
  by_cases h1 : inI c1 (sP S 6)
  · obtain ⟨k1, hk1, rfl⟩ := inI_n h1 (by omega)
    refine pw_aload_n (q := 1) (j := 0) C dX10_cut_0 rfl rfl rfl ?_
    refine pw_iload_n (q := 2) (j := 1) C dX10_cut_1 rfl rfl rfl ?_
    refine pw_void (q := 5) (cr_v (j := iX10_requireMason) C dX10_cut_2 lX10_156 mX10_requireMason (ro_mk (by decide) (by decide)) a0 rfl (q_mason hX hS hk1) rfl rfl (Nat.le_of_ble_eq_true rfl) ⟨by omega, by omega⟩) rfl (fun M2 e2 => ?_)
    subst e2
    by_cases h2 : inI c2 (sP S 5)
    · obtain ⟨k2, hk2, rfl⟩ := inI_n h2 (by omega)
      refine pw_aload_n (q := 6) (j := 0) C dX10_cut_5 rfl rfl rfl ?_
      refine pw_iload_n (q := 7) (j := 2) C dX10_cut_6 rfl rfl rfl ?_
      refine pw_void (q := 10) (cr_v (j := iX10_requireCourse) C dX10_cut_7 lX10_140 mX10_requireCourse (ro_mk (by decide) (by decide)) a0 rfl (q_course hX hS hk2) rfl rfl (Nat.le_of_ble_eq_true rfl) ⟨by omega, by omega⟩) rfl (fun M7 e7 => ?_)
      subst e7
      by_cases h3 : inW c3 0 9
      · refine pw_iload_n (q := 11) (j := 3) C dX10_cut_10 rfl rfl rfl ?_
        refine pw_iconst_n (q := 12) C 0 dX10_cut_11 (by decide +kernel) rfl ?_
        refine pw_bipush_n (q := 14) C 9 dX10_cut_12 (by decide +kernel) rfl ?_
        refine pw_rd (q := 17) (cr_s (j := iX10_isWithin) C dX10_cut_14 lX10_47 mX10_isWithin (ro_mk (by decide) (by decide))  (i_in h3) rfl rfl (Nat.le_of_ble_eq_true rfl) ⟨by omega, by omega⟩) rfl ?_
        refine pw_if_ne_n (q := 20) 30 C dX10_cut_17 (by decide) rfl (by omega) (fun g17 => ?_) (fun g17 => absurd g17 (fun q => absurd q (by decide)))
        obtain ⟨k3, hl3, hk3, rfl⟩ := inW_n h3 (by omega) (by omega)
        refine pw_aload_n (q := 31) (j := 0) C dX10_cut_30 rfl rfl rfl ?_
        refine pw_getf (q := 34) C dX10_cut_31 fX10_19 a0 (by rfl) rfl ?_
        refine pw_iload_n (q := 35) (j := 1) C dX10_cut_34 rfl rfl rfl ?_
        refine pw_iload_n (q := 36) (j := 2) C dX10_cut_35 rfl rfl rfl ?_
        refine pw_rd (q := 39) (cr_v (j := iX2_mayCut) C dX10_cut_36 lX10_203 mX2_mayCut (ro_mk (by decide) (by decide)) hG.1 rfl (k_mayCut_in hL hI hk1 hk2) rfl rfl (Nat.le_of_ble_eq_true rfl) ⟨by omega, by omega⟩) rfl ?_
        refine pw_if_ne_b (q := 42) 52 C dX10_cut_39 (by decide) rfl (fun g39 => ?_) (fun g39 => ?_)
        · refine pw_aload_n (q := 53) (j := 0) C dX10_cut_52 rfl rfl rfl ?_
          refine pw_getf (q := 56) C dX10_cut_53 fX10_29 a0 (by rfl) rfl ?_
          refine pw_aload_n (q := 57) (j := 0) C dX10_cut_56 rfl rfl rfl ?_
          refine pw_getf (q := 60) C dX10_cut_57 fX10_19 a0 (by rfl) rfl ?_
          refine pw_void (q := 63) (cr_v (j := iX3_remember) C dX10_cut_60 lX10_177 mX3_remember (ro_mk (by decide) (by decide)) aR.1 rfl (r_remember aR hL hb.2.1 (by omega)) rfl rfl (Nat.le_of_ble_eq_true rfl) ⟨by omega, by omega⟩) rfl (fun M60 e60 => ?_)
          obtain ⟨hR8, sm8⟩ := e60
          have hL := hL.far sm8 (by omega)
          obtain ⟨fc, fm, fs, hG, hr⟩ := id hL
          have a0 := (sm8.2 x (by omega)).trans a0
          refine pw_aload_n (q := 64) (j := 0) C dX10_cut_63 rfl rfl rfl ?_
          refine pw_getf (q := 67) C dX10_cut_64 fX10_19 a0 (by rfl) rfl ?_
          refine pw_iload_n (q := 68) (j := 1) C dX10_cut_67 rfl rfl rfl ?_
          refine pw_iload_n (q := 69) (j := 2) C dX10_cut_68 rfl rfl rfl ?_
          refine pw_iload_n (q := 70) (j := 3) C dX10_cut_69 rfl rfl rfl ?_
          refine pw_val (q := 73) (cr_v (j := iX2_cutStone) C dX10_cut_70 lX10_209 mX2_cutStone (ro_mk (by decide) (by decide)) hG.1 rfl (w_cut hL hk1 hk2 g39) rfl rfl (Nat.le_of_ble_eq_true rfl) ⟨by omega, by omega⟩) rfl (fun M70 e70 => ?_)
          exact pw_iret C dX10_cut_73 rfl ⟨by omega, by omega⟩ (by
              obtain ⟨hL9, sm9⟩ := e70
              have t := hX.act ⟨_, hR8⟩ sm8 hL9 sm9
              exact QX.ok (by rw [spCut, if_pos ⟨h1, h2⟩, if_pos h3, idx_n (show k1 < 2147483648 by omega), idx_n (show k2 < 2147483648 by omega), idx_n (show k3 < 2147483648 by omega), if_pos g39]) t.1 t.2)
        · refine pw_throw (T := []) C twX10_62_207_66 dX10_cut_42 dX10_cut_45 dX10_cut_46 dX10_cut_48 dX10_cut_51 ⟨by decide, Nat.le_of_ble_eq_true rfl⟩ ⟨by omega, by omega⟩ (fun z hz => QX.no 2 (by rw [spCut, if_pos ⟨h1, h2⟩, if_pos h3, idx_n (show k1 < 2147483648 by omega), idx_n (show k2 < 2147483648 by omega), if_neg g39]) rfl (hX.up hz) (Fr.up hz))
      · refine pw_iload_n (q := 11) (j := 3) C dX10_cut_10 rfl rfl rfl ?_
        refine pw_iconst_n (q := 12) C 0 dX10_cut_11 (by decide +kernel) rfl ?_
        refine pw_bipush_n (q := 14) C 9 dX10_cut_12 (by decide +kernel) rfl ?_
        refine pw_rd (q := 17) (cr_s (j := iX10_isWithin) C dX10_cut_14 lX10_47 mX10_isWithin (ro_mk (by decide) (by decide))  (i_out h3) rfl rfl (Nat.le_of_ble_eq_true rfl) ⟨by omega, by omega⟩) rfl ?_
        refine pw_if_ne_n (q := 20) 30 C dX10_cut_17 (by decide) rfl (by omega) (fun g17 => absurd g17 (by omega)) (fun g17 => ?_)
        refine pw_throw (T := []) C twX10_51_201_55 dX10_cut_20 dX10_cut_23 dX10_cut_24 dX10_cut_26 dX10_cut_29 ⟨by decide, Nat.le_of_ble_eq_true rfl⟩ ⟨by omega, by omega⟩ (fun z hz => QX.no 1 (by rw [spCut, if_pos ⟨h1, h2⟩, if_neg h3]) rfl (hX.up hz) (Fr.up hz))
    · refine pw_aload_n (q := 6) (j := 0) C dX10_cut_5 rfl rfl rfl ?_
      refine pw_iload_n (q := 7) (j := 2) C dX10_cut_6 rfl rfl rfl ?_
      refine pw_exc (q := 10) (cr_v (j := iX10_requireCourse) C dX10_cut_7 lX10_140 mX10_requireCourse (ro_mk (by decide) (by decide)) a0 rfl (q_courseN hX hS h2) rfl rfl (Nat.le_of_ble_eq_true rfl) ⟨by omega, by omega⟩) (fun M7 e7 => ?_)
      exact px_out C ⟨by omega, by omega⟩ (QX.no 0 (by rw [spCut, if_neg (fun q => h2 q.2)]) rfl (hX.up2 e7) (Fr.up2 e7))
  · refine pw_aload_n (q := 1) (j := 0) C dX10_cut_0 rfl rfl rfl ?_
    refine pw_iload_n (q := 2) (j := 1) C dX10_cut_1 rfl rfl rfl ?_
    refine pw_exc (q := 5) (cr_v (j := iX10_requireMason) C dX10_cut_2 lX10_156 mX10_requireMason (ro_mk (by decide) (by decide)) a0 rfl (q_masonN hX hS h1) rfl rfl (Nat.le_of_ble_eq_true rfl) ⟨by omega, by omega⟩) (fun M2 e2 => ?_)
    exact px_out C ⟨by omega, by omega⟩ (QX.no 0 (by rw [spCut, if_neg (fun q => h1 q.1)]) rfl (hX.up2 e2) (Fr.up2 e2))
