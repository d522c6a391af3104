/-! The calls that only read, by the document. -/
theorem tab5 (w : Int32) : (w = nI 0 ∨ w = nI 1 ∨ w = nI 2 ∨ w = nI 3 ∨ w = nI 4 ∨ w = nI 5) ∨ ¬ inW w 0 5 := by
  by_cases h : inW w 0 5
  · left
    obtain ⟨j, _, hj, rfl⟩ := inW_n h (by omega) (by omega)
    rcases (show j = 0 ∨ j = 1 ∨ j = 2 ∨ j = 3 ∨ j = 4 ∨ j = 5 by omega) with rfl | rfl | rfl | rfl | rfl | rfl <;> simp
  · right
    exact h
theorem tab6 (w : Int32) : (w = nI 0 ∨ w = nI 1 ∨ w = nI 2 ∨ w = nI 3 ∨ w = nI 4 ∨ w = nI 5 ∨ w = nI 6) ∨ ¬ inW w 0 6 := by
  by_cases h : inW w 0 6
  · left
    obtain ⟨j, _, hj, rfl⟩ := inW_n h (by omega) (by omega)
    rcases (show j = 0 ∨ j = 1 ∨ j = 2 ∨ j = 3 ∨ j = 4 ∨ j = 5 ∨ j = 6 by omega) with rfl | rfl | rfl | rfl | rfl | rfl | rfl <;> simp
  · right
    exact h
theorem tab11 (w : Int32) : (w = nI 0 ∨ w = nI 1 ∨ w = nI 2 ∨ w = nI 3 ∨ w = nI 4 ∨ w = nI 5 ∨ w = nI 6 ∨ w = nI 7 ∨ w = nI 8 ∨ w = nI 9 ∨ w = nI 10 ∨ w = nI 11) ∨ ¬ inW w 0 11 := by
  by_cases h : inW w 0 11
  · left
    obtain ⟨j, _, hj, rfl⟩ := inW_n h (by omega) (by omega)
    rcases (show j = 0 ∨ j = 1 ∨ j = 2 ∨ j = 3 ∨ j = 4 ∨ j = 5 ∨ j = 6 ∨ j = 7 ∨ j = 8 ∨ j = 9 ∨ j = 10 ∨ j = 11 by omega) with rfl | rfl | rfl | rfl | rfl | rfl | rfl | rfl | rfl | rfl | rfl | rfl <;> simp
  · right
    exact h
def aboutV (P : Nat → Nat) : Nat → Nat
  | 0 => P 5
  | 1 => P 6
  | 2 => P 7
  | 3 => P 1
  | 4 => P 2
  | 5 => P 0
  | 6 => compl P
  | 7 => cntS P 3
  | 8 => cntS P 4
  | 9 => owedAll P
  | 10 => P 3
  | _ => P 4
def courseV (P : Nat → Nat) (c : Nat) : Nat → Nat
  | 3 => cntC P c 3
  | 4 => lacks P c
  | 5 => cntC P c 0
  | 6 => cntC P c 2
  | k => P (8 + 3 * c + k)
def masonV (P : Nat → Nat) (m : Nat) : Nat → Nat
  | 4 => cntM P m 3
  | 5 => cntM P m 2 + cntM P m 4
  | k => P (26 + 4 * m + k)
def spAbout (S : St) (w : Int32) : RS := if inW w 0 11 then (0, nI (aboutV (sP S) (idx w)), S) else (1, 0, S)
def spCourse (S : St) (c w : Int32) : RS := if inI c (sP S 5) then (if inW w 0 6 then (0, nI (courseV (sP S) (idx c) (idx w)), S) else (2, 0, S)) else (1, 0, S)
def spMason (S : St) (c w : Int32) : RS := if inI c (sP S 6) then (if inW w 0 5 then (0, nI (masonV (sP S) (idx c) (idx w)), S) else (2, 0, S)) else (1, 0, S)
def spStone (S : St) (c w : Int32) : RS := if inI c (sP S 7) then (if inW w 0 5 then (0, nI (sP S (50 + 6 * idx c + idx w)), S) else (2, 0, S)) else (1, 0, S)
def spWhy (S : St) (c : Int32) : RS := if inI c (sP S 7) then (0, nI (why (sP S) (idx c)), S) else (1, 0, S)
def spRecutFor (S : St) (c : Int32) : RS := if inI c (sP S 7) then (0, optI (recutC (sP S) (idx c)), S) else (1, 0, S)
def spCheapest (S : St) (c : Int32) : RS := if inI c (sP S 5) then (0, optI (cheapN (sP S) (idx c) (sP S 6)), S) else (1, 0, S)
def spEarn (S : St) (b : Int32) : RS := if inW b 0 9 then (0, nI (earn (sP S) (idx b)), S) else (1, 0, S)
set_option maxHeartbeats 200000 in
set_option maxRecDepth 100000 in
theorem q_course {M : PH} {x D : Nat} {S : St} (hX : RepX M x S) (hS : SInv D S) {k : Nat} (hk : k < sP S 5) : Run iX10_requireCourse [.ref x, .int (nI k)] M 0 0 (RN (fun M1 => M1 = M)) := by
  obtain ⟨a0, ax, aT, hL, ⟨aQ, aq⟩, ⟨nx, aR⟩, aS, aL, aW, aF⟩ := id hX
  obtain ⟨fc, fm, fs, hG, hr⟩ := id hL
  have hI := hS.1.1
  have hb := hI.b
  refine Run.of (l0 := [some (.ref x), some (.int (nI k))]) (by decide +kernel) (Nat.le_of_ble_eq_true rfl) (by rfl) (fun Γ G C => ?_)
  refine pw_aload_n (q := 1) (j := 0) C dX10_requireCourse_0 rfl rfl rfl ?_
  refine pw_getf (q := 4) C dX10_requireCourse_1 fX10_19 a0 (by rfl) rfl ?_
  refine pw_getf (q := 7) C dX10_requireCourse_4 fX10_104 hG.1 (by rfl) rfl ?_
  refine pw_iload_n (q := 8) (j := 1) C dX10_requireCourse_7 rfl rfl rfl ?_
  refine pw_rd (q := 11) (cr_v (j := iX8_has) C dX10_requireCourse_8 lX10_329 mX8_has (ro_mk (by decide) (by decide)) hG.2.1.1 rfl (k_has_in hG.2.1 hk) rfl rfl (Nat.le_of_ble_eq_true rfl) ⟨by omega, by omega⟩) rfl ?_
  refine pw_if_ne_n (q := 14) 25 C dX10_requireCourse_11 (by decide) rfl (by omega) (fun g11 => ?_) (fun g11 => absurd g11 (fun q => absurd q (by decide)))
  exact pw_vret C dX10_requireCourse_25 rfl ⟨by omega, by omega⟩ (RN.mk rfl)
set_option maxHeartbeats 200000 in
set_option maxRecDepth 100000 in
theorem q_courseN {M : PH} {x D : Nat} {S : St} (hX : RepX M x S) (hS : SInv D S) {c : Int32} (hc : ¬ inI c (sP S 5)) : Run iX10_requireCourse [.ref x, .int c] M 1 6 (RX xB (fun M1 => M.1 ≤ M1.1 ∧ M1.2 = M.2)) := by
  obtain ⟨a0, ax, aT, hL, ⟨aQ, aq⟩, ⟨nx, aR⟩, aS, aL, aW, aF⟩ := id hX
  obtain ⟨fc, fm, fs, hG, hr⟩ := id hL
  have hI := hS.1.1
  have hb := hI.b
  refine Run.of (l0 := [some (.ref x), some (.int c)]) (by decide +kernel) (Nat.le_of_ble_eq_true rfl) (by rfl) (fun Γ G C => ?_)
  refine pw_aload_n (q := 1) (j := 0) C dX10_requireCourse_0 rfl rfl rfl ?_
  refine pw_getf (q := 4) C dX10_requireCourse_1 fX10_19 a0 (by rfl) rfl ?_
  refine pw_getf (q := 7) C dX10_requireCourse_4 fX10_104 hG.1 (by rfl) rfl ?_
  refine pw_iload_n (q := 8) (j := 1) C dX10_requireCourse_7 rfl rfl rfl ?_
  refine pw_rd (q := 11) (cr_v (j := iX8_has) C dX10_requireCourse_8 lX10_329 mX8_has (ro_mk (by decide) (by decide)) hG.2.1.1 rfl (k_has_bad hG.2.1 (inI_b hc)) rfl rfl (Nat.le_of_ble_eq_true rfl) ⟨by omega, by omega⟩) rfl ?_
  refine pw_if_ne_n (q := 14) 25 C dX10_requireCourse_11 (by decide) rfl (by omega) (fun g11 => absurd g11 (by omega)) (fun g11 => ?_)
  refine pw_throwW (T := []) C twX10_332_334_336 dX10_requireCourse_14 dX10_requireCourse_17 dX10_requireCourse_18 dX10_requireCourse_21 dX10_requireCourse_24 ⟨by decide, Nat.le_of_ble_eq_true rfl⟩ ⟨by omega, by omega⟩ (fun z hz => ⟨rfl, hz, rfl⟩)
set_option maxHeartbeats 200000 in
set_option maxRecDepth 100000 in
theorem q_mason {M : PH} {x D : Nat} {S : St} (hX : RepX M x S) (hS : SInv D S) {k : Nat} (hk : k < sP S 6) : Run iX10_requireMason [.ref x, .int (nI k)] M 0 0 (RN (fun M1 => M1 = M)) := by
  obtain ⟨a0, ax, aT, hL, ⟨aQ, aq⟩, ⟨nx, aR⟩, aS, aL, aW, aF⟩ := id hX
  obtain ⟨fc, fm, fs, hG, hr⟩ := id hL
  have hI := hS.1.1
  have hb := hI.b
  refine Run.of (l0 := [some (.ref x), some (.int (nI k))]) (by decide +kernel) (Nat.le_of_ble_eq_true rfl) (by rfl) (fun Γ G C => ?_)
  refine pw_aload_n (q := 1) (j := 0) C dX10_requireMason_0 rfl rfl rfl ?_
  refine pw_getf (q := 4) C dX10_requireMason_1 fX10_19 a0 (by rfl) rfl ?_
  refine pw_getf (q := 7) C dX10_requireMason_4 fX10_107 hG.1 (by rfl) rfl ?_
  refine pw_iload_n (q := 8) (j := 1) C dX10_requireMason_7 rfl rfl rfl ?_
  refine pw_rd (q := 11) (cr_v (j := iX8_has) C dX10_requireMason_8 lX10_329 mX8_has (ro_mk (by decide) (by decide)) hG.2.2.1.1 rfl (k_has_in hG.2.2.1 hk) rfl rfl (Nat.le_of_ble_eq_true rfl) ⟨by omega, by omega⟩) rfl ?_
  refine pw_if_ne_n (q := 14) 25 C dX10_requireMason_11 (by decide) rfl (by omega) (fun g11 => ?_) (fun g11 => absurd g11 (fun q => absurd q (by decide)))
  exact pw_vret C dX10_requireMason_25 rfl ⟨by omega, by omega⟩ (RN.mk rfl)
set_option maxHeartbeats 200000 in
set_option maxRecDepth 100000 in
theorem q_masonN {M : PH} {x D : Nat} {S : St} (hX : RepX M x S) (hS : SInv D S) {c : Int32} (hc : ¬ inI c (sP S 6)) : Run iX10_requireMason [.ref x, .int c] M 1 6 (RX xB (fun M1 => M.1 ≤ M1.1 ∧ M1.2 = M.2)) := by
  obtain ⟨a0, ax, aT, hL, ⟨aQ, aq⟩, ⟨nx, aR⟩, aS, aL, aW, aF⟩ := id hX
  obtain ⟨fc, fm, fs, hG, hr⟩ := id hL
  have hI := hS.1.1
  have hb := hI.b
  refine Run.of (l0 := [some (.ref x), some (.int c)]) (by decide +kernel) (Nat.le_of_ble_eq_true rfl) (by rfl) (fun Γ G C => ?_)
  refine pw_aload_n (q := 1) (j := 0) C dX10_requireMason_0 rfl rfl rfl ?_
  refine pw_getf (q := 4) C dX10_requireMason_1 fX10_19 a0 (by rfl) rfl ?_
  refine pw_getf (q := 7) C dX10_requireMason_4 fX10_107 hG.1 (by rfl) rfl ?_
  refine pw_iload_n (q := 8) (j := 1) C dX10_requireMason_7 rfl rfl rfl ?_
  refine pw_rd (q := 11) (cr_v (j := iX8_has) C dX10_requireMason_8 lX10_329 mX8_has (ro_mk (by decide) (by decide)) hG.2.2.1.1 rfl (k_has_bad hG.2.2.1 (inI_b hc)) rfl rfl (Nat.le_of_ble_eq_true rfl) ⟨by omega, by omega⟩) rfl ?_
  refine pw_if_ne_n (q := 14) 25 C dX10_requireMason_11 (by decide) rfl (by omega) (fun g11 => absurd g11 (by omega)) (fun g11 => ?_)
  refine pw_throwW (T := []) C twX10_332_337_336 dX10_requireMason_14 dX10_requireMason_17 dX10_requireMason_18 dX10_requireMason_21 dX10_requireMason_24 ⟨by decide, Nat.le_of_ble_eq_true rfl⟩ ⟨by omega, by omega⟩ (fun z hz => ⟨rfl, hz, rfl⟩)
set_option maxHeartbeats 200000 in
set_option maxRecDepth 100000 in
theorem q_stone {M : PH} {x D : Nat} {S : St} (hX : RepX M x S) (hS : SInv D S) {k : Nat} (hk : k < sP S 7) : Run iX10_requireStone [.ref x, .int (nI k)] M 0 0 (RN (fun M1 => M1 = M)) := by
  obtain ⟨a0, ax, aT, hL, ⟨aQ, aq⟩, ⟨nx, aR⟩, aS, aL, aW, aF⟩ := id hX
  obtain ⟨fc, fm, fs, hG, hr⟩ := id hL
  have hI := hS.1.1
  have hb := hI.b
  refine Run.of (l0 := [some (.ref x), some (.int (nI k))]) (by decide +kernel) (Nat.le_of_ble_eq_true rfl) (by rfl) (fun Γ G C => ?_)
  refine pw_aload_n (q := 1) (j := 0) C dX10_requireStone_0 rfl rfl rfl ?_
  refine pw_getf (q := 4) C dX10_requireStone_1 fX10_19 a0 (by rfl) rfl ?_
  refine pw_getf (q := 7) C dX10_requireStone_4 fX10_95 hG.1 (by rfl) rfl ?_
  refine pw_iload_n (q := 8) (j := 1) C dX10_requireStone_7 rfl rfl rfl ?_
  refine pw_rd (q := 11) (cr_v (j := iX8_has) C dX10_requireStone_8 lX10_329 mX8_has (ro_mk (by decide) (by decide)) hG.2.2.2.1 rfl (k_has_in hG.2.2.2 hk) rfl rfl (Nat.le_of_ble_eq_true rfl) ⟨by omega, by omega⟩) rfl ?_
  refine pw_if_ne_n (q := 14) 25 C dX10_requireStone_11 (by decide) rfl (by omega) (fun g11 => ?_) (fun g11 => absurd g11 (fun q => absurd q (by decide)))
  exact pw_vret C dX10_requireStone_25 rfl ⟨by omega, by omega⟩ (RN.mk rfl)
set_option maxHeartbeats 200000 in
set_option maxRecDepth 100000 in
theorem q_stoneN {M : PH} {x D : Nat} {S : St} (hX : RepX M x S) (hS : SInv D S) {c : Int32} (hc : ¬ inI c (sP S 7)) : Run iX10_requireStone [.ref x, .int c] M 1 6 (RX xB (fun M1 => M.1 ≤ M1.1 ∧ M1.2 = M.2)) := by
  obtain ⟨a0, ax, aT, hL, ⟨aQ, aq⟩, ⟨nx, aR⟩, aS, aL, aW, aF⟩ := id hX
  obtain ⟨fc, fm, fs, hG, hr⟩ := id hL
  have hI := hS.1.1
  have hb := hI.b
  refine Run.of (l0 := [some (.ref x), some (.int c)]) (by decide +kernel) (Nat.le_of_ble_eq_true rfl) (by rfl) (fun Γ G C => ?_)
  refine pw_aload_n (q := 1) (j := 0) C dX10_requireStone_0 rfl rfl rfl ?_
  refine pw_getf (q := 4) C dX10_requireStone_1 fX10_19 a0 (by rfl) rfl ?_
  refine pw_getf (q := 7) C dX10_requireStone_4 fX10_95 hG.1 (by rfl) rfl ?_
  refine pw_iload_n (q := 8) (j := 1) C dX10_requireStone_7 rfl rfl rfl ?_
  refine pw_rd (q := 11) (cr_v (j := iX8_has) C dX10_requireStone_8 lX10_329 mX8_has (ro_mk (by decide) (by decide)) hG.2.2.2.1 rfl (k_has_bad hG.2.2.2 (inI_b hc)) rfl rfl (Nat.le_of_ble_eq_true rfl) ⟨by omega, by omega⟩) rfl ?_
  refine pw_if_ne_n (q := 14) 25 C dX10_requireStone_11 (by decide) rfl (by omega) (fun g11 => absurd g11 (by omega)) (fun g11 => ?_)
  refine pw_throwW (T := []) C twX10_332_339_336 dX10_requireStone_14 dX10_requireStone_17 dX10_requireStone_18 dX10_requireStone_21 dX10_requireStone_24 ⟨by decide, Nat.le_of_ble_eq_true rfl⟩ ⟨by omega, by omega⟩ (fun z hz => ⟨rfl, hz, rfl⟩)
set_option maxHeartbeats 200000 in
set_option maxRecDepth 100000 in
theorem q_Bound {M : PH} {c : Int32} (hc : inW c 0 9) : Run iX10_requireBound [.int c] M 0 0 (RN (fun M1 => M1 = M)) := by
  refine Run.of (l0 := [some (.int c)]) (by decide +kernel) (Nat.le_of_ble_eq_true rfl) (by rfl) (fun Γ G C => ?_)
  refine pw_iload_n (q := 1) (j := 0) C dX10_requireBound_0 rfl rfl rfl ?_
  refine pw_iconst_n (q := 2) C 0 dX10_requireBound_1 (by decide +kernel) rfl ?_
  refine pw_bipush_n (q := 4) C 9 dX10_requireBound_2 (by decide +kernel) rfl ?_
  refine pw_rd (q := 7) (cr_s (j := iX10_isWithin) C dX10_requireBound_4 lX10_47 mX10_isWithin (ro_mk (by decide) (by decide))  (i_in hc) rfl rfl (Nat.le_of_ble_eq_true rfl) ⟨by omega, by omega⟩) rfl ?_
  refine pw_if_ne_n (q := 10) 21 C dX10_requireBound_7 (by decide) rfl (by omega) (fun g7 => ?_) (fun g7 => absurd g7 (fun q => absurd q (by decide)))
  exact pw_vret C dX10_requireBound_21 rfl ⟨by omega, by omega⟩ (RN.mk rfl)
set_option maxHeartbeats 200000 in
set_option maxRecDepth 100000 in
theorem q_BoundN {M : PH} {c : Int32} (hc : ¬ inW c 0 9) : Run iX10_requireBound [.int c] M 1 6 (RX xA (fun M1 => M.1 ≤ M1.1 ∧ M1.2 = M.2)) := by
  refine Run.of (l0 := [some (.int c)]) (by decide +kernel) (Nat.le_of_ble_eq_true rfl) (by rfl) (fun Γ G C => ?_)
  refine pw_iload_n (q := 1) (j := 0) C dX10_requireBound_0 rfl rfl rfl ?_
  refine pw_iconst_n (q := 2) C 0 dX10_requireBound_1 (by decide +kernel) rfl ?_
  refine pw_bipush_n (q := 4) C 9 dX10_requireBound_2 (by decide +kernel) rfl ?_
  refine pw_rd (q := 7) (cr_s (j := iX10_isWithin) C dX10_requireBound_4 lX10_47 mX10_isWithin (ro_mk (by decide) (by decide))  (i_out hc) rfl rfl (Nat.le_of_ble_eq_true rfl) ⟨by omega, by omega⟩) rfl ?_
  refine pw_if_ne_n (q := 10) 21 C dX10_requireBound_7 (by decide) rfl (by omega) (fun g7 => absurd g7 (by omega)) (fun g7 => ?_)
  refine pw_throwW (T := []) C twX10_51_341_55 dX10_requireBound_10 dX10_requireBound_13 dX10_requireBound_14 dX10_requireBound_17 dX10_requireBound_20 ⟨by decide, Nat.le_of_ble_eq_true rfl⟩ ⟨by omega, by omega⟩ (fun z hz => ⟨rfl, hz, rfl⟩)
set_option maxHeartbeats 200000 in
set_option maxRecDepth 100000 in
theorem q_Slot {M : PH} {c : Int32} (hc : inW c 0 1) : Run iX10_requireSlot [.int c] M 0 0 (RN (fun M1 => M1 = M)) := by
  refine Run.of (l0 := [some (.int c)]) (by decide +kernel) (Nat.le_of_ble_eq_true rfl) (by rfl) (fun Γ G C => ?_)
  refine pw_iload_n (q := 1) (j := 0) C dX10_requireSlot_0 rfl rfl rfl ?_
  refine pw_iconst_n (q := 2) C 0 dX10_requireSlot_1 (by decide +kernel) rfl ?_
  refine pw_iconst_n (q := 3) C 1 dX10_requireSlot_2 (by decide +kernel) rfl ?_
  refine pw_rd (q := 6) (cr_s (j := iX10_isWithin) C dX10_requireSlot_3 lX10_47 mX10_isWithin (ro_mk (by decide) (by decide))  (i_in hc) rfl rfl (Nat.le_of_ble_eq_true rfl) ⟨by omega, by omega⟩) rfl ?_
  refine pw_if_ne_n (q := 9) 20 C dX10_requireSlot_6 (by decide) rfl (by omega) (fun g6 => ?_) (fun g6 => absurd g6 (fun q => absurd q (by decide)))
  exact pw_vret C dX10_requireSlot_20 rfl ⟨by omega, by omega⟩ (RN.mk rfl)
set_option maxHeartbeats 200000 in
set_option maxRecDepth 100000 in
theorem q_SlotN {M : PH} {c : Int32} (hc : ¬ inW c 0 1) : Run iX10_requireSlot [.int c] M 1 6 (RX xB (fun M1 => M.1 ≤ M1.1 ∧ M1.2 = M.2)) := by
  refine Run.of (l0 := [some (.int c)]) (by decide +kernel) (Nat.le_of_ble_eq_true rfl) (by rfl) (fun Γ G C => ?_)
  refine pw_iload_n (q := 1) (j := 0) C dX10_requireSlot_0 rfl rfl rfl ?_
  refine pw_iconst_n (q := 2) C 0 dX10_requireSlot_1 (by decide +kernel) rfl ?_
  refine pw_iconst_n (q := 3) C 1 dX10_requireSlot_2 (by decide +kernel) rfl ?_
  refine pw_rd (q := 6) (cr_s (j := iX10_isWithin) C dX10_requireSlot_3 lX10_47 mX10_isWithin (ro_mk (by decide) (by decide))  (i_out hc) rfl rfl (Nat.le_of_ble_eq_true rfl) ⟨by omega, by omega⟩) rfl ?_
  refine pw_if_ne_n (q := 9) 20 C dX10_requireSlot_6 (by decide) rfl (by omega) (fun g6 => absurd g6 (by omega)) (fun g6 => ?_)
  refine pw_throwW (T := []) C twX10_332_343_336 dX10_requireSlot_9 dX10_requireSlot_12 dX10_requireSlot_13 dX10_requireSlot_16 dX10_requireSlot_19 ⟨by decide, Nat.le_of_ble_eq_true rfl⟩ ⟨by omega, by omega⟩ (fun z hz => ⟨rfl, hz, rfl⟩)
theorem RepX.up2 {M M1 : PH} {x : Nat} {S : St} (h : RepX M x S) (h1 : M.1 ≤ M1.1 ∧ M1.2 = M.2) : RepX M1 x S := h.keep h1.1 (fun q _ _ => by rw [h1.2])
theorem Fr.up2 {M M1 : PH} {x : Nat} (h1 : M.1 ≤ M1.1 ∧ M1.2 = M.2) : Fr M M1 x := ⟨h1.1, fun q _ _ => by rw [h1.2]⟩
set_option maxHeartbeats 200000 in
set_option maxRecDepth 100000 in
theorem p_why {M : PH} {x D : Nat} {S : St} (hX : RepX M x S) (hS : SInv D S) (c : Int32) : Run iX10_whyNotSet [.ref x, .int c] M 2 12 (QX M x (EX xB xB xB) (spWhy S c)) := by
  obtain ⟨a0, ax, aT, hL, ⟨aQ, aq⟩, ⟨nx, aR⟩, aS, aL, aW, aF⟩ := id hX
  obtain ⟨fc, fm, fs, hG, hr⟩ := id hL
  have hI := hS.1.1
  have hb := hI.b
  refine Run.of (l0 := [some (.ref x), some (.int c)]) (by decide +kernel) (Nat.le_of_ble_eq_true rfl) (by rfl) (fun Γ G C => ?_)
  by_cases hc : inI c (sP S 7)
  · obtain ⟨k, hk, rfl⟩ := inI_n hc (by omega)
    refine pw_aload_n (q := 1) (j := 0) C dX10_whyNotSet_0 rfl rfl rfl ?_
    refine pw_iload_n (q := 2) (j := 1) C dX10_whyNotSet_1 rfl rfl rfl ?_
    refine pw_void (q := 5) (cr_v (j := iX10_requireStone) C dX10_whyNotSet_2 lX10_164 mX10_requireStone (ro_mk (by decide) (by decide)) a0 rfl (q_stone hX hS hk) rfl rfl (Nat.le_of_ble_eq_true rfl) ⟨by omega, by omega⟩) rfl (fun M2 e2 => ?_)
    subst e2
    refine pw_aload_n (q := 6) (j := 0) C dX10_whyNotSet_5 rfl rfl rfl ?_
    refine pw_getf (q := 9) C dX10_whyNotSet_6 fX10_19 a0 (by rfl) rfl ?_
    refine pw_iload_n (q := 10) (j := 1) C dX10_whyNotSet_9 rfl rfl rfl ?_
    refine pw_rd (q := 13) (cr_v (j := iX2_hindrance) C dX10_whyNotSet_10 lX10_167 mX2_hindrance (ro_mk (by decide) (by decide)) hG.1 rfl (k_hindrance_in hL hI hk) rfl rfl (Nat.le_of_ble_eq_true rfl) ⟨by omega, by omega⟩) rfl ?_
    exact pw_iret C dX10_whyNotSet_13 rfl ⟨by omega, by omega⟩ (QX.ok (by rw [spWhy, if_pos hc, idx_n (show k < 2147483648 by omega)]) hX Fr.rf)
  · refine pw_aload_n (q := 1) (j := 0) C dX10_whyNotSet_0 rfl rfl rfl ?_
    refine pw_iload_n (q := 2) (j := 1) C dX10_whyNotSet_1 rfl rfl rfl ?_
    refine pw_exc (q := 5) (cr_v (j := iX10_requireStone) C dX10_whyNotSet_2 lX10_164 mX10_requireStone (ro_mk (by decide) (by decide)) a0 rfl (q_stoneN hX hS hc) rfl rfl (Nat.le_of_ble_eq_true rfl) ⟨by omega, by omega⟩) (fun M2 e2 => ?_)
    exact px_out C ⟨by omega, by omega⟩ (QX.no 0 (by rw [spWhy, if_neg hc]) rfl (hX.up2 e2) (Fr.up2 e2))
set_option maxHeartbeats 200000 in
set_option maxRecDepth 100000 in
theorem p_recutFor {M : PH} {x D : Nat} {S : St} (hX : RepX M x S) (hS : SInv D S) (c : Int32) : Run iX10_recutFor [.ref x, .int c] M 2 12 (QX M x (EX xB xB xB) (spRecutFor S c)) := by
  obtain ⟨a0, ax, aT, hL, ⟨aQ, aq⟩, ⟨nx, aR⟩, aS, aL, aW, aF⟩ := id hX
  obtain ⟨fc, fm, fs, hG, hr⟩ := id hL
  have hI := hS.1.1
  have hb := hI.b
  refine Run.of (l0 := [some (.ref x), some (.int c)]) (by decide +kernel) (Nat.le_of_ble_eq_true rfl) (by rfl) (fun Γ G C => ?_)
  by_cases hc : inI c (sP S 7)
  · obtain ⟨k, hk, rfl⟩ := inI_n hc (by omega)
    refine pw_aload_n (q := 1) (j := 0) C dX10_recutFor_0 rfl rfl rfl ?_
    refine pw_iload_n (q := 2) (j := 1) C dX10_recutFor_1 rfl rfl rfl ?_
    refine pw_void (q := 5) (cr_v (j := iX10_requireStone) C dX10_recutFor_2 lX10_164 mX10_requireStone (ro_mk (by decide) (by decide)) a0 rfl (q_stone hX hS hk) rfl rfl (Nat.le_of_ble_eq_true rfl) ⟨by omega, by omega⟩) rfl (fun M2 e2 => ?_)
    subst e2
    refine pw_aload_n (q := 6) (j := 0) C dX10_recutFor_5 rfl rfl rfl ?_
    refine pw_getf (q := 9) C dX10_recutFor_6 fX10_19 a0 (by rfl) rfl ?_
    refine pw_iload_n (q := 10) (j := 1) C dX10_recutFor_9 rfl rfl rfl ?_
    refine pw_rd (q := 13) (cr_v (j := iX2_courseForRecut) C dX10_recutFor_10 lX10_258 mX2_courseForRecut (ro_mk (by decide) (by decide)) hG.1 rfl (k_recutFor_in hL hI hk) rfl rfl (Nat.le_of_ble_eq_true rfl) ⟨by omega, by omega⟩) rfl ?_
    exact pw_iret C dX10_recutFor_13 rfl ⟨by omega, by omega⟩ (QX.ok (by rw [spRecutFor, if_pos hc, idx_n (show k < 2147483648 by omega)]) hX Fr.rf)
  · refine pw_aload_n (q := 1) (j := 0) C dX10_recutFor_0 rfl rfl rfl ?_
    refine pw_iload_n (q := 2) (j := 1) C dX10_recutFor_1 rfl rfl rfl ?_
    refine pw_exc (q := 5) (cr_v (j := iX10_requireStone) C dX10_recutFor_2 lX10_164 mX10_requireStone (ro_mk (by decide) (by decide)) a0 rfl (q_stoneN hX hS hc) rfl rfl (Nat.le_of_ble_eq_true rfl) ⟨by omega, by omega⟩) (fun M2 e2 => ?_)
    exact px_out C ⟨by omega, by omega⟩ (QX.no 0 (by rw [spRecutFor, if_neg hc]) rfl (hX.up2 e2) (Fr.up2 e2))
set_option maxHeartbeats 200000 in
set_option maxRecDepth 100000 in
theorem p_cheapest {M : PH} {x D : Nat} {S : St} (hX : RepX M x S) (hS : SInv D S) (c : Int32) : Run iX10_cheapest [.ref x, .int c] M 2 12 (QX M x (EX xB xB xB) (spCheapest S c)) := by
  obtain ⟨a0, ax, aT, hL, ⟨aQ, aq⟩, ⟨nx, aR⟩, aS, aL, aW, aF⟩ := id hX
  obtain ⟨fc, fm, fs, hG, hr⟩ := id hL
  have hI := hS.1.1
  have hb := hI.b
  refine Run.of (l0 := [some (.ref x), some (.int c)]) (by decide +kernel) (Nat.le_of_ble_eq_true rfl) (by rfl) (fun Γ G C => ?_)
  by_cases hc : inI c (sP S 5)
  · obtain ⟨k, hk, rfl⟩ := inI_n hc (by omega)
    refine pw_aload_n (q := 1) (j := 0) C dX10_cheapest_0 rfl rfl rfl ?_
    refine pw_iload_n (q := 2) (j := 1) C dX10_cheapest_1 rfl rfl rfl ?_
    refine pw_void (q := 5) (cr_v (j := iX10_requireCourse) C dX10_cheapest_2 lX10_140 mX10_requireCourse (ro_mk (by decide) (by decide)) a0 rfl (q_course hX hS hk) rfl rfl (Nat.le_of_ble_eq_true rfl) ⟨by omega, by omega⟩) rfl (fun M2 e2 => ?_)
    subst e2
    refine pw_aload_n (q := 6) (j := 0) C dX10_cheapest_5 rfl rfl rfl ?_
    refine pw_getf (q := 9) C dX10_cheapest_6 fX10_19 a0 (by rfl) rfl ?_
    refine pw_iload_n (q := 10) (j := 1) C dX10_cheapest_9 rfl rfl rfl ?_
    refine pw_rd (q := 13) (cr_v (j := iX2_cheapestFor) C dX10_cheapest_10 lX10_261 mX2_cheapestFor (ro_mk (by decide) (by decide)) hG.1 rfl (k_cheapest hL hI hk) rfl rfl (Nat.le_of_ble_eq_true rfl) ⟨by omega, by omega⟩) rfl ?_
    exact pw_iret C dX10_cheapest_13 rfl ⟨by omega, by omega⟩ (QX.ok (by rw [spCheapest, if_pos hc, idx_n (show k < 2147483648 by omega)]) hX Fr.rf)
  · refine pw_aload_n (q := 1) (j := 0) C dX10_cheapest_0 rfl rfl rfl ?_
    refine pw_iload_n (q := 2) (j := 1) C dX10_cheapest_1 rfl rfl rfl ?_
    refine pw_exc (q := 5) (cr_v (j := iX10_requireCourse) C dX10_cheapest_2 lX10_140 mX10_requireCourse (ro_mk (by decide) (by decide)) a0 rfl (q_courseN hX hS hc) rfl rfl (Nat.le_of_ble_eq_true rfl) ⟨by omega, by omega⟩) (fun M2 e2 => ?_)
    exact px_out C ⟨by omega, by omega⟩ (QX.no 0 (by rw [spCheapest, if_neg hc]) rfl (hX.up2 e2) (Fr.up2 e2))
set_option maxHeartbeats 200000 in
set_option maxRecDepth 100000 in
theorem p_stone {M : PH} {x D : Nat} {S : St} (hX : RepX M x S) (hS : SInv D S) (c w : Int32) : Run iX10_stone [.ref x, .int c, .int w] M 2 12 (QX M x (EX xB xA xA) (spStone S c w)) := by
  obtain ⟨a0, ax, aT, hL, ⟨aQ, aq⟩, ⟨nx, aR⟩, aS, aL, aW, aF⟩ := id hX
  obtain ⟨fc, fm, fs, hG, hr⟩ := id hL
  have hI := hS.1.1
  have hb := hI.b
  refine Run.of (l0 := [some (.ref x), some (.int c), some (.int w)]) (by decide +kernel) (Nat.le_of_ble_eq_true rfl) (by rfl) (fun Γ G C => ?_)
  by_cases hc : inI c (sP S 7)
  · obtain ⟨k, hk, rfl⟩ := inI_n hc (by omega)
    refine pw_aload_n (q := 1) (j := 0) C dX10_stone_0 rfl rfl rfl ?_
    refine pw_iload_n (q := 2) (j := 1) C dX10_stone_1 rfl rfl rfl ?_
    refine pw_void (q := 5) (cr_v (j := iX10_requireStone) C dX10_stone_2 lX10_164 mX10_requireStone (ro_mk (by decide) (by decide)) a0 rfl (q_stone hX hS hk) rfl rfl (Nat.le_of_ble_eq_true rfl) ⟨by omega, by omega⟩) rfl (fun M2 e2 => ?_)
    subst e2
    by_cases hw : inW w 0 5
    · refine pw_iload_n (q := 6) (j := 2) C dX10_stone_5 rfl rfl rfl ?_
      refine pw_iconst_n (q := 7) C 0 dX10_stone_6 (by decide +kernel) rfl ?_
      refine pw_iconst_n (q := 8) C 5 dX10_stone_7 (by decide +kernel) rfl ?_
      refine pw_rd (q := 11) (cr_s (j := iX10_isWithin) C dX10_stone_8 lX10_47 mX10_isWithin (ro_mk (by decide) (by decide))  (i_in hw) rfl rfl (Nat.le_of_ble_eq_true rfl) ⟨by omega, by omega⟩) rfl ?_
      refine pw_if_ne_n (q := 14) 24 C dX10_stone_11 (by decide) rfl (by omega) (fun g11 => ?_) (fun g11 => absurd g11 (fun q => absurd q (by decide)))
      obtain ⟨j, _, hj, rfl⟩ := inW_n hw (by omega) (by omega)
      refine pw_aload_n (q := 25) (j := 0) C dX10_stone_24 rfl rfl rfl ?_
      refine pw_getf (q := 28) C dX10_stone_25 fX10_19 a0 (by rfl) rfl ?_
      refine pw_getf (q := 31) C dX10_stone_28 fX10_95 hG.1 (by rfl) rfl ?_
      refine pw_iload_n (q := 32) (j := 1) C dX10_stone_31 rfl rfl rfl ?_
      refine pw_iload_n (q := 33) (j := 2) C dX10_stone_32 rfl rfl rfl ?_
      refine pw_rd (q := 36) (cr_v (j := iX8_get) C dX10_stone_33 lX10_144 mX8_get (ro_mk (by decide) (by decide)) hG.2.2.2.1 rfl (g_s hG hr hk (by omega)) rfl rfl (Nat.le_of_ble_eq_true rfl) ⟨by omega, by omega⟩) rfl ?_
      exact pw_iret C dX10_stone_36 rfl ⟨by omega, by omega⟩ (QX.ok (by rw [spStone, if_pos hc, if_pos hw, idx_n (show k < 2147483648 by omega), idx_n (show j < 2147483648 by omega)]) hX Fr.rf)
    · refine pw_iload_n (q := 6) (j := 2) C dX10_stone_5 rfl rfl rfl ?_
      refine pw_iconst_n (q := 7) C 0 dX10_stone_6 (by decide +kernel) rfl ?_
      refine pw_iconst_n (q := 8) C 5 dX10_stone_7 (by decide +kernel) rfl ?_
      refine pw_rd (q := 11) (cr_s (j := iX10_isWithin) C dX10_stone_8 lX10_47 mX10_isWithin (ro_mk (by decide) (by decide))  (i_out hw) rfl rfl (Nat.le_of_ble_eq_true rfl) ⟨by omega, by omega⟩) rfl ?_
      refine pw_if_ne_n (q := 14) 24 C dX10_stone_11 (by decide) rfl (by omega) (fun g11 => absurd g11 (by omega)) (fun g11 => ?_)
      refine pw_throw (T := []) C twX10_51_162_55 dX10_stone_14 dX10_stone_17 dX10_stone_18 dX10_stone_20 dX10_stone_23 ⟨by decide, Nat.le_of_ble_eq_true rfl⟩ ⟨by omega, by omega⟩ (fun z hz => QX.no 1 (by rw [spStone, if_pos hc, if_neg hw]) rfl (hX.up hz) (Fr.up hz))
  · refine pw_aload_n (q := 1) (j := 0) C dX10_stone_0 rfl rfl rfl ?_
    refine pw_iload_n (q := 2) (j := 1) C dX10_stone_1 rfl rfl rfl ?_
    refine pw_exc (q := 5) (cr_v (j := iX10_requireStone) C dX10_stone_2 lX10_164 mX10_requireStone (ro_mk (by decide) (by decide)) a0 rfl (q_stoneN hX hS hc) rfl rfl (Nat.le_of_ble_eq_true rfl) ⟨by omega, by omega⟩) (fun M2 e2 => ?_)
    exact px_out C ⟨by omega, by omega⟩ (QX.no 0 (by rw [spStone, if_neg hc]) rfl (hX.up2 e2) (Fr.up2 e2))
set_option maxHeartbeats 200000 in
set_option maxRecDepth 100000 in
theorem p_course {M : PH} {x D : Nat} {S : St} (hX : RepX M x S) (hS : SInv D S) (c w : Int32) : Run iX10_course [.ref x, .int c, .int w] M 2 12 (QX M x (EX xB xA xA) (spCourse S c w)) := by
  obtain ⟨a0, ax, aT, hL, ⟨aQ, aq⟩, ⟨nx, aR⟩, aS, aL, aW, aF⟩ := id hX
  obtain ⟨fc, fm, fs, hG, hr⟩ := id hL
  have hI := hS.1.1
  have hb := hI.b
  refine Run.of (l0 := [some (.ref x), some (.int c), some (.int w)]) (by decide +kernel) (Nat.le_of_ble_eq_true rfl) (by rfl) (fun Γ G C => ?_)
  by_cases hc : inI c (sP S 5)
  · obtain ⟨k, hk, rfl⟩ := inI_n hc (by omega)
    refine pw_aload_n (q := 1) (j := 0) C dX10_course_0 rfl rfl rfl ?_
    refine pw_iload_n (q := 2) (j := 1) C dX10_course_1 rfl rfl rfl ?_
    refine pw_void (q := 5) (cr_v (j := iX10_requireCourse) C dX10_course_2 lX10_140 mX10_requireCourse (ro_mk (by decide) (by decide)) a0 rfl (q_course hX hS hk) rfl rfl (Nat.le_of_ble_eq_true rfl) ⟨by omega, by omega⟩) rfl (fun M2 e2 => ?_)
    subst e2
    refine pw_iload_n (q := 6) (j := 2) C dX10_course_5 rfl rfl rfl ?_
    rcases tab6 w with (rfl | rfl | rfl | rfl | rfl | rfl | rfl) | hw
    · refine pw_tableIn (q := 0) 48 C dX10_course_6 (by decide +kernel) (by decide +kernel) (by rfl) (by decide) ?_
      
      refine pw_aload_n (q := 49) (j := 0) C dX10_course_48 rfl rfl rfl ?_
      refine pw_getf (q := 52) C dX10_course_49 fX10_19 a0 (by rfl) rfl ?_
      refine pw_getf (q := 55) C dX10_course_52 fX10_104 hG.1 (by rfl) rfl ?_
      refine pw_iload_n (q := 56) (j := 1) C dX10_course_55 rfl rfl rfl ?_
      refine pw_iload_n (q := 57) (j := 2) C dX10_course_56 rfl rfl rfl ?_
      refine pw_rd (q := 60) (cr_v (j := iX8_get) C dX10_course_57 lX10_144 mX8_get (ro_mk (by decide) (by decide)) hG.2.1.1 rfl (g_c hG hr hk (by omega)) rfl rfl (Nat.le_of_ble_eq_true rfl) ⟨by omega, by omega⟩) rfl ?_
      exact pw_iret C dX10_course_60 rfl ⟨by omega, by omega⟩ (QX.ok (by rw [spCourse, if_pos hc, if_pos (inW_i (show 0 ≤ 0 by omega) (show 0 ≤ 6 by omega) (by omega)), idx_n (show k < 2147483648 by omega), idx_n (show 0 < 2147483648 by omega)]; rfl) hX Fr.rf)
    · refine pw_tableIn (q := 0) 48 C dX10_course_6 (by decide +kernel) (by decide +kernel) (by rfl) (by decide) ?_
      
      refine pw_aload_n (q := 49) (j := 0) C dX10_course_48 rfl rfl rfl ?_
      refine pw_getf (q := 52) C dX10_course_49 fX10_19 a0 (by rfl) rfl ?_
      refine pw_getf (q := 55) C dX10_course_52 fX10_104 hG.1 (by rfl) rfl ?_
      refine pw_iload_n (q := 56) (j := 1) C dX10_course_55 rfl rfl rfl ?_
      refine pw_iload_n (q := 57) (j := 2) C dX10_course_56 rfl rfl rfl ?_
      refine pw_rd (q := 60) (cr_v (j := iX8_get) C dX10_course_57 lX10_144 mX8_get (ro_mk (by decide) (by decide)) hG.2.1.1 rfl (g_c hG hr hk (by omega)) rfl rfl (Nat.le_of_ble_eq_true rfl) ⟨by omega, by omega⟩) rfl ?_
      exact pw_iret C dX10_course_60 rfl ⟨by omega, by omega⟩ (QX.ok (by rw [spCourse, if_pos hc, if_pos (inW_i (show 0 ≤ 1 by omega) (show 1 ≤ 6 by omega) (by omega)), idx_n (show k < 2147483648 by omega), idx_n (show 1 < 2147483648 by omega)]; rfl) hX Fr.rf)
    · refine pw_tableIn (q := 0) 48 C dX10_course_6 (by decide +kernel) (by decide +kernel) (by rfl) (by decide) ?_
      
      refine pw_aload_n (q := 49) (j := 0) C dX10_course_48 rfl rfl rfl ?_
      refine pw_getf (q := 52) C dX10_course_49 fX10_19 a0 (by rfl) rfl ?_
      refine pw_getf (q := 55) C dX10_course_52 fX10_104 hG.1 (by rfl) rfl ?_
      refine pw_iload_n (q := 56) (j := 1) C dX10_course_55 rfl rfl rfl ?_
      refine pw_iload_n (q := 57) (j := 2) C dX10_course_56 rfl rfl rfl ?_
      refine pw_rd (q := 60) (cr_v (j := iX8_get) C dX10_course_57 lX10_144 mX8_get (ro_mk (by decide) (by decide)) hG.2.1.1 rfl (g_c hG hr hk (by omega)) rfl rfl (Nat.le_of_ble_eq_true rfl) ⟨by omega, by omega⟩) rfl ?_
      exact pw_iret C dX10_course_60 rfl ⟨by omega, by omega⟩ (QX.ok (by rw [spCourse, if_pos hc, if_pos (inW_i (show 0 ≤ 2 by omega) (show 2 ≤ 6 by omega) (by omega)), idx_n (show k < 2147483648 by omega), idx_n (show 2 < 2147483648 by omega)]; rfl) hX Fr.rf)
    · refine pw_tableIn (q := 0) 61 C dX10_course_6 (by decide +kernel) (by decide +kernel) (by rfl) (by decide) ?_
      refine pw_aload_n (q := 62) (j := 0) C dX10_course_61 rfl rfl rfl ?_
      refine pw_getf (q := 65) C dX10_course_62 fX10_19 a0 (by rfl) rfl ?_
      refine pw_getf (q := 68) C dX10_course_65 fX10_95 hG.1 (by rfl) rfl ?_
      refine pw_iconst_n (q := 69) C 0 dX10_course_68 (by decide +kernel) rfl ?_
      refine pw_iload_n (q := 70) (j := 1) C dX10_course_69 rfl rfl rfl ?_
      refine pw_iconst_n (q := 71) C 3 dX10_course_70 (by decide +kernel) rfl ?_
      refine pw_iconst_n (q := 72) C 3 dX10_course_71 (by decide +kernel) rfl ?_
      refine pw_rd (q := 75) (cr_v (j := iX8_countBoth) C dX10_course_72 lX10_147 mX8_countBoth (ro_mk (by decide) (by decide)) hG.2.2.2.1 rfl (g_cC hG hr hI (by omega) (by omega)) rfl rfl (Nat.le_of_ble_eq_true rfl) ⟨by omega, by omega⟩) rfl ?_
      exact pw_iret C dX10_course_75 rfl ⟨by omega, by omega⟩ (QX.ok (by rw [spCourse, if_pos hc, if_pos (inW_i (show 0 ≤ 3 by omega) (show 3 ≤ 6 by omega) (by omega)), idx_n (show k < 2147483648 by omega), idx_n (show 3 < 2147483648 by omega)]; rfl) hX Fr.rf)
    · refine pw_tableIn (q := 0) 76 C dX10_course_6 (by decide +kernel) (by decide +kernel) (by rfl) (by decide) ?_
      refine pw_aload_n (q := 77) (j := 0) C dX10_course_76 rfl rfl rfl ?_
      refine pw_getf (q := 80) C dX10_course_77 fX10_19 a0 (by rfl) rfl ?_
      refine pw_iload_n (q := 81) (j := 1) C dX10_course_80 rfl rfl rfl ?_
      refine pw_rd (q := 84) (cr_v (j := iX2_lacking) C dX10_course_81 lX10_151 mX2_lacking (ro_mk (by decide) (by decide)) hG.1 rfl (k_lacking hL hI hk) rfl rfl (Nat.le_of_ble_eq_true rfl) ⟨by omega, by omega⟩) rfl ?_
      exact pw_iret C dX10_course_84 rfl ⟨by omega, by omega⟩ (QX.ok (by rw [spCourse, if_pos hc, if_pos (inW_i (show 0 ≤ 4 by omega) (show 4 ≤ 6 by omega) (by omega)), idx_n (show k < 2147483648 by omega), idx_n (show 4 < 2147483648 by omega)]; rfl) hX Fr.rf)
    · refine pw_tableIn (q := 0) 85 C dX10_course_6 (by decide +kernel) (by decide +kernel) (by rfl) (by decide) ?_
      refine pw_aload_n (q := 86) (j := 0) C dX10_course_85 rfl rfl rfl ?_
      refine pw_getf (q := 89) C dX10_course_86 fX10_19 a0 (by rfl) rfl ?_
      refine pw_getf (q := 92) C dX10_course_89 fX10_95 hG.1 (by rfl) rfl ?_
      refine pw_iconst_n (q := 93) C 0 dX10_course_92 (by decide +kernel) rfl ?_
      refine pw_iload_n (q := 94) (j := 1) C dX10_course_93 rfl rfl rfl ?_
      refine pw_iconst_n (q := 95) C 3 dX10_course_94 (by decide +kernel) rfl ?_
      refine pw_iconst_n (q := 96) C 0 dX10_course_95 (by decide +kernel) rfl ?_
      refine pw_rd (q := 99) (cr_v (j := iX8_countBoth) C dX10_course_96 lX10_147 mX8_countBoth (ro_mk (by decide) (by decide)) hG.2.2.2.1 rfl (g_cC hG hr hI (by omega) (by omega)) rfl rfl (Nat.le_of_ble_eq_true rfl) ⟨by omega, by omega⟩) rfl ?_
      exact pw_iret C dX10_course_99 rfl ⟨by omega, by omega⟩ (QX.ok (by rw [spCourse, if_pos hc, if_pos (inW_i (show 0 ≤ 5 by omega) (show 5 ≤ 6 by omega) (by omega)), idx_n (show k < 2147483648 by omega), idx_n (show 5 < 2147483648 by omega)]; rfl) hX Fr.rf)
    · refine pw_tableIn (q := 0) 100 C dX10_course_6 (by decide +kernel) (by decide +kernel) (by rfl) (by decide) ?_
      refine pw_aload_n (q := 101) (j := 0) C dX10_course_100 rfl rfl rfl ?_
      refine pw_getf (q := 104) C dX10_course_101 fX10_19 a0 (by rfl) rfl ?_
      refine pw_getf (q := 107) C dX10_course_104 fX10_95 hG.1 (by rfl) rfl ?_
      refine pw_iconst_n (q := 108) C 0 dX10_course_107 (by decide +kernel) rfl ?_
      refine pw_iload_n (q := 109) (j := 1) C dX10_course_108 rfl rfl rfl ?_
      refine pw_iconst_n (q := 110) C 3 dX10_course_109 (by decide +kernel) rfl ?_
      refine pw_iconst_n (q := 111) C 2 dX10_course_110 (by decide +kernel) rfl ?_
      refine pw_rd (q := 114) (cr_v (j := iX8_countBoth) C dX10_course_111 lX10_147 mX8_countBoth (ro_mk (by decide) (by decide)) hG.2.2.2.1 rfl (g_cC hG hr hI (by omega) (by omega)) rfl rfl (Nat.le_of_ble_eq_true rfl) ⟨by omega, by omega⟩) rfl ?_
      exact pw_iret C dX10_course_114 rfl ⟨by omega, by omega⟩ (QX.ok (by rw [spCourse, if_pos hc, if_pos (inW_i (show 0 ≤ 6 by omega) (show 6 ≤ 6 by omega) (by omega)), idx_n (show k < 2147483648 by omega), idx_n (show 6 < 2147483648 by omega)]; rfl) hX Fr.rf)
    · refine pw_tableOut (q := 0) 115 C dX10_course_6 (out_tab (hi := 6) hw (by omega)) (by decide) ?_
      refine pw_throw (T := []) C twX10_51_154_55 dX10_course_115 dX10_course_118 dX10_course_119 dX10_course_121 dX10_course_124 ⟨by decide, Nat.le_of_ble_eq_true rfl⟩ ⟨by omega, by omega⟩ (fun z hz => QX.no 1 (by rw [spCourse, if_pos hc, if_neg hw]) rfl (hX.up hz) (Fr.up hz))
  · refine pw_aload_n (q := 1) (j := 0) C dX10_course_0 rfl rfl rfl ?_
    refine pw_iload_n (q := 2) (j := 1) C dX10_course_1 rfl rfl rfl ?_
    refine pw_exc (q := 5) (cr_v (j := iX10_requireCourse) C dX10_course_2 lX10_140 mX10_requireCourse (ro_mk (by decide) (by decide)) a0 rfl (q_courseN hX hS hc) rfl rfl (Nat.le_of_ble_eq_true rfl) ⟨by omega, by omega⟩) (fun M2 e2 => ?_)
    exact px_out C ⟨by omega, by omega⟩ (QX.no 0 (by rw [spCourse, if_neg hc]) rfl (hX.up2 e2) (Fr.up2 e2))
set_option maxHeartbeats 200000 in
set_option maxRecDepth 100000 in
theorem p_mason {M : PH} {x D : Nat} {S : St} (hX : RepX M x S) (hS : SInv D S) (c w : Int32) : Run iX10_mason [.ref x, .int c, .int w] M 2 12 (QX M x (EX xB xA xA) (spMason S c w)) := by
  obtain ⟨a0, ax, aT, hL, ⟨aQ, aq⟩, ⟨nx, aR⟩, aS, aL, aW, aF⟩ := id hX
  obtain ⟨fc, fm, fs, hG, hr⟩ := id hL
  have hI := hS.1.1
  have hb := hI.b
  refine Run.of (l0 := [some (.ref x), some (.int c), some (.int w)]) (by decide +kernel) (Nat.le_of_ble_eq_true rfl) (by rfl) (fun Γ G C => ?_)
  by_cases hc : inI c (sP S 6)
  · obtain ⟨k, hk, rfl⟩ := inI_n hc (by omega)
    refine pw_aload_n (q := 1) (j := 0) C dX10_mason_0 rfl rfl rfl ?_
    refine pw_iload_n (q := 2) (j := 1) C dX10_mason_1 rfl rfl rfl ?_
    refine pw_void (q := 5) (cr_v (j := iX10_requireMason) C dX10_mason_2 lX10_156 mX10_requireMason (ro_mk (by decide) (by decide)) a0 rfl (q_mason hX hS hk) rfl rfl (Nat.le_of_ble_eq_true rfl) ⟨by omega, by omega⟩) rfl (fun M2 e2 => ?_)
    subst e2
    refine pw_iload_n (q := 6) (j := 2) C dX10_mason_5 rfl rfl rfl ?_
    rcases tab5 w with (rfl | rfl | rfl | rfl | rfl | rfl) | hw
    · refine pw_tableIn (q := 0) 44 C dX10_mason_6 (by decide +kernel) (by decide +kernel) (by rfl) (by decide) ?_
      
      refine pw_aload_n (q := 45) (j := 0) C dX10_mason_44 rfl rfl rfl ?_
      refine pw_getf (q := 48) C dX10_mason_45 fX10_19 a0 (by rfl) rfl ?_
      refine pw_getf (q := 51) C dX10_mason_48 fX10_107 hG.1 (by rfl) rfl ?_
      refine pw_iload_n (q := 52) (j := 1) C dX10_mason_51 rfl rfl rfl ?_
      refine pw_iload_n (q := 53) (j := 2) C dX10_mason_52 rfl rfl rfl ?_
      refine pw_rd (q := 56) (cr_v (j := iX8_get) C dX10_mason_53 lX10_144 mX8_get (ro_mk (by decide) (by decide)) hG.2.2.1.1 rfl (g_m hG hr hk (by omega)) rfl rfl (Nat.le_of_ble_eq_true rfl) ⟨by omega, by omega⟩) rfl ?_
      exact pw_iret C dX10_mason_56 rfl ⟨by omega, by omega⟩ (QX.ok (by rw [spMason, if_pos hc, if_pos (inW_i (show 0 ≤ 0 by omega) (show 0 ≤ 5 by omega) (by omega)), idx_n (show k < 2147483648 by omega), idx_n (show 0 < 2147483648 by omega)]; rfl) hX Fr.rf)
    · refine pw_tableIn (q := 0) 44 C dX10_mason_6 (by decide +kernel) (by decide +kernel) (by rfl) (by decide) ?_
      
      refine pw_aload_n (q := 45) (j := 0) C dX10_mason_44 rfl rfl rfl ?_
      refine pw_getf (q := 48) C dX10_mason_45 fX10_19 a0 (by rfl) rfl ?_
      refine pw_getf (q := 51) C dX10_mason_48 fX10_107 hG.1 (by rfl) rfl ?_
      refine pw_iload_n (q := 52) (j := 1) C dX10_mason_51 rfl rfl rfl ?_
      refine pw_iload_n (q := 53) (j := 2) C dX10_mason_52 rfl rfl rfl ?_
      refine pw_rd (q := 56) (cr_v (j := iX8_get) C dX10_mason_53 lX10_144 mX8_get (ro_mk (by decide) (by decide)) hG.2.2.1.1 rfl (g_m hG hr hk (by omega)) rfl rfl (Nat.le_of_ble_eq_true rfl) ⟨by omega, by omega⟩) rfl ?_
      exact pw_iret C dX10_mason_56 rfl ⟨by omega, by omega⟩ (QX.ok (by rw [spMason, if_pos hc, if_pos (inW_i (show 0 ≤ 1 by omega) (show 1 ≤ 5 by omega) (by omega)), idx_n (show k < 2147483648 by omega), idx_n (show 1 < 2147483648 by omega)]; rfl) hX Fr.rf)
    · refine pw_tableIn (q := 0) 44 C dX10_mason_6 (by decide +kernel) (by decide +kernel) (by rfl) (by decide) ?_
      
      refine pw_aload_n (q := 45) (j := 0) C dX10_mason_44 rfl rfl rfl ?_
      refine pw_getf (q := 48) C dX10_mason_45 fX10_19 a0 (by rfl) rfl ?_
      refine pw_getf (q := 51) C dX10_mason_48 fX10_107 hG.1 (by rfl) rfl ?_
      refine pw_iload_n (q := 52) (j := 1) C dX10_mason_51 rfl rfl rfl ?_
      refine pw_iload_n (q := 53) (j := 2) C dX10_mason_52 rfl rfl rfl ?_
      refine pw_rd (q := 56) (cr_v (j := iX8_get) C dX10_mason_53 lX10_144 mX8_get (ro_mk (by decide) (by decide)) hG.2.2.1.1 rfl (g_m hG hr hk (by omega)) rfl rfl (Nat.le_of_ble_eq_true rfl) ⟨by omega, by omega⟩) rfl ?_
      exact pw_iret C dX10_mason_56 rfl ⟨by omega, by omega⟩ (QX.ok (by rw [spMason, if_pos hc, if_pos (inW_i (show 0 ≤ 2 by omega) (show 2 ≤ 5 by omega) (by omega)), idx_n (show k < 2147483648 by omega), idx_n (show 2 < 2147483648 by omega)]; rfl) hX Fr.rf)
    · refine pw_tableIn (q := 0) 44 C dX10_mason_6 (by decide +kernel) (by decide +kernel) (by rfl) (by decide) ?_
      
      refine pw_aload_n (q := 45) (j := 0) C dX10_mason_44 rfl rfl rfl ?_
      refine pw_getf (q := 48) C dX10_mason_45 fX10_19 a0 (by rfl) rfl ?_
      refine pw_getf (q := 51) C dX10_mason_48 fX10_107 hG.1 (by rfl) rfl ?_
      refine pw_iload_n (q := 52) (j := 1) C dX10_mason_51 rfl rfl rfl ?_
      refine pw_iload_n (q := 53) (j := 2) C dX10_mason_52 rfl rfl rfl ?_
      refine pw_rd (q := 56) (cr_v (j := iX8_get) C dX10_mason_53 lX10_144 mX8_get (ro_mk (by decide) (by decide)) hG.2.2.1.1 rfl (g_m hG hr hk (by omega)) rfl rfl (Nat.le_of_ble_eq_true rfl) ⟨by omega, by omega⟩) rfl ?_
      exact pw_iret C dX10_mason_56 rfl ⟨by omega, by omega⟩ (QX.ok (by rw [spMason, if_pos hc, if_pos (inW_i (show 0 ≤ 3 by omega) (show 3 ≤ 5 by omega) (by omega)), idx_n (show k < 2147483648 by omega), idx_n (show 3 < 2147483648 by omega)]; rfl) hX Fr.rf)
    · refine pw_tableIn (q := 0) 57 C dX10_mason_6 (by decide +kernel) (by decide +kernel) (by rfl) (by decide) ?_
      refine pw_aload_n (q := 58) (j := 0) C dX10_mason_57 rfl rfl rfl ?_
      refine pw_getf (q := 61) C dX10_mason_58 fX10_19 a0 (by rfl) rfl ?_
      refine pw_getf (q := 64) C dX10_mason_61 fX10_95 hG.1 (by rfl) rfl ?_
      refine pw_iconst_n (q := 65) C 1 dX10_mason_64 (by decide +kernel) rfl ?_
      refine pw_iload_n (q := 66) (j := 1) C dX10_mason_65 rfl rfl rfl ?_
      refine pw_iconst_n (q := 67) C 3 dX10_mason_66 (by decide +kernel) rfl ?_
      refine pw_iconst_n (q := 68) C 3 dX10_mason_67 (by decide +kernel) rfl ?_
      refine pw_rd (q := 71) (cr_v (j := iX8_countBoth) C dX10_mason_68 lX10_147 mX8_countBoth (ro_mk (by decide) (by decide)) hG.2.2.2.1 rfl (g_cM hG hr hI (by omega) (by omega)) rfl rfl (Nat.le_of_ble_eq_true rfl) ⟨by omega, by omega⟩) rfl ?_
      exact pw_iret C dX10_mason_71 rfl ⟨by omega, by omega⟩ (QX.ok (by rw [spMason, if_pos hc, if_pos (inW_i (show 0 ≤ 4 by omega) (show 4 ≤ 5 by omega) (by omega)), idx_n (show k < 2147483648 by omega), idx_n (show 4 < 2147483648 by omega)]; rfl) hX Fr.rf)
    · refine pw_tableIn (q := 0) 72 C dX10_mason_6 (by decide +kernel) (by decide +kernel) (by rfl) (by decide) ?_
      refine pw_aload_n (q := 73) (j := 0) C dX10_mason_72 rfl rfl rfl ?_
      refine pw_getf (q := 76) C dX10_mason_73 fX10_19 a0 (by rfl) rfl ?_
      refine pw_iload_n (q := 77) (j := 1) C dX10_mason_76 rfl rfl rfl ?_
      refine pw_rd (q := 80) (cr_v (j := iX2_badMarks) C dX10_mason_77 lX10_159 mX2_badMarks (ro_mk (by decide) (by decide)) hG.1 rfl (k_badMarks hL hI hk) rfl rfl (Nat.le_of_ble_eq_true rfl) ⟨by omega, by omega⟩) rfl ?_
      exact pw_iret C dX10_mason_80 rfl ⟨by omega, by omega⟩ (QX.ok (by rw [spMason, if_pos hc, if_pos (inW_i (show 0 ≤ 5 by omega) (show 5 ≤ 5 by omega) (by omega)), idx_n (show k < 2147483648 by omega), idx_n (show 5 < 2147483648 by omega)]; rfl) hX Fr.rf)
    · refine pw_tableOut (q := 0) 81 C dX10_mason_6 (out_tab (hi := 5) hw (by omega)) (by decide) ?_
      refine pw_throw (T := []) C twX10_51_162_55 dX10_mason_81 dX10_mason_84 dX10_mason_85 dX10_mason_87 dX10_mason_90 ⟨by decide, Nat.le_of_ble_eq_true rfl⟩ ⟨by omega, by omega⟩ (fun z hz => QX.no 1 (by rw [spMason, if_pos hc, if_neg hw]) rfl (hX.up hz) (Fr.up hz))
  · refine pw_aload_n (q := 1) (j := 0) C dX10_mason_0 rfl rfl rfl ?_
    refine pw_iload_n (q := 2) (j := 1) C dX10_mason_1 rfl rfl rfl ?_
    refine pw_exc (q := 5) (cr_v (j := iX10_requireMason) C dX10_mason_2 lX10_156 mX10_requireMason (ro_mk (by decide) (by decide)) a0 rfl (q_masonN hX hS hc) rfl rfl (Nat.le_of_ble_eq_true rfl) ⟨by omega, by omega⟩) (fun M2 e2 => ?_)
    exact px_out C ⟨by omega, by omega⟩ (QX.no 0 (by rw [spMason, if_neg hc]) rfl (hX.up2 e2) (Fr.up2 e2))
set_option maxHeartbeats 200000 in
set_option maxRecDepth 100000 in
theorem p_about {M : PH} {x D : Nat} {S : St} (hX : RepX M x S) (hS : SInv D S) (w : Int32) : Run iX10_about [.ref x, .int w] M 2 12 (QX M x (EX xA xA xA) (spAbout S w)) := by
  obtain ⟨a0, ax, aT, hL, ⟨aQ, aq⟩, ⟨nx, aR⟩, aS, aL, aW, aF⟩ := id hX
  obtain ⟨fc, fm, fs, hG, hr⟩ := id hL
  have hI := hS.1.1
  have hb := hI.b
  refine Run.of (l0 := [some (.ref x), some (.int w)]) (by decide +kernel) (Nat.le_of_ble_eq_true rfl) (by rfl) (fun Γ G C => ?_)
  refine pw_iload_n (q := 1) (j := 1) C dX10_about_0 rfl rfl rfl ?_
  rcases tab11 w with (rfl | rfl | rfl | rfl | rfl | rfl | rfl | rfl | rfl | rfl | rfl | rfl) | hw
  · refine pw_tableIn (q := 0) 64 C dX10_about_1 (by decide +kernel) (by decide +kernel) (by rfl) (by decide) ?_
    refine pw_aload_n (q := 65) (j := 0) C dX10_about_64 rfl rfl rfl ?_
    refine pw_getf (q := 68) C dX10_about_65 fX10_19 a0 (by rfl) rfl ?_
    refine pw_getf (q := 71) C dX10_about_68 fX10_104 hG.1 (by rfl) rfl ?_
    refine pw_rd (q := 74) (cr_v (j := iX8_size) C dX10_about_71 lX10_99 mX8_size (ro_mk (by decide) (by decide)) hG.2.1.1 rfl (k_size hG.2.1) rfl rfl (Nat.le_of_ble_eq_true rfl) ⟨by omega, by omega⟩) rfl ?_
    exact pw_iret C dX10_about_74 rfl ⟨by omega, by omega⟩ (QX.ok (by rw [spAbout, if_pos (inW_i (show 0 ≤ 0 by omega) (show 0 ≤ 11 by omega) (by omega)), idx_n (show 0 < 2147483648 by omega)]; rfl) hX Fr.rf)
  · refine pw_tableIn (q := 0) 75 C dX10_about_1 (by decide +kernel) (by decide +kernel) (by rfl) (by decide) ?_
    refine pw_aload_n (q := 76) (j := 0) C dX10_about_75 rfl rfl rfl ?_
    refine pw_getf (q := 79) C dX10_about_76 fX10_19 a0 (by rfl) rfl ?_
    refine pw_getf (q := 82) C dX10_about_79 fX10_107 hG.1 (by rfl) rfl ?_
    refine pw_rd (q := 85) (cr_v (j := iX8_size) C dX10_about_82 lX10_99 mX8_size (ro_mk (by decide) (by decide)) hG.2.2.1.1 rfl (k_size hG.2.2.1) rfl rfl (Nat.le_of_ble_eq_true rfl) ⟨by omega, by omega⟩) rfl ?_
    exact pw_iret C dX10_about_85 rfl ⟨by omega, by omega⟩ (QX.ok (by rw [spAbout, if_pos (inW_i (show 0 ≤ 1 by omega) (show 1 ≤ 11 by omega) (by omega)), idx_n (show 1 < 2147483648 by omega)]; rfl) hX Fr.rf)
  · refine pw_tableIn (q := 0) 86 C dX10_about_1 (by decide +kernel) (by decide +kernel) (by rfl) (by decide) ?_
    refine pw_aload_n (q := 87) (j := 0) C dX10_about_86 rfl rfl rfl ?_
    refine pw_getf (q := 90) C dX10_about_87 fX10_19 a0 (by rfl) rfl ?_
    refine pw_getf (q := 93) C dX10_about_90 fX10_95 hG.1 (by rfl) rfl ?_
    refine pw_rd (q := 96) (cr_v (j := iX8_size) C dX10_about_93 lX10_99 mX8_size (ro_mk (by decide) (by decide)) hG.2.2.2.1 rfl (k_size hG.2.2.2) rfl rfl (Nat.le_of_ble_eq_true rfl) ⟨by omega, by omega⟩) rfl ?_
    exact pw_iret C dX10_about_96 rfl ⟨by omega, by omega⟩ (QX.ok (by rw [spAbout, if_pos (inW_i (show 0 ≤ 2 by omega) (show 2 ≤ 11 by omega) (by omega)), idx_n (show 2 < 2147483648 by omega)]; rfl) hX Fr.rf)
  · refine pw_tableIn (q := 0) 97 C dX10_about_1 (by decide +kernel) (by decide +kernel) (by rfl) (by decide) ?_
    refine pw_aload_n (q := 98) (j := 0) C dX10_about_97 rfl rfl rfl ?_
    refine pw_getf (q := 101) C dX10_about_98 fX10_19 a0 (by rfl) rfl ?_
    refine pw_getf (q := 104) C dX10_about_101 fX10_110 hG.1 (by rfl) rfl ?_
    exact pw_iret C dX10_about_104 rfl ⟨by omega, by omega⟩ (QX.ok (by rw [spAbout, if_pos (inW_i (show 0 ≤ 3 by omega) (show 3 ≤ 11 by omega) (by omega)), idx_n (show 3 < 2147483648 by omega)]; rfl) hX Fr.rf)
  · refine pw_tableIn (q := 0) 105 C dX10_about_1 (by decide +kernel) (by decide +kernel) (by rfl) (by decide) ?_
    refine pw_aload_n (q := 106) (j := 0) C dX10_about_105 rfl rfl rfl ?_
    refine pw_getf (q := 109) C dX10_about_106 fX10_19 a0 (by rfl) rfl ?_
    refine pw_getf (q := 112) C dX10_about_109 fX10_114 hG.1 (by rfl) rfl ?_
    refine pw_if_eq_n (q := 115) 119 C dX10_about_112 (by decide) rfl (by omega) (fun g112 => ?_) (fun g112 => ?_)
    · refine pw_iconst_n (q := 120) C 0 dX10_about_119 (by decide +kernel) rfl ?_
      exact pw_iret C dX10_about_120 rfl ⟨by omega, by omega⟩ (QX.ok (by rw [spAbout, if_pos (inW_i (show 0 ≤ 4 by omega) (show 4 ≤ 11 by omega) (by omega)), idx_n (show 4 < 2147483648 by omega), aboutV, show sP S 2 = 0 by omega]) hX Fr.rf)
    · refine pw_iconst_n (q := 116) C 1 dX10_about_115 (by decide +kernel) rfl ?_
      refine pw_goto (q := 0) 120 C dX10_about_116 (by decide) ?_
      exact pw_iret C dX10_about_120 rfl ⟨by omega, by omega⟩ (QX.ok (by rw [spAbout, if_pos (inW_i (show 0 ≤ 4 by omega) (show 4 ≤ 11 by omega) (by omega)), idx_n (show 4 < 2147483648 by omega), aboutV, show sP S 2 = 1 by omega]) hX Fr.rf)
  · refine pw_tableIn (q := 0) 121 C dX10_about_1 (by decide +kernel) (by decide +kernel) (by rfl) (by decide) ?_
    refine pw_aload_n (q := 122) (j := 0) C dX10_about_121 rfl rfl rfl ?_
    refine pw_getf (q := 125) C dX10_about_122 fX10_19 a0 (by rfl) rfl ?_
    refine pw_getf (q := 128) C dX10_about_125 fX10_118 hG.1 (by rfl) rfl ?_
    exact pw_iret C dX10_about_128 rfl ⟨by omega, by omega⟩ (QX.ok (by rw [spAbout, if_pos (inW_i (show 0 ≤ 5 by omega) (show 5 ≤ 11 by omega) (by omega)), idx_n (show 5 < 2147483648 by omega)]; rfl) hX Fr.rf)
  · refine pw_tableIn (q := 0) 129 C dX10_about_1 (by decide +kernel) (by decide +kernel) (by rfl) (by decide) ?_
    refine pw_aload_n (q := 130) (j := 0) C dX10_about_129 rfl rfl rfl ?_
    refine pw_getf (q := 133) C dX10_about_130 fX10_19 a0 (by rfl) rfl ?_
    refine pw_rd (q := 136) (cr_v (j := iX2_completeCourses) C dX10_about_133 lX10_121 mX2_completeCourses (ro_mk (by decide) (by decide)) hG.1 rfl (k_complete hL hI) rfl rfl (Nat.le_of_ble_eq_true rfl) ⟨by omega, by omega⟩) rfl ?_
    exact pw_iret C dX10_about_136 rfl ⟨by omega, by omega⟩ (QX.ok (by rw [spAbout, if_pos (inW_i (show 0 ≤ 6 by omega) (show 6 ≤ 11 by omega) (by omega)), idx_n (show 6 < 2147483648 by omega)]; rfl) hX Fr.rf)
  · refine pw_tableIn (q := 0) 137 C dX10_about_1 (by decide +kernel) (by decide +kernel) (by rfl) (by decide) ?_
    refine pw_aload_n (q := 138) (j := 0) C dX10_about_137 rfl rfl rfl ?_
    refine pw_getf (q := 141) C dX10_about_138 fX10_19 a0 (by rfl) rfl ?_
    refine pw_getf (q := 144) C dX10_about_141 fX10_95 hG.1 (by rfl) rfl ?_
    refine pw_iconst_n (q := 145) C 3 dX10_about_144 (by decide +kernel) rfl ?_
    refine pw_iconst_n (q := 146) C 3 dX10_about_145 (by decide +kernel) rfl ?_
    refine pw_rd (q := 149) (cr_v (j := iX8_count) C dX10_about_146 lX10_124 mX8_count (ro_mk (by decide) (by decide)) hG.2.2.2.1 rfl (g_cS hG hr hI (by omega)) rfl rfl (Nat.le_of_ble_eq_true rfl) ⟨by omega, by omega⟩) rfl ?_
    exact pw_iret C dX10_about_149 rfl ⟨by omega, by omega⟩ (QX.ok (by rw [spAbout, if_pos (inW_i (show 0 ≤ 7 by omega) (show 7 ≤ 11 by omega) (by omega)), idx_n (show 7 < 2147483648 by omega)]; rfl) hX Fr.rf)
  · refine pw_tableIn (q := 0) 150 C dX10_about_1 (by decide +kernel) (by decide +kernel) (by rfl) (by decide) ?_
    refine pw_aload_n (q := 151) (j := 0) C dX10_about_150 rfl rfl rfl ?_
    refine pw_getf (q := 154) C dX10_about_151 fX10_19 a0 (by rfl) rfl ?_
    refine pw_getf (q := 157) C dX10_about_154 fX10_95 hG.1 (by rfl) rfl ?_
    refine pw_iconst_n (q := 158) C 3 dX10_about_157 (by decide +kernel) rfl ?_
    refine pw_iconst_n (q := 159) C 4 dX10_about_158 (by decide +kernel) rfl ?_
    refine pw_rd (q := 162) (cr_v (j := iX8_count) C dX10_about_159 lX10_124 mX8_count (ro_mk (by decide) (by decide)) hG.2.2.2.1 rfl (g_cS hG hr hI (by omega)) rfl rfl (Nat.le_of_ble_eq_true rfl) ⟨by omega, by omega⟩) rfl ?_
    exact pw_iret C dX10_about_162 rfl ⟨by omega, by omega⟩ (QX.ok (by rw [spAbout, if_pos (inW_i (show 0 ≤ 8 by omega) (show 8 ≤ 11 by omega) (by omega)), idx_n (show 8 < 2147483648 by omega)]; rfl) hX Fr.rf)
  · refine pw_tableIn (q := 0) 163 C dX10_about_1 (by decide +kernel) (by decide +kernel) (by rfl) (by decide) ?_
    refine pw_aload_n (q := 164) (j := 0) C dX10_about_163 rfl rfl rfl ?_
    refine pw_getf (q := 167) C dX10_about_164 fX10_19 a0 (by rfl) rfl ?_
    refine pw_getf (q := 170) C dX10_about_167 fX10_107 hG.1 (by rfl) rfl ?_
    refine pw_iconst_n (q := 171) C 3 dX10_about_170 (by decide +kernel) rfl ?_
    refine pw_rd (q := 174) (cr_v (j := iX8_sum) C dX10_about_171 lX10_128 mX8_sum (ro_mk (by decide) (by decide)) hG.2.2.1.1 rfl (g_owed hG hr) rfl rfl (Nat.le_of_ble_eq_true rfl) ⟨by omega, by omega⟩) rfl ?_
    exact pw_iret C dX10_about_174 rfl ⟨by omega, by omega⟩ (QX.ok (by rw [spAbout, if_pos (inW_i (show 0 ≤ 9 by omega) (show 9 ≤ 11 by omega) (by omega)), idx_n (show 9 < 2147483648 by omega)]; rfl) hX Fr.rf)
  · refine pw_tableIn (q := 0) 175 C dX10_about_1 (by decide +kernel) (by decide +kernel) (by rfl) (by decide) ?_
    refine pw_aload_n (q := 176) (j := 0) C dX10_about_175 rfl rfl rfl ?_
    refine pw_getf (q := 179) C dX10_about_176 fX10_19 a0 (by rfl) rfl ?_
    refine pw_getf (q := 182) C dX10_about_179 fX10_132 hG.1 (by rfl) rfl ?_
    exact pw_iret C dX10_about_182 rfl ⟨by omega, by omega⟩ (QX.ok (by rw [spAbout, if_pos (inW_i (show 0 ≤ 10 by omega) (show 10 ≤ 11 by omega) (by omega)), idx_n (show 10 < 2147483648 by omega)]; rfl) hX Fr.rf)
  · refine pw_tableIn (q := 0) 183 C dX10_about_1 (by decide +kernel) (by decide +kernel) (by rfl) (by decide) ?_
    refine pw_aload_n (q := 184) (j := 0) C dX10_about_183 rfl rfl rfl ?_
    refine pw_getf (q := 187) C dX10_about_184 fX10_19 a0 (by rfl) rfl ?_
    refine pw_getf (q := 190) C dX10_about_187 fX10_135 hG.1 (by rfl) rfl ?_
    exact pw_iret C dX10_about_190 rfl ⟨by omega, by omega⟩ (QX.ok (by rw [spAbout, if_pos (inW_i (show 0 ≤ 11 by omega) (show 11 ≤ 11 by omega) (by omega)), idx_n (show 11 < 2147483648 by omega)]; rfl) hX Fr.rf)
  · refine pw_tableOut (q := 0) 191 C dX10_about_1 (out_tab (hi := 11) hw (by omega)) (by decide) ?_
    refine pw_throw (T := []) C twX10_51_138_55 dX10_about_191 dX10_about_194 dX10_about_195 dX10_about_197 dX10_about_200 ⟨by decide, Nat.le_of_ble_eq_true rfl⟩ ⟨by omega, by omega⟩ (fun z hz => QX.no 0 (by rw [spAbout, if_neg hw]) rfl (hX.up hz) (Fr.up hz))
set_option maxHeartbeats 200000 in
set_option maxRecDepth 100000 in
theorem p_costLeft {M : PH} {x D : Nat} {S : St} (hX : RepX M x S) (hS : SInv D S) : Run iX10_costLeft [.ref x] M 2 12 (QX M x (EX xA xA xA) ((0, cost (sP S), S))) := by
  obtain ⟨a0, ax, aT, hL, ⟨aQ, aq⟩, ⟨nx, aR⟩, aS, aL, aW, aF⟩ := id hX
  obtain ⟨fc, fm, fs, hG, hr⟩ := id hL
  have hI := hS.1.1
  have hb := hI.b
  refine Run.of (l0 := [some (.ref x)]) (by decide +kernel) (Nat.le_of_ble_eq_true rfl) (by rfl) (fun Γ G C => ?_)
  refine pw_aload_n (q := 1) (j := 0) C dX10_costLeft_0 rfl rfl rfl ?_
  refine pw_getf (q := 4) C dX10_costLeft_1 fX10_19 a0 (by rfl) rfl ?_
  refine pw_rd (q := 7) (cr_v (j := iX2_costOfLacking) C dX10_costLeft_4 lX10_264 mX2_costOfLacking (ro_mk (by decide) (by decide)) hG.1 rfl (k_cost hL hI) rfl rfl (Nat.le_of_ble_eq_true rfl) ⟨by omega, by omega⟩) rfl ?_
  exact pw_iret C dX10_costLeft_7 rfl ⟨by omega, by omega⟩ (QX.ok (by rfl) hX Fr.rf)
set_option maxHeartbeats 200000 in
set_option maxRecDepth 100000 in
theorem p_canSet {M : PH} {x D : Nat} {S : St} (hX : RepX M x S) (hS : SInv D S) : Run iX10_canSet [.ref x] M 2 12 (QX M x (EX xA xA xA) ((0, nI (canSetN (sP S)), S))) := by
  obtain ⟨a0, ax, aT, hL, ⟨aQ, aq⟩, ⟨nx, aR⟩, aS, aL, aW, aF⟩ := id hX
  obtain ⟨fc, fm, fs, hG, hr⟩ := id hL
  have hI := hS.1.1
  have hb := hI.b
  refine Run.of (l0 := [some (.ref x)]) (by decide +kernel) (Nat.le_of_ble_eq_true rfl) (by rfl) (fun Γ G C => ?_)
  refine pw_aload_n (q := 1) (j := 0) C dX10_canSet_0 rfl rfl rfl ?_
  refine pw_getf (q := 4) C dX10_canSet_1 fX10_19 a0 (by rfl) rfl ?_
  refine pw_rd (q := 7) (cr_v (j := iX2_settable) C dX10_canSet_4 lX10_270 mX2_settable (ro_mk (by decide) (by decide)) hG.1 rfl (k_settable hL hI) rfl rfl (Nat.le_of_ble_eq_true rfl) ⟨by omega, by omega⟩) rfl ?_
  exact pw_iret C dX10_canSet_7 rfl ⟨by omega, by omega⟩ (QX.ok (by rfl) hX Fr.rf)
set_option maxHeartbeats 200000 in
set_option maxRecDepth 100000 in
theorem p_wouldEarn {M : PH} {x D : Nat} {S : St} (hX : RepX M x S) (hS : SInv D S) (b : Int32) : Run iX10_wouldEarn [.ref x, .int b] M 2 12 (QX M x (EX xA xA xA) (spEarn S b)) := by
  obtain ⟨a0, ax, aT, hL, ⟨aQ, aq⟩, ⟨nx, aR⟩, aS, aL, aW, aF⟩ := id hX
  obtain ⟨fc, fm, fs, hG, hr⟩ := id hL
  have hI := hS.1.1
  have hb := hI.b
  refine Run.of (l0 := [some (.ref x), some (.int b)]) (by decide +kernel) (Nat.le_of_ble_eq_true rfl) (by rfl) (fun Γ G C => ?_)
  by_cases hw : inW b 0 9
  · refine pw_iload_n (q := 1) (j := 1) C dX10_wouldEarn_0 rfl rfl rfl ?_
    refine pw_void (q := 4) (cr_s (j := iX10_requireBound) C dX10_wouldEarn_1 lX10_198 mX10_requireBound (ro_mk (by decide) (by decide))  (q_Bound hw) rfl rfl (Nat.le_of_ble_eq_true rfl) ⟨by omega, by omega⟩) rfl (fun M1 e1 => ?_)
    subst e1
    obtain ⟨k, _, hk, rfl⟩ := inW_n hw (by omega) (by omega)
    refine pw_aload_n (q := 5) (j := 0) C dX10_wouldEarn_4 rfl rfl rfl ?_
    refine pw_getf (q := 8) C dX10_wouldEarn_5 fX10_19 a0 (by rfl) rfl ?_
    refine pw_iload_n (q := 9) (j := 1) C dX10_wouldEarn_8 rfl rfl rfl ?_
    refine pw_rd (q := 12) (cr_v (j := iX2_earnings) C dX10_wouldEarn_9 lX10_273 mX2_earnings (ro_mk (by decide) (by decide)) hG.1 rfl (k_earnings hL hI (by omega)) rfl rfl (Nat.le_of_ble_eq_true rfl) ⟨by omega, by omega⟩) rfl ?_
    exact pw_iret C dX10_wouldEarn_12 rfl ⟨by omega, by omega⟩ (QX.ok (by rw [spEarn, if_pos hw, idx_n (show k < 2147483648 by omega)]) hX Fr.rf)
  · refine pw_iload_n (q := 1) (j := 1) C dX10_wouldEarn_0 rfl rfl rfl ?_
    refine pw_exc (q := 4) (cr_s (j := iX10_requireBound) C dX10_wouldEarn_1 lX10_198 mX10_requireBound (ro_mk (by decide) (by decide))  (q_BoundN hw) rfl rfl (Nat.le_of_ble_eq_true rfl) ⟨by omega, by omega⟩) (fun M1 e1 => ?_)
    exact px_out C ⟨by omega, by omega⟩ (QX.no 0 (by rw [spEarn, if_neg hw]) rfl (hX.up2 e1) (Fr.up2 e1))
