/-! The class Lodge: what changes it. -/
set_option maxHeartbeats 200000 in
set_option maxRecDepth 100000 in
theorem w_scrap {M : PH} {a : Nat} {P : Nat → Nat} (hL : LodgeAt M a P) (hI : Inv P) {s : Nat} (hs : s < P 7) (hI9 : Inv (stateP P s 4)) : Run iX2_scrapStone [.ref a, .int (nI s)] M 0 0 (RV (.int (nI (cntS (stateP P s 4) 4))) (fun M1 => LodgeAt M1 a (stateP P s 4) ∧ Same M M1 a (a + 7))) := by
  obtain ⟨fc, fm, fs, hG, hr⟩ := id hL
  have hb := hI.b
  have sm : Same M M a (a + 7) := Same.rf
  refine Run.of (l0 := [some (.ref a), some (.int (nI s))]) (by decide +kernel) (Nat.le_of_ble_eq_true rfl) (by rfl) (fun Γ G C => ?_)
  refine pw_aload_n (q := 1) (j := 0) C dX2_scrapStone_0 rfl rfl rfl ?_
  refine pw_getf (q := 4) C dX2_scrapStone_1 fX2_23 hG.1 (by rfl) rfl ?_
  refine pw_iload_n (q := 5) (j := 1) C dX2_scrapStone_4 rfl rfl rfl ?_
  refine pw_iconst_n (q := 6) C 3 dX2_scrapStone_5 (by decide +kernel) rfl ?_
  refine pw_iconst_n (q := 7) C 4 dX2_scrapStone_6 (by decide +kernel) rfl ?_
  refine pw_void (q := 10) (cr_v (j := iX8_put) C dX2_scrapStone_7 lX2_73 mX8_put (ro_mk (by decide) (by decide)) hG.2.2.2.1 rfl (p_s hL (4) (by first | assumption | omega) (by omega)) rfl rfl (Nat.le_of_ble_eq_true rfl) ⟨by omega, by omega⟩) rfl (fun M7 e7 => ?_)
  obtain ⟨hL, sm9⟩ := e7
  have sm := sm.tr sm9
  obtain ⟨fc, fm, fs, hG, hr⟩ := id hL
  refine pw_aload_n (q := 11) (j := 0) C dX2_scrapStone_10 rfl rfl rfl ?_
  refine pw_getf (q := 14) C dX2_scrapStone_11 fX2_23 hG.1 (by rfl) rfl ?_
  refine pw_iconst_n (q := 15) C 3 dX2_scrapStone_14 (by decide +kernel) rfl ?_
  refine pw_iconst_n (q := 16) C 4 dX2_scrapStone_15 (by decide +kernel) rfl ?_
  refine pw_rd (q := 19) (cr_v (j := iX8_count) C dX2_scrapStone_16 lX2_106 mX8_count (ro_mk (by decide) (by decide)) hG.2.2.2.1 rfl (g_cS hG hr hI9 (by omega)) rfl rfl (Nat.le_of_ble_eq_true rfl) ⟨by omega, by omega⟩) rfl ?_
  exact pw_iret C dX2_scrapStone_19 rfl ⟨by omega, by omega⟩ (RV.mk (by rfl) ⟨hL, sm⟩)
set_option maxHeartbeats 200000 in
set_option maxRecDepth 100000 in
theorem w_set {M : PH} {a : Nat} {P : Nat → Nat} (hL : LodgeAt M a P) (hI : Inv P) {s : Nat} (hs : s < P 7) (hI9 : Inv (stateP P s 3)) : Run iX2_setStone [.ref a, .int (nI s)] M 0 0 (RV (.int (nI (cntC (stateP P s 3) (P (50 + 6 * s)) 3))) (fun M1 => LodgeAt M1 a (stateP P s 3) ∧ Same M M1 a (a + 7))) := by
  obtain ⟨fc, fm, fs, hG, hr⟩ := id hL
  have hb := hI.b
  have sm : Same M M a (a + 7) := Same.rf
  have hs9 := hI.s hs
  refine Run.of (l0 := [some (.ref a), some (.int (nI s))]) (by decide +kernel) (Nat.le_of_ble_eq_true rfl) (by rfl) (fun Γ G C => ?_)
  refine pw_aload_n (q := 1) (j := 0) C dX2_setStone_0 rfl rfl rfl ?_
  refine pw_getf (q := 4) C dX2_setStone_1 fX2_23 hG.1 (by rfl) rfl ?_
  refine pw_iload_n (q := 5) (j := 1) C dX2_setStone_4 rfl rfl rfl ?_
  refine pw_iconst_n (q := 6) C 3 dX2_setStone_5 (by decide +kernel) rfl ?_
  refine pw_iconst_n (q := 7) C 3 dX2_setStone_6 (by decide +kernel) rfl ?_
  refine pw_void (q := 10) (cr_v (j := iX8_put) C dX2_setStone_7 lX2_73 mX8_put (ro_mk (by decide) (by decide)) hG.2.2.2.1 rfl (p_s hL (3) (by first | assumption | omega) (by omega)) rfl rfl (Nat.le_of_ble_eq_true rfl) ⟨by omega, by omega⟩) rfl (fun M7 e7 => ?_)
  obtain ⟨hL, sm9⟩ := e7
  have sm := sm.tr sm9
  obtain ⟨fc, fm, fs, hG, hr⟩ := id hL
  refine pw_aload_n (q := 11) (j := 0) C dX2_setStone_10 rfl rfl rfl ?_
  refine pw_getf (q := 14) C dX2_setStone_11 fX2_23 hG.1 (by rfl) rfl ?_
  refine pw_iconst_n (q := 15) C 0 dX2_setStone_14 (by decide +kernel) rfl ?_
  refine pw_aload_n (q := 16) (j := 0) C dX2_setStone_15 rfl rfl rfl ?_
  refine pw_getf (q := 19) C dX2_setStone_16 fX2_23 hG.1 (by rfl) rfl ?_
  refine pw_iload_n (q := 20) (j := 1) C dX2_setStone_19 rfl rfl rfl ?_
  refine pw_iconst_n (q := 21) C 0 dX2_setStone_20 (by decide +kernel) rfl ?_
  refine pw_rd (q := 24) (cr_v (j := iX8_get) C dX2_setStone_21 lX2_58 mX8_get (ro_mk (by decide) (by decide)) hG.2.2.2.1 rfl (g_s0 hG hr (P := stateP P s 3) (show s < stateP P s 3 7 by unfold stateP; rw [updN_ne (show 7 ≠ 50 + 6 * s + 3 by omega)]; exact hs)) rfl rfl (Nat.le_of_ble_eq_true rfl) ⟨by omega, by omega⟩) rfl ?_
  have e99 : stateP P s 3 (50 + 6 * s) = P (50 + 6 * s) := updN_ne (by omega)
  rw [e99]
  refine pw_iconst_n (q := 25) C 3 dX2_setStone_24 (by decide +kernel) rfl ?_
  refine pw_iconst_n (q := 26) C 3 dX2_setStone_25 (by decide +kernel) rfl ?_
  refine pw_rd (q := 29) (cr_v (j := iX8_countBoth) C dX2_setStone_26 lX2_54 mX8_countBoth (ro_mk (by decide) (by decide)) hG.2.2.2.1 rfl (g_cC (P := stateP P s 3) hG hr hI9 (by omega) (by omega)) rfl rfl (Nat.le_of_ble_eq_true rfl) ⟨by omega, by omega⟩) rfl ?_
  exact pw_iret C dX2_setStone_29 rfl ⟨by omega, by omega⟩ (RV.mk (by rfl) ⟨hL, sm⟩)
set_option maxHeartbeats 200000 in
set_option maxRecDepth 100000 in
theorem w_inspect {M : PH} {a : Nat} {P : Nat → Nat} (hL : LodgeAt M a P) (hI : Inv P) {s : Nat} (hs : s < P 7) : Run iX2_inspectStone [.ref a, .int (nI s)] M 0 0 (RV (.int (if P 0 < P (50 + 6 * s + 2) then -9 else nI (price P s))) (fun M1 => LodgeAt M1 a (inspectP P s) ∧ Same M M1 a (a + 7))) := by
  obtain ⟨fc, fm, fs, hG, hr⟩ := id hL
  have hb := hI.b
  have sm : Same M M a (a + 7) := Same.rf
  have hs9 := hI.s hs
  obtain ⟨hs1, hs2, -⟩ := id hs9
  have q7 : P 7 ≤ 24 := hb.2.2.2.2.1
  refine Run.of (l0 := [some (.ref a), some (.int (nI s)), none]) (by decide +kernel) (Nat.le_of_ble_eq_true rfl) (by rfl) (fun Γ G C => ?_)
  refine pw_aload_n (q := 1) (j := 0) C dX2_inspectStone_0 rfl rfl rfl ?_
  refine pw_getf (q := 4) C dX2_inspectStone_1 fX2_23 hG.1 (by rfl) rfl ?_
  refine pw_iload_n (q := 5) (j := 1) C dX2_inspectStone_4 rfl rfl rfl ?_
  refine pw_iconst_n (q := 6) C 2 dX2_inspectStone_5 (by decide +kernel) rfl ?_
  refine pw_rd (q := 9) (cr_v (j := iX8_get) C dX2_inspectStone_6 lX2_58 mX8_get (ro_mk (by decide) (by decide)) hG.2.2.2.1 rfl (g_s hG hr (by first | assumption | omega) (by omega)) rfl rfl (Nat.le_of_ble_eq_true rfl) ⟨by omega, by omega⟩) rfl ?_
  refine pw_aload_n (q := 10) (j := 0) C dX2_inspectStone_9 rfl rfl rfl ?_
  refine pw_getf (q := 13) C dX2_inspectStone_10 fX2_26 hG.1 (by rfl) rfl ?_
  refine pw_icmp_le_n (q := 16) 29 C dX2_inspectStone_13 (by decide) rfl (by omega) (by omega) (fun g13 => ?_) (fun g13 => ?_)
  · refine pw_aload_n (q := 30) (j := 0) C dX2_inspectStone_29 rfl rfl rfl ?_
    refine pw_iload_n (q := 31) (j := 1) C dX2_inspectStone_30 rfl rfl rfl ?_
    refine pw_rd (q := 34) (cr_v (j := iX2_priceOf) C dX2_inspectStone_31 lX2_96 mX2_priceOf (ro_mk (by decide) (by decide)) hG.1 rfl (k_priceOf hL hI (by first | assumption | omega)) rfl rfl (Nat.le_of_ble_eq_true rfl) ⟨by omega, by omega⟩) rfl ?_
    refine pw_istore_n (q := 35) (j := 2) C dX2_inspectStone_34 rfl rfl (by decide) rfl ?_
    refine pw_aload_n (q := 36) (j := 0) C dX2_inspectStone_35 rfl rfl rfl ?_
    refine pw_getf (q := 39) C dX2_inspectStone_36 fX2_23 hG.1 (by rfl) rfl ?_
    refine pw_iload_n (q := 40) (j := 1) C dX2_inspectStone_39 rfl rfl rfl ?_
    refine pw_iconst_n (q := 41) C 3 dX2_inspectStone_40 (by decide +kernel) rfl ?_
    refine pw_iconst_n (q := 42) C 1 dX2_inspectStone_41 (by decide +kernel) rfl ?_
    refine pw_void (q := 45) (cr_v (j := iX8_put) C dX2_inspectStone_42 lX2_73 mX8_put (ro_mk (by decide) (by decide)) hG.2.2.2.1 rfl (p_s hL (1) (by first | assumption | omega) (by omega)) rfl rfl (Nat.le_of_ble_eq_true rfl) ⟨by omega, by omega⟩) rfl (fun M42 e42 => ?_)
    obtain ⟨hL, sm9⟩ := e42
    have sm := sm.tr sm9
    obtain ⟨fc, fm, fs, hG, hr⟩ := id hL
    refine pw_aload_n (q := 46) (j := 0) C dX2_inspectStone_45 rfl rfl rfl ?_
    refine pw_getf (q := 49) C dX2_inspectStone_46 fX2_20 hG.1 (by rfl) rfl ?_
    refine pw_aload_n (q := 50) (j := 0) C dX2_inspectStone_49 rfl rfl rfl ?_
    refine pw_getf (q := 53) C dX2_inspectStone_50 fX2_23 hG.1 (by rfl) rfl ?_
    refine pw_iload_n (q := 54) (j := 1) C dX2_inspectStone_53 rfl rfl rfl ?_
    refine pw_iconst_n (q := 55) C 1 dX2_inspectStone_54 (by decide +kernel) rfl ?_
    refine pw_rd (q := 58) (cr_v (j := iX8_get) C dX2_inspectStone_55 lX2_58 mX8_get (ro_mk (by decide) (by decide)) hG.2.2.2.1 rfl (g_s (P := updN P (50 + 6 * s + 3) 1) hG hr (by rw [updN_ne (show 7 ≠ 50 + 6 * s + 3 by omega)]; exact hs) (by omega)) rfl rfl (Nat.le_of_ble_eq_true rfl) ⟨by omega, by omega⟩) rfl ?_
    rw [updN_ne (show 50 + 6 * s + 1 ≠ 50 + 6 * s + 3 by omega)]
    refine pw_iconst_n (q := 59) C 3 dX2_inspectStone_58 (by decide +kernel) rfl ?_
    refine pw_iload_n (q := 60) (j := 2) C dX2_inspectStone_59 rfl rfl rfl ?_
    refine pw_void (q := 63) (cr_v (j := iX8_increase) C dX2_inspectStone_60 lX2_89 mX8_increase (ro_mk (by decide) (by decide)) hG.2.2.1.1 rfl (i_m (P := updN P (50 + 6 * s + 3) 1) hL (P (26 + 4 * P (50 + 6 * s + 1) + 3) + price P s) (by rw [updN_ne (show 6 ≠ 50 + 6 * s + 3 by omega)]; exact hs2) (by omega) (by rw [updN_ne (show 26 + 4 * P (50 + 6 * s + 1) + 3 ≠ 50 + 6 * s + 3 by omega), nI_add])) rfl rfl (Nat.le_of_ble_eq_true rfl) ⟨by omega, by omega⟩) rfl (fun M60 e60 => ?_)
    obtain ⟨hL, sm9⟩ := e60
    have sm := sm.tr sm9
    obtain ⟨fc, fm, fs, hG, hr⟩ := id hL
    refine pw_iload_n (q := 64) (j := 2) C dX2_inspectStone_63 rfl rfl rfl ?_
    exact pw_iret C dX2_inspectStone_64 rfl ⟨by omega, by omega⟩ (RV.mk (vint (if_neg (by omega)).symm) ⟨by unfold inspectP; rw [if_neg (show ¬ P 0 < P (50 + 6 * s + 2) by omega)]; exact hL, sm⟩)
  · refine pw_aload_n (q := 17) (j := 0) C dX2_inspectStone_16 rfl rfl rfl ?_
    refine pw_getf (q := 20) C dX2_inspectStone_17 fX2_23 hG.1 (by rfl) rfl ?_
    refine pw_iload_n (q := 21) (j := 1) C dX2_inspectStone_20 rfl rfl rfl ?_
    refine pw_iconst_n (q := 22) C 3 dX2_inspectStone_21 (by decide +kernel) rfl ?_
    refine pw_iconst_n (q := 23) C 2 dX2_inspectStone_22 (by decide +kernel) rfl ?_
    refine pw_void (q := 26) (cr_v (j := iX8_put) C dX2_inspectStone_23 lX2_73 mX8_put (ro_mk (by decide) (by decide)) hG.2.2.2.1 rfl (p_s hL (2) (by first | assumption | omega) (by omega)) rfl rfl (Nat.le_of_ble_eq_true rfl) ⟨by omega, by omega⟩) rfl (fun M23 e23 => ?_)
    obtain ⟨hL, sm9⟩ := e23
    have sm := sm.tr sm9
    obtain ⟨fc, fm, fs, hG, hr⟩ := id hL
    refine pw_bipush (q := 28) (v := (-9)) C dX2_inspectStone_26 (by decide +kernel) rfl ?_
    exact pw_iret C dX2_inspectStone_28 rfl ⟨by omega, by omega⟩ (RV.mk (vint (if_pos (by omega)).symm) ⟨by unfold inspectP; rw [if_pos (show P 0 < P (50 + 6 * s + 2) by omega)]; exact hL, sm⟩)
set_option maxHeartbeats 200000 in
set_option maxRecDepth 100000 in
theorem w_pay {M : PH} {a : Nat} {P : Nat → Nat} (hL : LodgeAt M a P)  : Run iX2_payAll [.ref a] M 0 0 (RV (.int (nI (owedAll P))) (fun M1 => LodgeAt M1 a (payP P) ∧ Same M M1 a (a + 7))) := by
  obtain ⟨fc, fm, fs, hG, hr⟩ := id hL
  have hb := hL.bd
  have sm : Same M M a (a + 7) := Same.rf
  refine Run.of (l0 := [some (.ref a), none, none]) (by decide +kernel) (Nat.le_of_ble_eq_true rfl) (by rfl) (fun Γ G C => ?_)
  have loop : ∀ (d m : Nat), m + d = P 6 → ∀ M2, LodgeAt M2 a (payAt P m) → Same M M2 a (a + 7) → PW Γ G (ZJ Γ G 0 0 (RV (.int (nI (owedAll P))) (fun M1 => LodgeAt M1 a (payP P) ∧ Same M M1 a (a + 7)))) 11 [some (.ref a), some (.int (nI (owedAll P))), some (.int (nI m))] [] M2 0 0 := by
    intro d
    induction d with
    | zero =>
      intro m hd
      intro M2 hL sm
      obtain ⟨fc, fm, fs, hG, hr⟩ := id hL
      have p6 : payAt P m 6 = P 6 := payAt_ne (by omega)
      refine pw_iload_n (q := 12) (j := 2) C dX2_payAll_11 rfl rfl rfl ?_
      refine pw_aload_n (q := 13) (j := 0) C dX2_payAll_12 rfl rfl rfl ?_
      refine pw_getf (q := 16) C dX2_payAll_13 fX2_20 hG.1 (by rfl) rfl ?_
      refine pw_rd (q := 19) (cr_v (j := iX8_size) C dX2_payAll_16 lX2_50 mX8_size (ro_mk (by decide) (by decide)) hG.2.2.1.1 rfl (k_size hG.2.2.1) rfl rfl (Nat.le_of_ble_eq_true rfl) ⟨by omega, by omega⟩) rfl ?_
      rw [p6]
      refine pw_icmp_ge_n (q := 22) 38 C dX2_payAll_19 (by decide) rfl (by omega) (by omega) (fun g19 => ?_) (fun g19 => absurd g19 (by omega))
      refine pw_aload_n (q := 39) (j := 0) C dX2_payAll_38 rfl rfl rfl ?_
      have p3 : payAt P m 3 = P 3 := payAt_ne (by omega)
      refine pw_dup (q := 40) C dX2_payAll_39 rfl rfl ?_
      refine pw_getf (q := 43) C dX2_payAll_40 fX2_40 hG.1 (by rfl) rfl ?_
      refine pw_iload_n (q := 44) (j := 1) C dX2_payAll_43 rfl rfl rfl ?_
      rw [p3]
      refine pw_iadd_n (q := 45) C dX2_payAll_44 rfl ?_
      refine pw_put (q := 48) C dX2_payAll_45 fX2_40 hG.1 (by rfl) (by rfl) (Nat.le_of_ble_eq_true rfl) rfl ?_
      refine pw_heap (fun M9 => LodgeAt M9 a (updN (payAt P m) 3 (P 3 + owedAll P)) ∧ Same M M9 a (a + 7)) ⟨hL.sc 3 (P 3 + owedAll P) (by omega), sm.tr (Same.put (by omega) (by omega))⟩ (fun M9 ⟨hL, sm⟩ => ?_)
      obtain ⟨fc, fm, fs, hG, hr⟩ := id hL
      refine pw_iload_n (q := 49) (j := 1) C dX2_payAll_48 rfl rfl rfl ?_
      exact pw_iret C dX2_payAll_49 rfl ⟨by omega, by omega⟩ (RV.mk (by rfl) ⟨by unfold payP; rw [← show m = P 6 by omega]; exact hL, sm⟩)
    | succ d ih =>
      intro m hd
      intro M2 hL sm
      obtain ⟨fc, fm, fs, hG, hr⟩ := id hL
      have p6 : payAt P m 6 = P 6 := payAt_ne (by omega)
      refine pw_iload_n (q := 12) (j := 2) C dX2_payAll_11 rfl rfl rfl ?_
      refine pw_aload_n (q := 13) (j := 0) C dX2_payAll_12 rfl rfl rfl ?_
      refine pw_getf (q := 16) C dX2_payAll_13 fX2_20 hG.1 (by rfl) rfl ?_
      refine pw_rd (q := 19) (cr_v (j := iX8_size) C dX2_payAll_16 lX2_50 mX8_size (ro_mk (by decide) (by decide)) hG.2.2.1.1 rfl (k_size hG.2.2.1) rfl rfl (Nat.le_of_ble_eq_true rfl) ⟨by omega, by omega⟩) rfl ?_
      rw [p6]
      refine pw_icmp_ge_n (q := 22) 38 C dX2_payAll_19 (by decide) rfl (by omega) (by omega) (fun g19 => absurd g19 (by omega)) (fun g19 => ?_)
      refine pw_aload_n (q := 23) (j := 0) C dX2_payAll_22 rfl rfl rfl ?_
      refine pw_getf (q := 26) C dX2_payAll_23 fX2_20 hG.1 (by rfl) rfl ?_
      refine pw_iload_n (q := 27) (j := 2) C dX2_payAll_26 rfl rfl rfl ?_
      refine pw_iconst_n (q := 28) C 3 dX2_payAll_27 (by decide +kernel) rfl ?_
      refine pw_iconst_n (q := 29) C 0 dX2_payAll_28 (by decide +kernel) rfl ?_
      refine pw_void (q := 32) (cr_v (j := iX8_put) C dX2_payAll_29 lX2_73 mX8_put (ro_mk (by decide) (by decide)) hG.2.2.1.1 rfl (p_m hL 0 (by rw [p6]; omega) (by omega)) rfl rfl (Nat.le_of_ble_eq_true rfl) ⟨by omega, by omega⟩) rfl (fun M29 e29 => ?_)
      obtain ⟨hL, sm9⟩ := e29
      have sm := sm.tr sm9
      obtain ⟨fc, fm, fs, hG, hr⟩ := id hL
      refine pw_iinc_n (q := 35) C 1 dX2_payAll_32 rfl (by decide +kernel) rfl (by decide) rfl ?_
      refine pw_goto (q := 0) 11 C dX2_payAll_35 (by decide) ?_
      exact ih (m + 1) (by omega) _ (by rw [← payAt_succ]; exact hL) sm
  refine pw_aload_n (q := 1) (j := 0) C dX2_payAll_0 rfl rfl rfl ?_
  refine pw_getf (q := 4) C dX2_payAll_1 fX2_20 hG.1 (by rfl) rfl ?_
  refine pw_iconst_n (q := 5) C 3 dX2_payAll_4 (by decide +kernel) rfl ?_
  refine pw_rd (q := 8) (cr_v (j := iX8_sum) C dX2_payAll_5 lX2_109 mX8_sum (ro_mk (by decide) (by decide)) hG.2.2.1.1 rfl (g_owed hG hr) rfl rfl (Nat.le_of_ble_eq_true rfl) ⟨by omega, by omega⟩) rfl ?_
  refine pw_istore_n (q := 9) (j := 1) C dX2_payAll_8 rfl rfl (by decide) rfl ?_
  refine pw_iconst_n (q := 10) C 0 dX2_payAll_9 (by decide +kernel) rfl ?_
  refine pw_istore_n (q := 11) (j := 2) C dX2_payAll_10 rfl rfl (by decide) rfl ?_
  exact loop (P 6) 0 (by omega) M (by rw [payAt_0]; exact hL) Same.rf
set_option maxHeartbeats 200000 in
set_option maxRecDepth 100000 in
theorem w_handOut {M : PH} {a : Nat} {P : Nat → Nat} (hL : LodgeAt M a P) (h2 : P 2 ≤ 1) (hm9 : ∀ m, m < P 6 → P (26 + 4 * m + 1) ≤ 12) : Run iX2_handOutWork [.ref a] M 0 0 (RN (fun M1 => LodgeAt M1 a (workAt P (P 6)) ∧ Same M M1 a (a + 7))) := by
  obtain ⟨fc, fm, fs, hG, hr⟩ := id hL
  have hb := hL.bd
  have sm : Same M M a (a + 7) := Same.rf
  refine Run.of (l0 := [some (.ref a), none]) (by decide +kernel) (Nat.le_of_ble_eq_true rfl) (by rfl) (fun Γ G C => ?_)
  have loop : ∀ (d m : Nat), m + d = P 6 → ∀ M2, LodgeAt M2 a (workAt P m) → Same M M2 a (a + 7) → PW Γ G (ZJ Γ G 0 0 (RN (fun M1 => LodgeAt M1 a (workAt P (P 6)) ∧ Same M M1 a (a + 7)))) 2 [some (.ref a), some (.int (nI m))] [] M2 0 0 := by
    intro d
    induction d with
    | zero =>
      intro m hd
      intro M2 hL sm
      obtain ⟨fc, fm, fs, hG, hr⟩ := id hL
      have p6 : workAt P m 6 = P 6 := workAt_ne (by omega)
      have p2 : workAt P m 2 = P 2 := workAt_ne (by omega)
      have p1 : workAt P m (26 + 4 * m + 1) = P (26 + 4 * m + 1) := workAt_ne (by omega)
      refine pw_iload_n (q := 3) (j := 1) C dX2_handOutWork_2 rfl rfl rfl ?_
      refine pw_aload_n (q := 4) (j := 0) C dX2_handOutWork_3 rfl rfl rfl ?_
      refine pw_getf (q := 7) C dX2_handOutWork_4 fX2_20 hG.1 (by rfl) rfl ?_
      refine pw_rd (q := 10) (cr_v (j := iX8_size) C dX2_handOutWork_7 lX2_50 mX8_size (ro_mk (by decide) (by decide)) hG.2.2.1.1 rfl (k_size hG.2.2.1) rfl rfl (Nat.le_of_ble_eq_true rfl) ⟨by omega, by omega⟩) rfl ?_
      rw [p6]
      refine pw_icmp_ge_n (q := 13) 48 C dX2_handOutWork_10 (by decide) rfl (by omega) (by omega) (fun g10 => ?_) (fun g10 => absurd g10 (by omega))
      exact pw_vret C dX2_handOutWork_48 rfl ⟨by omega, by omega⟩ (RN.mk ⟨by rw [← show m = P 6 by omega]; exact hL, sm⟩)
    | succ d ih =>
      intro m hd
      intro M2 hL sm
      obtain ⟨fc, fm, fs, hG, hr⟩ := id hL
      have p6 : workAt P m 6 = P 6 := workAt_ne (by omega)
      have p2 : workAt P m 2 = P 2 := workAt_ne (by omega)
      have p1 : workAt P m (26 + 4 * m + 1) = P (26 + 4 * m + 1) := workAt_ne (by omega)
      have q9 := hm9 m (by omega)
      refine pw_iload_n (q := 3) (j := 1) C dX2_handOutWork_2 rfl rfl rfl ?_
      refine pw_aload_n (q := 4) (j := 0) C dX2_handOutWork_3 rfl rfl rfl ?_
      refine pw_getf (q := 7) C dX2_handOutWork_4 fX2_20 hG.1 (by rfl) rfl ?_
      refine pw_rd (q := 10) (cr_v (j := iX8_size) C dX2_handOutWork_7 lX2_50 mX8_size (ro_mk (by decide) (by decide)) hG.2.2.1.1 rfl (k_size hG.2.2.1) rfl rfl (Nat.le_of_ble_eq_true rfl) ⟨by omega, by omega⟩) rfl ?_
      rw [p6]
      refine pw_icmp_ge_n (q := 13) 48 C dX2_handOutWork_10 (by decide) rfl (by omega) (by omega) (fun g10 => absurd g10 (by omega)) (fun g10 => ?_)
      refine pw_aload_n (q := 14) (j := 0) C dX2_handOutWork_13 rfl rfl rfl ?_
      refine pw_getf (q := 17) C dX2_handOutWork_14 fX2_20 hG.1 (by rfl) rfl ?_
      refine pw_iload_n (q := 18) (j := 1) C dX2_handOutWork_17 rfl rfl rfl ?_
      refine pw_iconst_n (q := 19) C 2 dX2_handOutWork_18 (by decide +kernel) rfl ?_
      refine pw_aload_n (q := 20) (j := 0) C dX2_handOutWork_19 rfl rfl rfl ?_
      refine pw_getf (q := 23) C dX2_handOutWork_20 fX2_36 hG.1 (by rfl) rfl ?_
      rw [p2]
      refine pw_if_eq_n (q := 26) 30 C dX2_handOutWork_23 (by decide) rfl (by omega) (fun g23 => ?_) (fun g23 => ?_)
      · refine pw_aload_n (q := 31) (j := 0) C dX2_handOutWork_30 rfl rfl rfl ?_
        refine pw_getf (q := 34) C dX2_handOutWork_31 fX2_20 hG.1 (by rfl) rfl ?_
        refine pw_iload_n (q := 35) (j := 1) C dX2_handOutWork_34 rfl rfl rfl ?_
        refine pw_iconst_n (q := 36) C 1 dX2_handOutWork_35 (by decide +kernel) rfl ?_
        refine pw_rd (q := 39) (cr_v (j := iX8_get) C dX2_handOutWork_36 lX2_58 mX8_get (ro_mk (by decide) (by decide)) hG.2.2.1.1 rfl (g_m (P := workAt P m) hG hr (by rw [p6]; omega) (by omega)) rfl rfl (Nat.le_of_ble_eq_true rfl) ⟨by omega, by omega⟩) rfl ?_
        rw [p1]
        refine pw_void (q := 42) (cr_v (j := iX8_put) C dX2_handOutWork_39 lX2_73 mX8_put (ro_mk (by decide) (by decide)) hG.2.2.1.1 rfl (p_m hL (P (26 + 4 * m + 1)) (by rw [p6]; omega) (by omega)) rfl rfl (Nat.le_of_ble_eq_true rfl) ⟨by omega, by omega⟩) rfl (fun M39 e39 => ?_)
        obtain ⟨hL, sm9⟩ := e39
        have sm := sm.tr sm9
        obtain ⟨fc, fm, fs, hG, hr⟩ := id hL
        refine pw_iinc_n (q := 45) C 1 dX2_handOutWork_42 rfl (by decide +kernel) rfl (by decide) rfl ?_
        refine pw_goto (q := 0) 2 C dX2_handOutWork_45 (by decide) ?_
        exact ih (m + 1) (by omega) _ (by rw [← workAt_succ, if_pos g23]; exact hL) sm
      · refine pw_iconst_n (q := 27) C 0 dX2_handOutWork_26 (by decide +kernel) rfl ?_
        refine pw_goto (q := 0) 39 C dX2_handOutWork_27 (by decide) ?_
        refine pw_void (q := 42) (cr_v (j := iX8_put) C dX2_handOutWork_39 lX2_73 mX8_put (ro_mk (by decide) (by decide)) hG.2.2.1.1 rfl (p_m hL 0 (by rw [p6]; omega) (by omega)) rfl rfl (Nat.le_of_ble_eq_true rfl) ⟨by omega, by omega⟩) rfl (fun M39 e39 => ?_)
        obtain ⟨hL, sm9⟩ := e39
        have sm := sm.tr sm9
        obtain ⟨fc, fm, fs, hG, hr⟩ := id hL
        refine pw_iinc_n (q := 45) C 1 dX2_handOutWork_42 rfl (by decide +kernel) rfl (by decide) rfl ?_
        refine pw_goto (q := 0) 2 C dX2_handOutWork_45 (by decide) ?_
        exact ih (m + 1) (by omega) _ (by rw [← workAt_succ, if_neg g23]; exact hL) sm
  refine pw_iconst_n (q := 1) C 0 dX2_handOutWork_0 (by decide +kernel) rfl ?_
  refine pw_istore_n (q := 2) (j := 1) C dX2_handOutWork_1 rfl rfl (by decide) rfl ?_
  exact loop (P 6) 0 (by omega) M (by rw [workAt_0]; exact hL) Same.rf
set_option maxHeartbeats 200000 in
set_option maxRecDepth 100000 in
theorem w_newStone {M : PH} {a : Nat} {P : Nat → Nat} (hL : LodgeAt M a P) {m c f : Nat} (h24 : P 7 < 24) : Run iX2_newStone [.ref a, .int (nI m), .int (nI c), .int (nI f)] M 0 0 (RV (.int (nI (P 7))) (fun M1 => LodgeAt M1 a (newStoneP P m c f) ∧ Same M M1 a (a + 7))) := by
  obtain ⟨fc, fm, fs, hG, hr⟩ := id hL
  have hb := hL.bd
  have sm : Same M M a (a + 7) := Same.rf
  refine Run.of (l0 := [some (.ref a), some (.int (nI m)), some (.int (nI c)), some (.int (nI f)), none]) (by decide +kernel) (Nat.le_of_ble_eq_true rfl) (by rfl) (fun Γ G C => ?_)
  refine pw_aload_n (q := 1) (j := 0) C dX2_newStone_0 rfl rfl rfl ?_
  refine pw_getf (q := 4) C dX2_newStone_1 fX2_23 hG.1 (by rfl) rfl ?_
  refine pw_val (q := 7) (cr_v (j := iX8_addRow) C dX2_newStone_4 lX2_70 mX8_addRow (ro_mk (by decide) (by decide)) hG.2.2.2.1 rfl (k_addRow hG.2.2.2 h24) rfl rfl (Nat.le_of_ble_eq_true rfl) ⟨by omega, by omega⟩) rfl (fun M4 e4 => ?_)
  subst e4
  have hG := hG.rows_s (R := P 7 + 1) (by omega)
  refine pw_istore (q := 9) C dX2_newStone_7 rfl (by decide) rfl ?_
  refine pw_aload_n (q := 10) (j := 0) C dX2_newStone_9 rfl rfl rfl ?_
  refine pw_getf (q := 13) C dX2_newStone_10 fX2_23 hG.1 (by rfl) rfl ?_
  refine pw_iload (q := 15) C dX2_newStone_13 rfl rfl ?_
  refine pw_iconst_n (q := 16) C 0 dX2_newStone_15 (by decide +kernel) rfl ?_
  refine pw_iload_n (q := 17) (j := 2) C dX2_newStone_16 rfl rfl rfl ?_
  refine pw_void (q := 20) (cr_v (j := iX8_put) C dX2_newStone_17 lX2_73 mX8_put (ro_mk (by decide) (by decide)) hG.2.2.2.1 rfl (k_put_in hG.2.2.2 (r := P 7) (by rw [updN_at]; omega) (by omega) _) rfl rfl (Nat.le_of_ble_eq_true rfl) ⟨by omega, by omega⟩) rfl (fun M17 e17 => ?_)
  subst e17
  have hG := hG.put_s (k := P 7 * 6 + 0) (v := nI c)
  refine pw_aload_n (q := 21) (j := 0) C dX2_newStone_20 rfl rfl rfl ?_
  refine pw_getf (q := 24) C dX2_newStone_21 fX2_23 hG.1 (by rfl) rfl ?_
  refine pw_iload (q := 26) C dX2_newStone_24 rfl rfl ?_
  refine pw_iconst_n (q := 27) C 1 dX2_newStone_26 (by decide +kernel) rfl ?_
  refine pw_iload_n (q := 28) (j := 1) C dX2_newStone_27 rfl rfl rfl ?_
  refine pw_void (q := 31) (cr_v (j := iX8_put) C dX2_newStone_28 lX2_73 mX8_put (ro_mk (by decide) (by decide)) hG.2.2.2.1 rfl (k_put_in hG.2.2.2 (r := P 7) (by rw [updN_at]; omega) (by omega) _) rfl rfl (Nat.le_of_ble_eq_true rfl) ⟨by omega, by omega⟩) rfl (fun M28 e28 => ?_)
  subst e28
  have hG := hG.put_s (k := P 7 * 6 + 1) (v := nI m)
  refine pw_aload_n (q := 32) (j := 0) C dX2_newStone_31 rfl rfl rfl ?_
  refine pw_getf (q := 35) C dX2_newStone_32 fX2_23 hG.1 (by rfl) rfl ?_
  refine pw_iload (q := 37) C dX2_newStone_35 rfl rfl ?_
  refine pw_iconst_n (q := 38) C 2 dX2_newStone_37 (by decide +kernel) rfl ?_
  refine pw_iload_n (q := 39) (j := 3) C dX2_newStone_38 rfl rfl rfl ?_
  refine pw_void (q := 42) (cr_v (j := iX8_put) C dX2_newStone_39 lX2_73 mX8_put (ro_mk (by decide) (by decide)) hG.2.2.2.1 rfl (k_put_in hG.2.2.2 (r := P 7) (by rw [updN_at]; omega) (by omega) _) rfl rfl (Nat.le_of_ble_eq_true rfl) ⟨by omega, by omega⟩) rfl (fun M39 e39 => ?_)
  subst e39
  have hG := hG.put_s (k := P 7 * 6 + 2) (v := nI f)
  refine pw_aload_n (q := 43) (j := 0) C dX2_newStone_42 rfl rfl rfl ?_
  refine pw_getf (q := 46) C dX2_newStone_43 fX2_23 hG.1 (by rfl) rfl ?_
  refine pw_iload (q := 48) C dX2_newStone_46 rfl rfl ?_
  refine pw_iconst_n (q := 49) C 3 dX2_newStone_48 (by decide +kernel) rfl ?_
  refine pw_iconst_n (q := 50) C 0 dX2_newStone_49 (by decide +kernel) rfl ?_
  refine pw_void (q := 53) (cr_v (j := iX8_put) C dX2_newStone_50 lX2_73 mX8_put (ro_mk (by decide) (by decide)) hG.2.2.2.1 rfl (k_put_in hG.2.2.2 (r := P 7) (by rw [updN_at]; omega) (by omega) _) rfl rfl (Nat.le_of_ble_eq_true rfl) ⟨by omega, by omega⟩) rfl (fun M50 e50 => ?_)
  subst e50
  have hG := hG.put_s (k := P 7 * 6 + 3) (v := nI 0)
  refine pw_aload_n (q := 54) (j := 0) C dX2_newStone_53 rfl rfl rfl ?_
  refine pw_getf (q := 57) C dX2_newStone_54 fX2_23 hG.1 (by rfl) rfl ?_
  refine pw_iload (q := 59) C dX2_newStone_57 rfl rfl ?_
  refine pw_iconst_n (q := 60) C 4 dX2_newStone_59 (by decide +kernel) rfl ?_
  refine pw_iconst_n (q := 61) C 0 dX2_newStone_60 (by decide +kernel) rfl ?_
  refine pw_void (q := 64) (cr_v (j := iX8_put) C dX2_newStone_61 lX2_73 mX8_put (ro_mk (by decide) (by decide)) hG.2.2.2.1 rfl (k_put_in hG.2.2.2 (r := P 7) (by rw [updN_at]; omega) (by omega) _) rfl rfl (Nat.le_of_ble_eq_true rfl) ⟨by omega, by omega⟩) rfl (fun M61 e61 => ?_)
  subst e61
  have hG := hG.put_s (k := P 7 * 6 + 4) (v := nI 0)
  refine pw_aload_n (q := 65) (j := 0) C dX2_newStone_64 rfl rfl rfl ?_
  refine pw_getf (q := 68) C dX2_newStone_65 fX2_23 hG.1 (by rfl) rfl ?_
  refine pw_iload (q := 70) C dX2_newStone_68 rfl rfl ?_
  refine pw_iconst_n (q := 71) C 5 dX2_newStone_70 (by decide +kernel) rfl ?_
  refine pw_iload_n (q := 72) (j := 1) C dX2_newStone_71 rfl rfl rfl ?_
  refine pw_void (q := 75) (cr_v (j := iX8_put) C dX2_newStone_72 lX2_73 mX8_put (ro_mk (by decide) (by decide)) hG.2.2.2.1 rfl (k_put_in hG.2.2.2 (r := P 7) (by rw [updN_at]; omega) (by omega) _) rfl rfl (Nat.le_of_ble_eq_true rfl) ⟨by omega, by omega⟩) rfl (fun M72 e72 => ?_)
  subst e72
  have hG := hG.put_s (k := P 7 * 6 + 5) (v := nI m)
  refine pw_iload (q := 77) C dX2_newStone_75 rfl rfl ?_
  exact pw_iret C dX2_newStone_77 rfl ⟨by omega, by omega⟩ (RV.mk (by rfl) ⟨⟨_, _, _, hG.cong (fun k hk => newStone_lo hk), newStone_rel hr hb m c f⟩, (((((((Same.rf.tr (Same.put (by omega) (by omega))).tr (Same.put (by omega) (by omega))).tr (Same.put (by omega) (by omega))).tr (Same.put (by omega) (by omega))).tr (Same.put (by omega) (by omega))).tr (Same.put (by omega) (by omega))).tr (Same.put (by omega) (by omega)))⟩)
set_option maxHeartbeats 200000 in
set_option maxRecDepth 100000 in
theorem w_newCourse {M : PH} {a : Nat} {P : Nat → Nat} (hL : LodgeAt M a P) {x y z : Nat} (h6 : P 5 < 6) : Run iX2_newCourse [.ref a, .int (nI x), .int (nI y), .int (nI z)] M 0 0 (RV (.int (nI (P 5))) (fun M1 => LodgeAt M1 a (newCourseP P x y z) ∧ Same M M1 a (a + 7))) := by
  obtain ⟨fc, fm, fs, hG, hr⟩ := id hL
  have hb := hL.bd
  have sm : Same M M a (a + 7) := Same.rf
  refine Run.of (l0 := [some (.ref a), some (.int (nI x)), some (.int (nI y)), some (.int (nI z)), none]) (by decide +kernel) (Nat.le_of_ble_eq_true rfl) (by rfl) (fun Γ G C => ?_)
  refine pw_aload_n (q := 1) (j := 0) C dX2_newCourse_0 rfl rfl rfl ?_
  refine pw_getf (q := 4) C dX2_newCourse_1 fX2_14 hG.1 (by rfl) rfl ?_
  refine pw_val (q := 7) (cr_v (j := iX8_addRow) C dX2_newCourse_4 lX2_70 mX8_addRow (ro_mk (by decide) (by decide)) hG.2.1.1 rfl (k_addRow hG.2.1 h6) rfl rfl (Nat.le_of_ble_eq_true rfl) ⟨by omega, by omega⟩) rfl (fun M4 e4 => ?_)
  subst e4
  have hG := hG.rows_c (R := P 5 + 1) (by omega)
  refine pw_istore (q := 9) C dX2_newCourse_7 rfl (by decide) rfl ?_
  refine pw_aload_n (q := 10) (j := 0) C dX2_newCourse_9 rfl rfl rfl ?_
  refine pw_getf (q := 13) C dX2_newCourse_10 fX2_14 hG.1 (by rfl) rfl ?_
  refine pw_iload (q := 15) C dX2_newCourse_13 rfl rfl ?_
  refine pw_iconst_n (q := 16) C 0 dX2_newCourse_15 (by decide +kernel) rfl ?_
  refine pw_iload_n (q := 17) (j := 1) C dX2_newCourse_16 rfl rfl rfl ?_
  refine pw_void (q := 20) (cr_v (j := iX8_put) C dX2_newCourse_17 lX2_73 mX8_put (ro_mk (by decide) (by decide)) hG.2.1.1 rfl (k_put_in hG.2.1 (r := P 5) (by rw [updN_at]; omega) (by omega) _) rfl rfl (Nat.le_of_ble_eq_true rfl) ⟨by omega, by omega⟩) rfl (fun M17 e17 => ?_)
  subst e17
  have hG := hG.put_c (k := P 5 * 3 + 0) (v := nI x)
  refine pw_aload_n (q := 21) (j := 0) C dX2_newCourse_20 rfl rfl rfl ?_
  refine pw_getf (q := 24) C dX2_newCourse_21 fX2_14 hG.1 (by rfl) rfl ?_
  refine pw_iload (q := 26) C dX2_newCourse_24 rfl rfl ?_
  refine pw_iconst_n (q := 27) C 1 dX2_newCourse_26 (by decide +kernel) rfl ?_
  refine pw_iload_n (q := 28) (j := 2) C dX2_newCourse_27 rfl rfl rfl ?_
  refine pw_void (q := 31) (cr_v (j := iX8_put) C dX2_newCourse_28 lX2_73 mX8_put (ro_mk (by decide) (by decide)) hG.2.1.1 rfl (k_put_in hG.2.1 (r := P 5) (by rw [updN_at]; omega) (by omega) _) rfl rfl (Nat.le_of_ble_eq_true rfl) ⟨by omega, by omega⟩) rfl (fun M28 e28 => ?_)
  subst e28
  have hG := hG.put_c (k := P 5 * 3 + 1) (v := nI y)
  refine pw_aload_n (q := 32) (j := 0) C dX2_newCourse_31 rfl rfl rfl ?_
  refine pw_getf (q := 35) C dX2_newCourse_32 fX2_14 hG.1 (by rfl) rfl ?_
  refine pw_iload (q := 37) C dX2_newCourse_35 rfl rfl ?_
  refine pw_iconst_n (q := 38) C 2 dX2_newCourse_37 (by decide +kernel) rfl ?_
  refine pw_iload_n (q := 39) (j := 3) C dX2_newCourse_38 rfl rfl rfl ?_
  refine pw_void (q := 42) (cr_v (j := iX8_put) C dX2_newCourse_39 lX2_73 mX8_put (ro_mk (by decide) (by decide)) hG.2.1.1 rfl (k_put_in hG.2.1 (r := P 5) (by rw [updN_at]; omega) (by omega) _) rfl rfl (Nat.le_of_ble_eq_true rfl) ⟨by omega, by omega⟩) rfl (fun M39 e39 => ?_)
  subst e39
  have hG := hG.put_c (k := P 5 * 3 + 2) (v := nI z)
  refine pw_iload (q := 44) C dX2_newCourse_42 rfl rfl ?_
  exact pw_iret C dX2_newCourse_44 rfl ⟨by omega, by omega⟩ (RV.mk (by rfl) ⟨⟨_, _, _, hG.cong (fun k hk => newCourse_lo hk), newCourse_rel hr ⟨h6, hb.2⟩ x y z⟩, ((((Same.rf.tr (Same.put (by omega) (by omega))).tr (Same.put (by omega) (by omega))).tr (Same.put (by omega) (by omega))).tr (Same.put (by omega) (by omega)))⟩)
set_option maxHeartbeats 200000 in
set_option maxRecDepth 100000 in
theorem w_newMason {M : PH} {a : Nat} {P : Nat → Nat} (hL : LodgeAt M a P) {x y : Nat} (h6 : P 6 < 6) : Run iX2_newMason [.ref a, .int (nI x), .int (nI y)] M 0 0 (RV (.int (nI (P 6))) (fun M1 => LodgeAt M1 a (newMasonP P x y) ∧ Same M M1 a (a + 7))) := by
  obtain ⟨fc, fm, fs, hG, hr⟩ := id hL
  have hb := hL.bd
  have sm : Same M M a (a + 7) := Same.rf
  refine Run.of (l0 := [some (.ref a), some (.int (nI x)), some (.int (nI y)), none]) (by decide +kernel) (Nat.le_of_ble_eq_true rfl) (by rfl) (fun Γ G C => ?_)
  refine pw_aload_n (q := 1) (j := 0) C dX2_newMason_0 rfl rfl rfl ?_
  refine pw_getf (q := 4) C dX2_newMason_1 fX2_20 hG.1 (by rfl) rfl ?_
  refine pw_val (q := 7) (cr_v (j := iX8_addRow) C dX2_newMason_4 lX2_70 mX8_addRow (ro_mk (by decide) (by decide)) hG.2.2.1.1 rfl (k_addRow hG.2.2.1 h6) rfl rfl (Nat.le_of_ble_eq_true rfl) ⟨by omega, by omega⟩) rfl (fun M4 e4 => ?_)
  subst e4
  have hG := hG.rows_m (R := P 6 + 1) (by omega)
  refine pw_istore_n (q := 8) (j := 3) C dX2_newMason_7 rfl rfl (by decide) rfl ?_
  refine pw_aload_n (q := 9) (j := 0) C dX2_newMason_8 rfl rfl rfl ?_
  refine pw_getf (q := 12) C dX2_newMason_9 fX2_20 hG.1 (by rfl) rfl ?_
  refine pw_iload_n (q := 13) (j := 3) C dX2_newMason_12 rfl rfl rfl ?_
  refine pw_iconst_n (q := 14) C 0 dX2_newMason_13 (by decide +kernel) rfl ?_
  refine pw_iload_n (q := 15) (j := 1) C dX2_newMason_14 rfl rfl rfl ?_
  refine pw_void (q := 18) (cr_v (j := iX8_put) C dX2_newMason_15 lX2_73 mX8_put (ro_mk (by decide) (by decide)) hG.2.2.1.1 rfl (k_put_in hG.2.2.1 (r := P 6) (by rw [updN_at]; omega) (by omega) _) rfl rfl (Nat.le_of_ble_eq_true rfl) ⟨by omega, by omega⟩) rfl (fun M15 e15 => ?_)
  subst e15
  have hG := hG.put_m (k := P 6 * 4 + 0) (v := nI x)
  refine pw_aload_n (q := 19) (j := 0) C dX2_newMason_18 rfl rfl rfl ?_
  refine pw_getf (q := 22) C dX2_newMason_19 fX2_20 hG.1 (by rfl) rfl ?_
  refine pw_iload_n (q := 23) (j := 3) C dX2_newMason_22 rfl rfl rfl ?_
  refine pw_iconst_n (q := 24) C 1 dX2_newMason_23 (by decide +kernel) rfl ?_
  refine pw_iload_n (q := 25) (j := 2) C dX2_newMason_24 rfl rfl rfl ?_
  refine pw_void (q := 28) (cr_v (j := iX8_put) C dX2_newMason_25 lX2_73 mX8_put (ro_mk (by decide) (by decide)) hG.2.2.1.1 rfl (k_put_in hG.2.2.1 (r := P 6) (by rw [updN_at]; omega) (by omega) _) rfl rfl (Nat.le_of_ble_eq_true rfl) ⟨by omega, by omega⟩) rfl (fun M25 e25 => ?_)
  subst e25
  have hG := hG.put_m (k := P 6 * 4 + 1) (v := nI y)
  refine pw_aload_n (q := 29) (j := 0) C dX2_newMason_28 rfl rfl rfl ?_
  refine pw_getf (q := 32) C dX2_newMason_29 fX2_20 hG.1 (by rfl) rfl ?_
  refine pw_iload_n (q := 33) (j := 3) C dX2_newMason_32 rfl rfl rfl ?_
  refine pw_iconst_n (q := 34) C 2 dX2_newMason_33 (by decide +kernel) rfl ?_
  refine pw_iconst_n (q := 35) C 0 dX2_newMason_34 (by decide +kernel) rfl ?_
  refine pw_void (q := 38) (cr_v (j := iX8_put) C dX2_newMason_35 lX2_73 mX8_put (ro_mk (by decide) (by decide)) hG.2.2.1.1 rfl (k_put_in hG.2.2.1 (r := P 6) (by rw [updN_at]; omega) (by omega) _) rfl rfl (Nat.le_of_ble_eq_true rfl) ⟨by omega, by omega⟩) rfl (fun M35 e35 => ?_)
  subst e35
  have hG := hG.put_m (k := P 6 * 4 + 2) (v := nI 0)
  refine pw_aload_n (q := 39) (j := 0) C dX2_newMason_38 rfl rfl rfl ?_
  refine pw_getf (q := 42) C dX2_newMason_39 fX2_20 hG.1 (by rfl) rfl ?_
  refine pw_iload_n (q := 43) (j := 3) C dX2_newMason_42 rfl rfl rfl ?_
  refine pw_iconst_n (q := 44) C 3 dX2_newMason_43 (by decide +kernel) rfl ?_
  refine pw_iconst_n (q := 45) C 0 dX2_newMason_44 (by decide +kernel) rfl ?_
  refine pw_void (q := 48) (cr_v (j := iX8_put) C dX2_newMason_45 lX2_73 mX8_put (ro_mk (by decide) (by decide)) hG.2.2.1.1 rfl (k_put_in hG.2.2.1 (r := P 6) (by rw [updN_at]; omega) (by omega) _) rfl rfl (Nat.le_of_ble_eq_true rfl) ⟨by omega, by omega⟩) rfl (fun M45 e45 => ?_)
  subst e45
  have hG := hG.put_m (k := P 6 * 4 + 3) (v := nI 0)
  refine pw_iload_n (q := 49) (j := 3) C dX2_newMason_48 rfl rfl rfl ?_
  exact pw_iret C dX2_newMason_49 rfl ⟨by omega, by omega⟩ (RV.mk (by rfl) ⟨⟨_, _, _, hG.cong (fun k hk => newMason_lo hk), newMason_rel hr ⟨hb.1, h6, hb.2.2⟩ x y⟩, (((((Same.rf.tr (Same.put (by omega) (by omega))).tr (Same.put (by omega) (by omega))).tr (Same.put (by omega) (by omega))).tr (Same.put (by omega) (by omega))).tr (Same.put (by omega) (by omega)))⟩)
set_option maxHeartbeats 200000 in
set_option maxRecDepth 100000 in
theorem w_cut {M : PH} {a : Nat} {P : Nat → Nat} (hL : LodgeAt M a P) {m c f : Nat} (hm : m < P 6) (hc : c < P 5) (hw : canCut P m c) : Run iX2_cutStone [.ref a, .int (nI m), .int (nI c), .int (nI f)] M 0 0 (RV (.int (nI (P 7))) (fun M1 => LodgeAt M1 a (cutP P m c f) ∧ Same M M1 a (a + 7))) := by
  obtain ⟨fc, fm, fs, hG, hr⟩ := id hL
  have hb := hL.bd
  have sm : Same M M a (a + 7) := Same.rf
  obtain ⟨hw1, hw2⟩ := hw
  have p7 : updN P (26 + 4 * m + 2) (P (26 + 4 * m + 2) - P (8 + 3 * c + 1)) 7 = P 7 := updN_ne (by omega)
  refine Run.of (l0 := [some (.ref a), some (.int (nI m)), some (.int (nI c)), some (.int (nI f))]) (by decide +kernel) (Nat.le_of_ble_eq_true rfl) (by rfl) (fun Γ G C => ?_)
  refine pw_aload_n (q := 1) (j := 0) C dX2_cutStone_0 rfl rfl rfl ?_
  refine pw_getf (q := 4) C dX2_cutStone_1 fX2_20 hG.1 (by rfl) rfl ?_
  refine pw_iload_n (q := 5) (j := 1) C dX2_cutStone_4 rfl rfl rfl ?_
  refine pw_iconst_n (q := 6) C 2 dX2_cutStone_5 (by decide +kernel) rfl ?_
  refine pw_aload_n (q := 7) (j := 0) C dX2_cutStone_6 rfl rfl rfl ?_
  refine pw_getf (q := 10) C dX2_cutStone_7 fX2_14 hG.1 (by rfl) rfl ?_
  refine pw_iload_n (q := 11) (j := 2) C dX2_cutStone_10 rfl rfl rfl ?_
  refine pw_iconst_n (q := 12) C 1 dX2_cutStone_11 (by decide +kernel) rfl ?_
  refine pw_rd (q := 15) (cr_v (j := iX8_get) C dX2_cutStone_12 lX2_58 mX8_get (ro_mk (by decide) (by decide)) hG.2.1.1 rfl (g_c hG hr (by first | assumption | omega) (by omega)) rfl rfl (Nat.le_of_ble_eq_true rfl) ⟨by omega, by omega⟩) rfl ?_
  refine pw_ineg (q := 16) C dX2_cutStone_15 rfl ?_
  refine pw_void (q := 19) (cr_v (j := iX8_increase) C dX2_cutStone_16 lX2_89 mX8_increase (ro_mk (by decide) (by decide)) hG.2.2.1.1 rfl (i_m hL (P (26 + 4 * m + 2) - P (8 + 3 * c + 1)) hm (by omega) (nI_subI hw1)) rfl rfl (Nat.le_of_ble_eq_true rfl) ⟨by omega, by omega⟩) rfl (fun M16 e16 => ?_)
  obtain ⟨hL, sm9⟩ := e16
  have sm := sm.tr sm9
  obtain ⟨fc, fm, fs, hG, hr⟩ := id hL
  refine pw_aload_n (q := 20) (j := 0) C dX2_cutStone_19 rfl rfl rfl ?_
  refine pw_iload_n (q := 21) (j := 1) C dX2_cutStone_20 rfl rfl rfl ?_
  refine pw_iload_n (q := 22) (j := 2) C dX2_cutStone_21 rfl rfl rfl ?_
  refine pw_iload_n (q := 23) (j := 3) C dX2_cutStone_22 rfl rfl rfl ?_
  refine pw_val (q := 26) (cr_v (j := iX2_newStone) C dX2_cutStone_23 lX2_92 mX2_newStone (ro_mk (by decide) (by decide)) hG.1 rfl (w_newStone hL (by rw [p7]; exact hw2)) rfl rfl (Nat.le_of_ble_eq_true rfl) ⟨by omega, by omega⟩) rfl (fun M23 e23 => ?_)
  obtain ⟨hL, sm9⟩ := e23
  have sm := sm.tr sm9
  exact pw_iret C dX2_cutStone_26 rfl ⟨by omega, by omega⟩ (RV.mk (vnI p7) ⟨hL, sm⟩)
set_option maxHeartbeats 200000 in
set_option maxRecDepth 100000 in
theorem w_recut {M : PH} {a : Nat} {P : Nat → Nat} (hL : LodgeAt M a P) (hI : Inv P) {m s c : Nat} (hm : m < P 6) (hs : s < P 7) (hc : c < P 5) (hw : canRecut P m s c) : Run iX2_recutStone [.ref a, .int (nI m), .int (nI s), .int (nI c)] M 0 0 (RV (.int (nI (recutF P s c))) (fun M1 => LodgeAt M1 a (recutP P m s c) ∧ Same M M1 a (a + 7))) := by
  obtain ⟨fc, fm, fs, hG, hr⟩ := id hL
  have hb := hI.b
  have sm : Same M M a (a + 7) := Same.rf
  have hs9 := hI.s hs
  obtain ⟨hs1, hs2, -⟩ := id hs9
  have q1 := hI.c hc
  have q2 := hI.c hs1
  obtain ⟨hw1, hw2, hw3⟩ := hw
  have q7 : P 7 ≤ 24 := hb.2.2.2.2.1
  have q6 : P 6 ≤ 6 := hb.2.2.2.1
  refine Run.of (l0 := [some (.ref a), some (.int (nI m)), some (.int (nI s)), some (.int (nI c)), none, none]) (by decide +kernel) (Nat.le_of_ble_eq_true rfl) (by rfl) (fun Γ G C => ?_)
  refine pw_aload_n (q := 1) (j := 0) C dX2_recutStone_0 rfl rfl rfl ?_
  refine pw_getf (q := 4) C dX2_recutStone_1 fX2_14 hG.1 (by rfl) rfl ?_
  refine pw_aload_n (q := 5) (j := 0) C dX2_recutStone_4 rfl rfl rfl ?_
  refine pw_getf (q := 8) C dX2_recutStone_5 fX2_23 hG.1 (by rfl) rfl ?_
  refine pw_iload_n (q := 9) (j := 2) C dX2_recutStone_8 rfl rfl rfl ?_
  refine pw_iconst_n (q := 10) C 0 dX2_recutStone_9 (by decide +kernel) rfl ?_
  refine pw_rd (q := 13) (cr_v (j := iX8_get) C dX2_recutStone_10 lX2_58 mX8_get (ro_mk (by decide) (by decide)) hG.2.2.2.1 rfl (g_s0 hG hr (by first | assumption | omega)) rfl rfl (Nat.le_of_ble_eq_true rfl) ⟨by omega, by omega⟩) rfl ?_
  refine pw_iconst_n (q := 14) C 0 dX2_recutStone_13 (by decide +kernel) rfl ?_
  refine pw_rd (q := 17) (cr_v (j := iX8_get) C dX2_recutStone_14 lX2_58 mX8_get (ro_mk (by decide) (by decide)) hG.2.1.1 rfl (g_c0 hG hr (by first | assumption | omega)) rfl rfl (Nat.le_of_ble_eq_true rfl) ⟨by omega, by omega⟩) rfl ?_
  refine pw_aload_n (q := 18) (j := 0) C dX2_recutStone_17 rfl rfl rfl ?_
  refine pw_getf (q := 21) C dX2_recutStone_18 fX2_14 hG.1 (by rfl) rfl ?_
  refine pw_iload_n (q := 22) (j := 3) C dX2_recutStone_21 rfl rfl rfl ?_
  refine pw_iconst_n (q := 23) C 0 dX2_recutStone_22 (by decide +kernel) rfl ?_
  refine pw_rd (q := 26) (cr_v (j := iX8_get) C dX2_recutStone_23 lX2_58 mX8_get (ro_mk (by decide) (by decide)) hG.2.1.1 rfl (g_c0 hG hr (by first | assumption | omega)) rfl rfl (Nat.le_of_ble_eq_true rfl) ⟨by omega, by omega⟩) rfl ?_
  refine pw_isub_n (q := 27) C dX2_recutStone_26 (by omega) rfl ?_
  refine pw_istore (q := 29) C dX2_recutStone_27 rfl (by decide) rfl ?_
  refine pw_iconst_n (q := 30) C 0 dX2_recutStone_29 (by decide +kernel) rfl ?_
  refine pw_aload_n (q := 31) (j := 0) C dX2_recutStone_30 rfl rfl rfl ?_
  refine pw_getf (q := 34) C dX2_recutStone_31 fX2_23 hG.1 (by rfl) rfl ?_
  refine pw_iload_n (q := 35) (j := 2) C dX2_recutStone_34 rfl rfl rfl ?_
  refine pw_iconst_n (q := 36) C 2 dX2_recutStone_35 (by decide +kernel) rfl ?_
  refine pw_rd (q := 39) (cr_v (j := iX8_get) C dX2_recutStone_36 lX2_58 mX8_get (ro_mk (by decide) (by decide)) hG.2.2.2.1 rfl (g_s hG hr (by first | assumption | omega) (by omega)) rfl rfl (Nat.le_of_ble_eq_true rfl) ⟨by omega, by omega⟩) rfl ?_
  refine pw_iload (q := 41) C dX2_recutStone_39 rfl rfl ?_
  refine pw_isub (q := 42) C dX2_recutStone_41 rfl ?_
  refine pw_max (rest := []) (q := 45) C dX2_recutStone_42 lX2_62 mMmax.1 mMmax.2.1 mMmax.2.2 ⟨by decide, Nat.le_of_ble_eq_true rfl⟩ ⟨by omega, by omega⟩ rfl ?_
  rw [max0 (by omega) (by omega)]
  refine pw_istore (q := 47) C dX2_recutStone_45 rfl (by decide) rfl ?_
  refine pw_aload_n (q := 48) (j := 0) C dX2_recutStone_47 rfl rfl rfl ?_
  refine pw_getf (q := 51) C dX2_recutStone_48 fX2_20 hG.1 (by rfl) rfl ?_
  refine pw_iload_n (q := 52) (j := 1) C dX2_recutStone_51 rfl rfl rfl ?_
  refine pw_iconst_n (q := 53) C 2 dX2_recutStone_52 (by decide +kernel) rfl ?_
  refine pw_aload_n (q := 54) (j := 0) C dX2_recutStone_53 rfl rfl rfl ?_
  refine pw_iload_n (q := 55) (j := 3) C dX2_recutStone_54 rfl rfl rfl ?_
  refine pw_rd (q := 58) (cr_v (j := iX2_workToRecut) C dX2_recutStone_55 lX2_103 mX2_workToRecut (ro_mk (by decide) (by decide)) hG.1 rfl (k_workTo hL hI (by first | assumption | omega)) rfl rfl (Nat.le_of_ble_eq_true rfl) ⟨by omega, by omega⟩) rfl ?_
  refine pw_ineg (q := 59) C dX2_recutStone_58 rfl ?_
  refine pw_void (q := 62) (cr_v (j := iX8_increase) C dX2_recutStone_59 lX2_89 mX8_increase (ro_mk (by decide) (by decide)) hG.2.2.1.1 rfl (i_m hL (P (26 + 4 * m + 2) - (P (8 + 3 * c + 1) + 1) / 2) hm (by omega) (nI_subI hw3)) rfl rfl (Nat.le_of_ble_eq_true rfl) ⟨by omega, by omega⟩) rfl (fun M59 e59 => ?_)
  obtain ⟨hL, sm9⟩ := e59
  have sm := sm.tr sm9
  obtain ⟨fc, fm, fs, hG, hr⟩ := id hL
  refine pw_aload_n (q := 63) (j := 0) C dX2_recutStone_62 rfl rfl rfl ?_
  refine pw_getf (q := 66) C dX2_recutStone_63 fX2_23 hG.1 (by rfl) rfl ?_
  refine pw_iload_n (q := 67) (j := 2) C dX2_recutStone_66 rfl rfl rfl ?_
  refine pw_iconst_n (q := 68) C 0 dX2_recutStone_67 (by decide +kernel) rfl ?_
  refine pw_iload_n (q := 69) (j := 3) C dX2_recutStone_68 rfl rfl rfl ?_
  refine pw_void (q := 72) (cr_v (j := iX8_put) C dX2_recutStone_69 lX2_73 mX8_put (ro_mk (by decide) (by decide)) hG.2.2.2.1 rfl (p_s (j := 0) hL c (by rw [updN_ne (show 7 ≠ 26 + 4 * m + 2 by omega)]; exact hs) (by omega)) rfl rfl (Nat.le_of_ble_eq_true rfl) ⟨by omega, by omega⟩) rfl (fun M69 e69 => ?_)
  obtain ⟨hL, sm9⟩ := e69
  have sm := sm.tr sm9
  obtain ⟨fc, fm, fs, hG, hr⟩ := id hL
  refine pw_aload_n (q := 73) (j := 0) C dX2_recutStone_72 rfl rfl rfl ?_
  refine pw_getf (q := 76) C dX2_recutStone_73 fX2_23 hG.1 (by rfl) rfl ?_
  refine pw_iload_n (q := 77) (j := 2) C dX2_recutStone_76 rfl rfl rfl ?_
  refine pw_iconst_n (q := 78) C 1 dX2_recutStone_77 (by decide +kernel) rfl ?_
  refine pw_iload_n (q := 79) (j := 1) C dX2_recutStone_78 rfl rfl rfl ?_
  refine pw_void (q := 82) (cr_v (j := iX8_put) C dX2_recutStone_79 lX2_73 mX8_put (ro_mk (by decide) (by decide)) hG.2.2.2.1 rfl (p_s (P := updN (updN P (26 + 4 * m + 2) (P (26 + 4 * m + 2) - (P (8 + 3 * c + 1) + 1) / 2)) (50 + 6 * s) c) hL m (by rw [updN_ne (show 7 ≠ 50 + 6 * s by omega)]; rw [updN_ne (show 7 ≠ 26 + 4 * m + 2 by omega)]; exact hs) (by omega)) rfl rfl (Nat.le_of_ble_eq_true rfl) ⟨by omega, by omega⟩) rfl (fun M79 e79 => ?_)
  obtain ⟨hL, sm9⟩ := e79
  have sm := sm.tr sm9
  obtain ⟨fc, fm, fs, hG, hr⟩ := id hL
  refine pw_aload_n (q := 83) (j := 0) C dX2_recutStone_82 rfl rfl rfl ?_
  refine pw_getf (q := 86) C dX2_recutStone_83 fX2_23 hG.1 (by rfl) rfl ?_
  refine pw_iload_n (q := 87) (j := 2) C dX2_recutStone_86 rfl rfl rfl ?_
  refine pw_iconst_n (q := 88) C 2 dX2_recutStone_87 (by decide +kernel) rfl ?_
  refine pw_iload (q := 90) C dX2_recutStone_88 rfl rfl ?_
  refine pw_void (q := 93) (cr_v (j := iX8_put) C dX2_recutStone_90 lX2_73 mX8_put (ro_mk (by decide) (by decide)) hG.2.2.2.1 rfl (p_s (P := updN (updN (updN P (26 + 4 * m + 2) (P (26 + 4 * m + 2) - (P (8 + 3 * c + 1) + 1) / 2)) (50 + 6 * s) c) (50 + 6 * s + 1) m) hL (recutF P s c) (by rw [updN_ne (show 7 ≠ 50 + 6 * s + 1 by omega)]; rw [updN_ne (show 7 ≠ 50 + 6 * s by omega)]; rw [updN_ne (show 7 ≠ 26 + 4 * m + 2 by omega)]; exact hs) (by omega)) rfl rfl (Nat.le_of_ble_eq_true rfl) ⟨by omega, by omega⟩) rfl (fun M90 e90 => ?_)
  obtain ⟨hL, sm9⟩ := e90
  have sm := sm.tr sm9
  obtain ⟨fc, fm, fs, hG, hr⟩ := id hL
  refine pw_aload_n (q := 94) (j := 0) C dX2_recutStone_93 rfl rfl rfl ?_
  refine pw_getf (q := 97) C dX2_recutStone_94 fX2_23 hG.1 (by rfl) rfl ?_
  refine pw_iload_n (q := 98) (j := 2) C dX2_recutStone_97 rfl rfl rfl ?_
  refine pw_iconst_n (q := 99) C 3 dX2_recutStone_98 (by decide +kernel) rfl ?_
  refine pw_iconst_n (q := 100) C 0 dX2_recutStone_99 (by decide +kernel) rfl ?_
  refine pw_void (q := 103) (cr_v (j := iX8_put) C dX2_recutStone_100 lX2_73 mX8_put (ro_mk (by decide) (by decide)) hG.2.2.2.1 rfl (p_s (P := updN (updN (updN (updN P (26 + 4 * m + 2) (P (26 + 4 * m + 2) - (P (8 + 3 * c + 1) + 1) / 2)) (50 + 6 * s) c) (50 + 6 * s + 1) m) (50 + 6 * s + 2) (recutF P s c)) hL 0 (by rw [updN_ne (show 7 ≠ 50 + 6 * s + 2 by omega)]; rw [updN_ne (show 7 ≠ 50 + 6 * s + 1 by omega)]; rw [updN_ne (show 7 ≠ 50 + 6 * s by omega)]; rw [updN_ne (show 7 ≠ 26 + 4 * m + 2 by omega)]; exact hs) (by omega)) rfl rfl (Nat.le_of_ble_eq_true rfl) ⟨by omega, by omega⟩) rfl (fun M100 e100 => ?_)
  obtain ⟨hL, sm9⟩ := e100
  have sm := sm.tr sm9
  obtain ⟨fc, fm, fs, hG, hr⟩ := id hL
  refine pw_aload_n (q := 104) (j := 0) C dX2_recutStone_103 rfl rfl rfl ?_
  refine pw_getf (q := 107) C dX2_recutStone_104 fX2_23 hG.1 (by rfl) rfl ?_
  refine pw_iload_n (q := 108) (j := 2) C dX2_recutStone_107 rfl rfl rfl ?_
  refine pw_iconst_n (q := 109) C 4 dX2_recutStone_108 (by decide +kernel) rfl ?_
  refine pw_iconst_n (q := 110) C 1 dX2_recutStone_109 (by decide +kernel) rfl ?_
  refine pw_void (q := 113) (cr_v (j := iX8_increase) C dX2_recutStone_110 lX2_89 mX8_increase (ro_mk (by decide) (by decide)) hG.2.2.2.1 rfl (i_s (P := updN (updN (updN (updN (updN P (26 + 4 * m + 2) (P (26 + 4 * m + 2) - (P (8 + 3 * c + 1) + 1) / 2)) (50 + 6 * s) c) (50 + 6 * s + 1) m) (50 + 6 * s + 2) (recutF P s c)) (50 + 6 * s + 3) 0) hL (P (50 + 6 * s + 4) + 1) (by rw [updN_ne (show 7 ≠ 50 + 6 * s + 3 by omega)]; rw [updN_ne (show 7 ≠ 50 + 6 * s + 2 by omega)]; rw [updN_ne (show 7 ≠ 50 + 6 * s + 1 by omega)]; rw [updN_ne (show 7 ≠ 50 + 6 * s by omega)]; rw [updN_ne (show 7 ≠ 26 + 4 * m + 2 by omega)]; exact hs) (by omega) (by rw [updN_ne (show 50 + 6 * s + 4 ≠ 50 + 6 * s + 3 by omega)]; rw [updN_ne (show 50 + 6 * s + 4 ≠ 50 + 6 * s + 2 by omega)]; rw [updN_ne (show 50 + 6 * s + 4 ≠ 50 + 6 * s + 1 by omega)]; rw [updN_ne (show 50 + 6 * s + 4 ≠ 50 + 6 * s by omega)]; rw [updN_ne (show 50 + 6 * s + 4 ≠ 26 + 4 * m + 2 by omega)]; exact nI_1 _)) rfl rfl (Nat.le_of_ble_eq_true rfl) ⟨by omega, by omega⟩) rfl (fun M110 e110 => ?_)
  obtain ⟨hL, sm9⟩ := e110
  have sm := sm.tr sm9
  obtain ⟨fc, fm, fs, hG, hr⟩ := id hL
  refine pw_iload (q := 115) C dX2_recutStone_113 rfl rfl ?_
  exact pw_iret C dX2_recutStone_115 rfl ⟨by omega, by omega⟩ (RV.mk (by rfl) ⟨hL, sm⟩)
set_option maxHeartbeats 200000 in
set_option maxRecDepth 100000 in
theorem w_day {M : PH} {a : Nat} {P : Nat → Nat} (hL : LodgeAt M a P) (hI : Inv P) {fr : Nat} (hfr : fr ≤ 1) : Run iX2_beginDay [.ref a, .int (nI fr)] M 0 0 (RV (.int (nI (P 1 + 1))) (fun M1 => LodgeAt M1 a (dayP P fr) ∧ Same M M1 a (a + 7))) := by
  obtain ⟨fc, fm, fs, hG, hr⟩ := id hL
  have hb := hI.b
  have sm : Same M M a (a + 7) := Same.rf
  refine Run.of (l0 := [some (.ref a), some (.int (nI fr)), none]) (by decide +kernel) (Nat.le_of_ble_eq_true rfl) (by rfl) (fun Γ G C => ?_)
  have e6 : (updN (updN P 1 (P 1 + 1)) 2 fr) 6 = P 6 := by rw [updN_ne (show 6 ≠ 2 by omega), updN_ne (show 6 ≠ 1 by omega)]
  have loop : ∀ (d m : Nat), m + d = P 6 → ∀ (M2 : PH) (x2 : Option Value), fr = 1 → LodgeAt M2 a (owedAt (updN (workAt (updN (updN P 1 (P 1 + 1)) 2 fr) (P 6)) 4 (P 4 + 1)) m) → Same M M2 a (a + 7) → PW Γ G (ZJ Γ G 0 0 (RV (.int (nI (P 1 + 1))) (fun M1 => LodgeAt M1 a (dayP P fr) ∧ Same M M1 a (a + 7)))) 35 [some (.ref a), some (.int (nI fr)), some (.int (nI m))] [] M2 0 0 := by
    intro d
    induction d with
    | zero =>
      intro m hd
      intro M2 x2 h1 hL sm
      obtain ⟨fc, fm, fs, hG, hr⟩ := id hL
      have p6 : owedAt (updN (workAt (updN (updN P 1 (P 1 + 1)) 2 fr) (P 6)) 4 (P 4 + 1)) m 6 = P 6 := by rw [owedAt_ne (by omega), updN_ne (show 6 ≠ 4 by omega), workAt_ne (by omega)]; exact e6
      have p1 : owedAt (updN (workAt (updN (updN P 1 (P 1 + 1)) 2 fr) (P 6)) 4 (P 4 + 1)) m 1 = P 1 + 1 := by rw [owedAt_ne (by omega), updN_ne (show 1 ≠ 4 by omega), workAt_ne (by omega), updN_ne (show 1 ≠ 2 by omega), updN_at]
      have pk : ∀ k, 26 ≤ k → (k - 26) % 4 ≠ 2 → (updN (workAt (updN (updN P 1 (P 1 + 1)) 2 fr) (P 6)) 4 (P 4 + 1)) k = P k := fun k h2 h3 => by rw [updN_ne (show k ≠ 4 by omega), workAt_ne (by omega), updN_ne (show k ≠ 2 by omega), updN_ne (show k ≠ 1 by omega)]
      refine pw_iload_n (q := 36) (j := 2) C dX2_beginDay_35 rfl rfl rfl ?_
      refine pw_aload_n (q := 37) (j := 0) C dX2_beginDay_36 rfl rfl rfl ?_
      refine pw_getf (q := 40) C dX2_beginDay_37 fX2_20 hG.1 (by rfl) rfl ?_
      refine pw_rd (q := 43) (cr_v (j := iX8_size) C dX2_beginDay_40 lX2_50 mX8_size (ro_mk (by decide) (by decide)) hG.2.2.1.1 rfl (k_size hG.2.2.1) rfl rfl (Nat.le_of_ble_eq_true rfl) ⟨by omega, by omega⟩) rfl ?_
      rw [p6]
      refine pw_icmp_ge_n (q := 46) 72 C dX2_beginDay_43 (by decide) rfl (by omega) (by omega) (fun g43 => ?_) (fun g43 => absurd g43 (by omega))
      refine pw_aload_n (q := 73) (j := 0) C dX2_beginDay_72 rfl rfl rfl ?_
      refine pw_getf (q := 76) C dX2_beginDay_73 fX2_33 hG.1 (by rfl) rfl ?_
      exact pw_iret C dX2_beginDay_76 rfl ⟨by omega, by omega⟩ (RV.mk (vnI p1) ⟨by subst h1; rw [← dayP_of, ← show m = P 6 by omega]; rw [show m = P 6 by omega] at hL ⊢; exact hL, sm⟩)
    | succ d ih =>
      intro m hd
      intro M2 x2 h1 hL sm
      obtain ⟨fc, fm, fs, hG, hr⟩ := id hL
      have p6 : owedAt (updN (workAt (updN (updN P 1 (P 1 + 1)) 2 fr) (P 6)) 4 (P 4 + 1)) m 6 = P 6 := by rw [owedAt_ne (by omega), updN_ne (show 6 ≠ 4 by omega), workAt_ne (by omega)]; exact e6
      have p1 : owedAt (updN (workAt (updN (updN P 1 (P 1 + 1)) 2 fr) (P 6)) 4 (P 4 + 1)) m 1 = P 1 + 1 := by rw [owedAt_ne (by omega), updN_ne (show 1 ≠ 4 by omega), workAt_ne (by omega), updN_ne (show 1 ≠ 2 by omega), updN_at]
      have pk : ∀ k, 26 ≤ k → (k - 26) % 4 ≠ 2 → (updN (workAt (updN (updN P 1 (P 1 + 1)) 2 fr) (P 6)) 4 (P 4 + 1)) k = P k := fun k h2 h3 => by rw [updN_ne (show k ≠ 4 by omega), workAt_ne (by omega), updN_ne (show k ≠ 2 by omega), updN_ne (show k ≠ 1 by omega)]
      have q9 := hI.m (show m < P 6 by omega)
      refine pw_iload_n (q := 36) (j := 2) C dX2_beginDay_35 rfl rfl rfl ?_
      refine pw_aload_n (q := 37) (j := 0) C dX2_beginDay_36 rfl rfl rfl ?_
      refine pw_getf (q := 40) C dX2_beginDay_37 fX2_20 hG.1 (by rfl) rfl ?_
      refine pw_rd (q := 43) (cr_v (j := iX8_size) C dX2_beginDay_40 lX2_50 mX8_size (ro_mk (by decide) (by decide)) hG.2.2.1.1 rfl (k_size hG.2.2.1) rfl rfl (Nat.le_of_ble_eq_true rfl) ⟨by omega, by omega⟩) rfl ?_
      rw [p6]
      refine pw_icmp_ge_n (q := 46) 72 C dX2_beginDay_43 (by decide) rfl (by omega) (by omega) (fun g43 => absurd g43 (by omega)) (fun g43 => ?_)
      refine pw_aload_n (q := 47) (j := 0) C dX2_beginDay_46 rfl rfl rfl ?_
      refine pw_getf (q := 50) C dX2_beginDay_47 fX2_20 hG.1 (by rfl) rfl ?_
      refine pw_iload_n (q := 51) (j := 2) C dX2_beginDay_50 rfl rfl rfl ?_
      refine pw_iconst_n (q := 52) C 3 dX2_beginDay_51 (by decide +kernel) rfl ?_
      refine pw_iconst_n (q := 53) C 2 dX2_beginDay_52 (by decide +kernel) rfl ?_
      refine pw_aload_n (q := 54) (j := 0) C dX2_beginDay_53 rfl rfl rfl ?_
      refine pw_getf (q := 57) C dX2_beginDay_54 fX2_20 hG.1 (by rfl) rfl ?_
      refine pw_iload_n (q := 58) (j := 2) C dX2_beginDay_57 rfl rfl rfl ?_
      refine pw_iconst_n (q := 59) C 0 dX2_beginDay_58 (by decide +kernel) rfl ?_
      refine pw_rd (q := 62) (cr_v (j := iX8_get) C dX2_beginDay_59 lX2_58 mX8_get (ro_mk (by decide) (by decide)) hG.2.2.1.1 rfl (g_m0 (P := owedAt (updN (workAt (updN (updN P 1 (P 1 + 1)) 2 fr) (P 6)) 4 (P 4 + 1)) m) hG hr (by rw [p6]; omega)) rfl rfl (Nat.le_of_ble_eq_true rfl) ⟨by omega, by omega⟩) rfl ?_
      rw [owedAt_ne (P := updN (workAt (updN (updN P 1 (P 1 + 1)) 2 fr) (P 6)) 4 (P 4 + 1)) (show ¬ (26 ≤ 26 + 4 * m ∧ 26 + 4 * m < 26 + 4 * m ∧ (26 + 4 * m - 26) % 4 = 3) by omega), pk _ (by omega) (by omega)]
      refine pw_imul_n (q := 63) C dX2_beginDay_62 rfl ?_
      refine pw_void (q := 66) (cr_v (j := iX8_increase) C dX2_beginDay_63 lX2_89 mX8_increase (ro_mk (by decide) (by decide)) hG.2.2.1.1 rfl (i_m (P := owedAt (updN (workAt (updN (updN P 1 (P 1 + 1)) 2 fr) (P 6)) 4 (P 4 + 1)) m) hL (P (26 + 4 * m + 3) + 2 * P (26 + 4 * m)) (by rw [p6]; omega) (by omega) (by rw [owedAt_ne (by omega), pk _ (by omega) (by omega), nI_add])) rfl rfl (Nat.le_of_ble_eq_true rfl) ⟨by omega, by omega⟩) rfl (fun M63 e63 => ?_)
      obtain ⟨hL, sm9⟩ := e63
      have sm := sm.tr sm9
      obtain ⟨fc, fm, fs, hG, hr⟩ := id hL
      refine pw_iinc_n (q := 69) C 1 dX2_beginDay_66 rfl (by decide +kernel) rfl (by decide) rfl ?_
      refine pw_goto (q := 0) 35 C dX2_beginDay_69 (by decide) ?_
      exact ih (m + 1) (by omega) _ none h1 (by rw [← owedAt_succ, pk (26 + 4 * m + 3) (by omega) (by omega), pk (26 + 4 * m) (by omega) (by omega)]; exact hL) sm
  refine pw_aload_n (q := 1) (j := 0) C dX2_beginDay_0 rfl rfl rfl ?_
  refine pw_dup (q := 2) C dX2_beginDay_1 rfl rfl ?_
  refine pw_getf (q := 5) C dX2_beginDay_2 fX2_33 hG.1 (by rfl) rfl ?_
  refine pw_iconst_n (q := 6) C 1 dX2_beginDay_5 (by decide +kernel) rfl ?_
  refine pw_iadd_n (q := 7) C dX2_beginDay_6 rfl ?_
  refine pw_put (q := 10) C dX2_beginDay_7 fX2_33 hG.1 (by rfl) (by rfl) (Nat.le_of_ble_eq_true rfl) rfl ?_
  refine pw_heap (fun M9 => LodgeAt M9 a (updN (P) 1 (P 1 + 1)) ∧ Same M M9 a (a + 7)) ⟨hL.sc 1 (P 1 + 1) (by omega), sm.tr (Same.put (by omega) (by omega))⟩ (fun M9 ⟨hL, sm⟩ => ?_)
  obtain ⟨fc, fm, fs, hG, hr⟩ := id hL
  refine pw_aload_n (q := 11) (j := 0) C dX2_beginDay_10 rfl rfl rfl ?_
  refine pw_iload_n (q := 12) (j := 1) C dX2_beginDay_11 rfl rfl rfl ?_
  refine pw_put (q := 15) C dX2_beginDay_12 fX2_36 hG.1 (nar_01 hfr) (fit_01 hfr) (Nat.le_of_ble_eq_true rfl) rfl ?_
  refine pw_heap (fun M9 => LodgeAt M9 a (updN (updN P 1 (P 1 + 1)) 2 (fr)) ∧ Same M M9 a (a + 7)) ⟨hL.sc 2 (fr) (by omega), sm.tr (Same.put (by omega) (by omega))⟩ (fun M9 ⟨hL, sm⟩ => ?_)
  obtain ⟨fc, fm, fs, hG, hr⟩ := id hL
  refine pw_aload_n (q := 16) (j := 0) C dX2_beginDay_15 rfl rfl rfl ?_
  refine pw_void (q := 19) (cr_v (j := iX2_handOutWork) C dX2_beginDay_16 lX2_112 mX2_handOutWork (ro_mk (by decide) (by decide)) hG.1 rfl (w_handOut (P := updN (updN P 1 (P 1 + 1)) 2 fr) hL (by rw [updN_at]; exact hfr) (fun m hm => by rw [e6] at hm; rw [updN_ne (show 26 + 4 * m + 1 ≠ 2 by omega), updN_ne (show 26 + 4 * m + 1 ≠ 1 by omega)]; exact (hI.m hm).2.2.2.1)) rfl rfl (Nat.le_of_ble_eq_true rfl) ⟨by omega, by omega⟩) rfl (fun M16 e16 => ?_)
  rw [e6] at e16
  obtain ⟨hL, sm9⟩ := e16
  have sm := sm.tr sm9
  obtain ⟨fc, fm, fs, hG, hr⟩ := id hL
  refine pw_iload_n (q := 20) (j := 1) C dX2_beginDay_19 rfl rfl rfl ?_
  refine pw_if_eq_n (q := 23) 72 C dX2_beginDay_20 (by decide) rfl (by omega) (fun g20 => ?_) (fun g20 => ?_)
  · refine pw_aload_n (q := 73) (j := 0) C dX2_beginDay_72 rfl rfl rfl ?_
    refine pw_getf (q := 76) C dX2_beginDay_73 fX2_33 hG.1 (by rfl) rfl ?_
    exact pw_iret C dX2_beginDay_76 rfl ⟨by omega, by omega⟩ (RV.mk (vnI (by rw [workAt_ne (by omega), updN_ne (show 1 ≠ 2 by omega), updN_at])) ⟨by rw [← show 0 = fr by omega, ← dayP_of0]; rw [← show 0 = fr by omega] at hL; exact hL, sm⟩)
  · refine pw_aload_n (q := 24) (j := 0) C dX2_beginDay_23 rfl rfl rfl ?_
    refine pw_dup (q := 25) C dX2_beginDay_24 rfl rfl ?_
    have p4 : (workAt (updN (updN P 1 (P 1 + 1)) 2 fr) (P 6)) 4 = P 4 := by rw [workAt_ne (by omega), updN_ne (show 4 ≠ 2 by omega), updN_ne (show 4 ≠ 1 by omega)]
    refine pw_getf (q := 28) C dX2_beginDay_25 fX2_43 hG.1 (by rfl) rfl ?_
    rw [p4]
    refine pw_iconst_n (q := 29) C 1 dX2_beginDay_28 (by decide +kernel) rfl ?_
    refine pw_iadd_n (q := 30) C dX2_beginDay_29 rfl ?_
    refine pw_put (q := 33) C dX2_beginDay_30 fX2_43 hG.1 (by rfl) (by rfl) (Nat.le_of_ble_eq_true rfl) rfl ?_
    refine pw_heap (fun M9 => LodgeAt M9 a (updN (workAt (updN (updN P 1 (P 1 + 1)) 2 fr) (P 6)) 4 (P 4 + 1)) ∧ Same M M9 a (a + 7)) ⟨hL.sc 4 (P 4 + 1) (by omega), sm.tr (Same.put (by omega) (by omega))⟩ (fun M9 ⟨hL, sm⟩ => ?_)
    obtain ⟨fc, fm, fs, hG, hr⟩ := id hL
    refine pw_iconst_n (q := 34) C 0 dX2_beginDay_33 (by decide +kernel) rfl ?_
    refine pw_istore_n (q := 35) (j := 2) C dX2_beginDay_34 rfl rfl (by decide) rfl ?_
    exact loop (P 6) 0 (by omega) _ none (by omega) (by rw [owedAt_0]; exact hL) sm
set_option maxHeartbeats 200000 in
set_option maxRecDepth 100000 in
theorem w_makeNew {M : PH} {a : Nat} {P : Nat → Nat} (hL : LodgeAt M a P)  : Run iX2_makeNew [.ref a] M 0 0 (RN (fun M1 => LodgeAt M1 a (newP) ∧ Same M M1 a (a + 7))) := by
  obtain ⟨fc, fm, fs, hG, hr⟩ := id hL
  have hb := hL.bd
  have sm : Same M M a (a + 7) := Same.rf
  refine Run.of (l0 := [some (.ref a)]) (by decide +kernel) (Nat.le_of_ble_eq_true rfl) (by rfl) (fun Γ G C => ?_)
  refine pw_aload_n (q := 1) (j := 0) C dX2_makeNew_0 rfl rfl rfl ?_
  refine pw_getf (q := 4) C dX2_makeNew_1 fX2_14 hG.1 (by rfl) rfl ?_
  refine pw_void (q := 7) (cr_v (j := iX8_removeAll) C dX2_makeNew_4 lX2_30 mX8_removeAll (ro_mk (by decide) (by decide)) hG.2.1.1 rfl (z_c hL) rfl rfl (Nat.le_of_ble_eq_true rfl) ⟨by omega, by omega⟩) rfl (fun M4 e4 => ?_)
  obtain ⟨hL, sm9⟩ := e4
  have sm := sm.tr sm9
  obtain ⟨fc, fm, fs, hG, hr⟩ := id hL
  refine pw_aload_n (q := 8) (j := 0) C dX2_makeNew_7 rfl rfl rfl ?_
  refine pw_getf (q := 11) C dX2_makeNew_8 fX2_20 hG.1 (by rfl) rfl ?_
  refine pw_void (q := 14) (cr_v (j := iX8_removeAll) C dX2_makeNew_11 lX2_30 mX8_removeAll (ro_mk (by decide) (by decide)) hG.2.2.1.1 rfl (z_m hL) rfl rfl (Nat.le_of_ble_eq_true rfl) ⟨by omega, by omega⟩) rfl (fun M11 e11 => ?_)
  obtain ⟨hL, sm9⟩ := e11
  have sm := sm.tr sm9
  obtain ⟨fc, fm, fs, hG, hr⟩ := id hL
  refine pw_aload_n (q := 15) (j := 0) C dX2_makeNew_14 rfl rfl rfl ?_
  refine pw_getf (q := 18) C dX2_makeNew_15 fX2_23 hG.1 (by rfl) rfl ?_
  refine pw_void (q := 21) (cr_v (j := iX8_removeAll) C dX2_makeNew_18 lX2_30 mX8_removeAll (ro_mk (by decide) (by decide)) hG.2.2.2.1 rfl (z_s hL) rfl rfl (Nat.le_of_ble_eq_true rfl) ⟨by omega, by omega⟩) rfl (fun M18 e18 => ?_)
  obtain ⟨hL, sm9⟩ := e18
  have sm := sm.tr sm9
  obtain ⟨fc, fm, fs, hG, hr⟩ := id hL
  refine pw_aload_n (q := 22) (j := 0) C dX2_makeNew_21 rfl rfl rfl ?_
  refine pw_iconst_n (q := 23) C 0 dX2_makeNew_22 (by decide +kernel) rfl ?_
  refine pw_put (q := 26) C dX2_makeNew_23 fX2_33 hG.1 (by rfl) (by rfl) (Nat.le_of_ble_eq_true rfl) rfl ?_
  refine pw_heap (fun M9 => LodgeAt M9 a (updN (updN (updN (updN P 5 0) 6 0) 7 0) 1 (0)) ∧ Same M M9 a (a + 7)) ⟨hL.sc 1 (0) (by omega), sm.tr (Same.put (by omega) (by omega))⟩ (fun M9 ⟨hL, sm⟩ => ?_)
  obtain ⟨fc, fm, fs, hG, hr⟩ := id hL
  refine pw_aload_n (q := 27) (j := 0) C dX2_makeNew_26 rfl rfl rfl ?_
  refine pw_iconst_n (q := 28) C 0 dX2_makeNew_27 (by decide +kernel) rfl ?_
  refine pw_put (q := 31) C dX2_makeNew_28 fX2_36 hG.1 (nar_01 (a := 0) (by omega)) (fit_01 (a := 0) (by omega)) (Nat.le_of_ble_eq_true rfl) rfl ?_
  refine pw_heap (fun M9 => LodgeAt M9 a (updN (updN (updN (updN (updN P 5 0) 6 0) 7 0) 1 0) 2 (0)) ∧ Same M M9 a (a + 7)) ⟨hL.sc 2 (0) (by omega), sm.tr (Same.put (by omega) (by omega))⟩ (fun M9 ⟨hL, sm⟩ => ?_)
  obtain ⟨fc, fm, fs, hG, hr⟩ := id hL
  refine pw_aload_n (q := 32) (j := 0) C dX2_makeNew_31 rfl rfl rfl ?_
  refine pw_iconst_n (q := 33) C 3 dX2_makeNew_32 (by decide +kernel) rfl ?_
  refine pw_put (q := 36) C dX2_makeNew_33 fX2_26 hG.1 (by rfl) (by rfl) (Nat.le_of_ble_eq_true rfl) rfl ?_
  refine pw_heap (fun M9 => LodgeAt M9 a (updN (updN (updN (updN (updN (updN P 5 0) 6 0) 7 0) 1 0) 2 0) 0 (3)) ∧ Same M M9 a (a + 7)) ⟨hL.sc 0 (3) (by omega), sm.tr (Same.put (by omega) (by omega))⟩ (fun M9 ⟨hL, sm⟩ => ?_)
  obtain ⟨fc, fm, fs, hG, hr⟩ := id hL
  refine pw_aload_n (q := 37) (j := 0) C dX2_makeNew_36 rfl rfl rfl ?_
  refine pw_iconst_n (q := 38) C 0 dX2_makeNew_37 (by decide +kernel) rfl ?_
  refine pw_put (q := 41) C dX2_makeNew_38 fX2_40 hG.1 (by rfl) (by rfl) (Nat.le_of_ble_eq_true rfl) rfl ?_
  refine pw_heap (fun M9 => LodgeAt M9 a (updN (updN (updN (updN (updN (updN (updN P 5 0) 6 0) 7 0) 1 0) 2 0) 0 3) 3 (0)) ∧ Same M M9 a (a + 7)) ⟨hL.sc 3 (0) (by omega), sm.tr (Same.put (by omega) (by omega))⟩ (fun M9 ⟨hL, sm⟩ => ?_)
  obtain ⟨fc, fm, fs, hG, hr⟩ := id hL
  refine pw_aload_n (q := 42) (j := 0) C dX2_makeNew_41 rfl rfl rfl ?_
  refine pw_iconst_n (q := 43) C 0 dX2_makeNew_42 (by decide +kernel) rfl ?_
  refine pw_put (q := 46) C dX2_makeNew_43 fX2_43 hG.1 (by rfl) (by rfl) (Nat.le_of_ble_eq_true rfl) rfl ?_
  refine pw_heap (fun M9 => LodgeAt M9 a (updN (updN (updN (updN (updN (updN (updN (updN P 5 0) 6 0) 7 0) 1 0) 2 0) 0 3) 3 0) 4 (0)) ∧ Same M M9 a (a + 7)) ⟨hL.sc 4 (0) (by omega), sm.tr (Same.put (by omega) (by omega))⟩ (fun M9 ⟨hL, sm⟩ => ?_)
  obtain ⟨fc, fm, fs, hG, hr⟩ := id hL
  exact pw_vret C dX2_makeNew_46 rfl ⟨by omega, by omega⟩ (RN.mk ⟨hL.cong (fun k hk => by rcases (show k = 0 ∨ k = 1 ∨ k = 2 ∨ k = 3 ∨ k = 4 ∨ k = 5 ∨ k = 6 ∨ k = 7 by omega) with rfl | rfl | rfl | rfl | rfl | rfl | rfl | rfl <;> rfl) (fun k h1 h2 => by have e5 : (updN (updN (updN (updN (updN (updN (updN (updN P 5 0) 6 0) 7 0) 1 0) 2 0) 0 3) 3 0) 4 0) 5 = 0 := rfl; rw [e5] at h2; omega) (fun k h1 h2 => by have e5 : (updN (updN (updN (updN (updN (updN (updN (updN P 5 0) 6 0) 7 0) 1 0) 2 0) 0 3) 3 0) 4 0) 6 = 0 := rfl; rw [e5] at h2; omega) (fun k h1 h2 => by have e5 : (updN (updN (updN (updN (updN (updN (updN (updN P 5 0) 6 0) 7 0) 1 0) 2 0) 0 3) 3 0) 4 0) 7 = 0 := rfl; rw [e5] at h2; omega), sm⟩)
