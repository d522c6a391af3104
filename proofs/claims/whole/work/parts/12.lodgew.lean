/-! The class Lodge: what changes it. -/
set_option maxHeartbeats 200000 in
set_option maxRecDepth 100000 in
theorem w_scrap {M : PH} {a : Nat} {P : Nat → Nat} (hL : LodgeAt M a P) (hI : Inv P) {s : Nat} (hs : s < P 7) (hI9 : Inv (stateP P s 4)) : Run iX2_scrapStone [.ref a, .int (nI s)] M 0 0 (RV (.int (nI (cntS (stateP P s 4) 4))) (fun M1 => LodgeAt M1 a (stateP P s 4) ∧ Same M M1 a (a + 7))) := by
  obtain ⟨fc, fm, fs, hG, hr⟩ := id hL
  have hb := hI.b
  have sm : Same M M a (a + 7) := Same.rf
  refine Run.of (l0 := [some (.ref a), some (.int (nI s))]) (by decide +kernel) (Nat.le_of_ble_eq_true rfl) (by rfl) (fun Γ G C => ?_)
  refine pw_aload_n (q := 1) (j := 0) C dX2_scrapStone_0 rfl rfl rfl ?_
  refine pw_getf (q := 4) C dX2_scrapStone_1 fX2_23 hG.1 (by rfl) rfl ?_
  refine pw_iload_n (q := 5) (j := 1) C dX2_scrapStone_4 rfl rfl rfl ?_
  refine pw_iconst_n (q := 6) C 3 dX2_scrapStone_5 (by decide +kernel) rfl ?_
  refine pw_iconst_n (q := 7) C 4 dX2_scrapStone_6 (by decide +kernel) rfl ?_
  refine pw_void (q := 10) (cr_v (j := iX8_put) C dX2_scrapStone_7 lX2_73 mX8_put (ro_mk (by decide) (by decide)) hG.2.2.2.1 rfl (p_s hL (4) (by first | assumption | omega) (by omega)) rfl rfl (Nat.le_of_ble_eq_true rfl) ⟨by omega, by omega⟩) rfl (fun M7 e7 => ?_)
  obtain ⟨hL, sm9⟩ := e7
  have sm := sm.tr sm9
  obtain ⟨fc, fm, fs, hG, hr⟩ := id hL
  refine pw_aload_n (q := 11) (j := 0) C dX2_scrapStone_10 rfl rfl rfl ?_
  refine pw_getf (q := 14) C dX2_scrapStone_11 fX2_23 hG.1 (by rfl) rfl ?_
  refine pw_iconst_n (q := 15) C 3 dX2_scrapStone_14 (by decide +kernel) rfl ?_
  refine pw_iconst_n (q := 16) C 4 dX2_scrapStone_15 (by decide +kernel) rfl ?_
  refine pw_rd (q := 19) (cr_v (j := iX8_count) C dX2_scrapStone_16 lX2_106 mX8_count (ro_mk (by decide) (by decide)) hG.2.2.2.1 rfl (g_cS hG hr hI9 (by omega)) rfl rfl (Nat.le_of_ble_eq_true rfl) ⟨by omega, by omega⟩) rfl ?_
  exact pw_iret C dX2_scrapStone_19 rfl ⟨by omega, by omega⟩ (RV.mk (by rfl) ⟨hL, sm⟩)
set_option maxHeartbeats 200000 in
set_option maxRecDepth 100000 in
theorem w_set {M : PH} {a : Nat} {P : Nat → Nat} (hL : LodgeAt M a P) (hI : Inv P) {s : Nat} (hs : s < P 7) (hI9 : Inv (stateP P s 3)) : Run iX2_setStone [.ref a, .int (nI s)] M 0 0 (RV (.int (nI (cntC (stateP P s 3) (P (50 + 6 * s)) 3))) (fun M1 => LodgeAt M1 a (stateP P s 3) ∧ Same M M1 a (a + 7))) := by
  obtain ⟨fc, fm, fs, hG, hr⟩ := id hL
  have hb := hI.b
  have sm : Same M M a (a + 7) := Same.rf
  have hs9 := hI.s hs
  refine Run.of (l0 := [some (.ref a), some (.int (nI s))]) (by decide +kernel) (Nat.le_of_ble_eq_true rfl) (by rfl) (fun Γ G C => ?_)
  refine pw_aload_n (q := 1) (j := 0) C dX2_setStone_0 rfl rfl rfl ?_
  refine pw_getf (q := 4) C dX2_setStone_1 fX2_23 hG.1 (by rfl) rfl ?_
  refine pw_iload_n (q := 5) (j := 1) C dX2_setStone_4 rfl rfl rfl ?_
  refine pw_iconst_n (q := 6) C 3 dX2_setStone_5 (by decide +kernel) rfl ?_
  refine pw_iconst_n (q := 7) C 3 dX2_setStone_6 (by decide +kernel) rfl ?_
  refine pw_void (q := 10) (cr_v (j := iX8_put) C dX2_setStone_7 lX2_73 mX8_put (ro_mk (by decide) (by decide)) hG.2.2.2.1 rfl (p_s hL (3) (by first | assumption | omega) (by omega)) rfl rfl (Nat.le_of_ble_eq_true rfl) ⟨by omega, by omega⟩) rfl (fun M7 e7 => ?_)
  obtain ⟨hL, sm9⟩ := e7
  have sm := sm.tr sm9
  obtain ⟨fc, fm, fs, hG, hr⟩ := id hL
  refine pw_aload_n (q := 11) (j := 0) C dX2_setStone_10 rfl rfl rfl ?_
  refine pw_getf (q := 14) C dX2_setStone_11 fX2_23 hG.1 (by rfl) rfl ?_
  refine pw_iconst_n (q := 15) C 0 dX2_setStone_14 (by decide +kernel) rfl ?_
  refine pw_aload_n (q := 16) (j := 0) C dX2_setStone_15 rfl rfl rfl ?_
  refine pw_getf (q := 19) C dX2_setStone_16 fX2_23 hG.1 (by rfl) rfl ?_
  refine pw_iload_n (q := 20) (j := 1) C dX2_setStone_19 rfl rfl rfl ?_
  refine pw_iconst_n (q := 21) C 0 dX2_setStone_20 (by decide +kernel) rfl ?_
  refine pw_rd (q := 24) (cr_v (j := iX8_get) C dX2_setStone_21 lX2_58 mX8_get (ro_mk (by decide) (by decide)) hG.2.2.2.1 rfl (g_s0 hG hr (P := stateP P s 3) (show s < stateP P s 3 7 by unfold stateP; rw [updN_ne (show 7 ≠ 50 + 6 * s + 3 by omega)]; exact hs)) rfl rfl (Nat.le_of_ble_eq_true rfl) ⟨by omega, by omega⟩) rfl ?_
  have e99 : stateP P s 3 (50 + 6 * s) = P (50 + 6 * s) := updN_ne (by omega)
  rw [e99]
  refine pw_iconst_n (q := 25) C 3 dX2_setStone_24 (by decide +kernel) rfl ?_
  refine pw_iconst_n (q := 26) C 3 dX2_setStone_25 (by decide +kernel) rfl ?_
  refine pw_rd (q := 29) (cr_v (j := iX8_countBoth) C dX2_setStone_26 lX2_54 mX8_countBoth (ro_mk (by decide) (by decide)) hG.2.2.2.1 rfl (g_cC (P := stateP P s 3) hG hr hI9 (by omega) (by omega)) rfl rfl (Nat.le_of_ble_eq_true rfl) ⟨by omega, by omega⟩) rfl ?_
  exact pw_iret C dX2_setStone_29 rfl ⟨by omega, by omega⟩ (RV.mk (by rfl) ⟨hL, sm⟩)
set_option maxHeartbeats 200000 in
set_option maxRecDepth 100000 in
theorem w_inspect {M : PH} {a : Nat} {P : Nat → Nat} (hL : LodgeAt M a P) (hI : Inv P) {s : Nat} (hs : s < P 7) : Run iX2_inspectStone [.ref a, .int (nI s)] M 0 0 (RV (.int (if P 0 < P (50 + 6 * s + 2) then -9 else nI (price P s))) (fun M1 => LodgeAt M1 a (inspectP P s) ∧ Same M M1 a (a + 7))) := by
  obtain ⟨fc, fm, fs, hG, hr⟩ := id hL
  have hb := hI.b
  have sm : Same M M a (a + 7) := Same.rf
  have hs9 := hI.s hs
  obtain ⟨hs1, hs2, -⟩ := id hs9
  have q7 : P 7 ≤ 24 := hb.2.2.2.2.1
  refine Run.of (l0 := [some (.ref a), some (.int (nI s)), none]) (by decide +kernel) (Nat.le_of_ble_eq_true rfl) (by rfl) (fun Γ G C => ?_)
  refine pw_aload_n (q := 1) (j := 0) C dX2_inspectStone_0 rfl rfl rfl ?_
  refine pw_getf (q := 4) C dX2_inspectStone_1 fX2_23 hG.1 (by rfl) rfl ?_
  refine pw_iload_n (q := 5) (j := 1) C dX2_inspectStone_4 rfl rfl rfl ?_
  refine pw_iconst_n (q := 6) C 2 dX2_inspectStone_5 (by decide +kernel) rfl ?_
  refine pw_rd (q := 9) (cr_v (j := iX8_get) C dX2_inspectStone_6 lX2_58 mX8_get (ro_mk (by decide) (by decide)) hG.2.2.2.1 rfl (g_s hG hr (by first | assumption | omega) (by omega)) rfl rfl (Nat.le_of_ble_eq_true rfl) ⟨by omega, by omega⟩) rfl ?_
  refine pw_aload_n (q := 10) (j := 0) C dX2_inspectStone_9 rfl rfl rfl ?_
  refine pw_getf (q := 13) C dX2_inspectStone_10 fX2_26 hG.1 (by rfl) rfl ?_
  refine pw_icmp_le_n (q := 16) 29 C dX2_inspectStone_13 (by decide) rfl (by omega) (by omega) (fun g13 => ?_) (fun g13 => ?_)
  · refine pw_aload_n (q := 30) (j := 0) C dX2_inspectStone_29 rfl rfl rfl ?_
    refine pw_iload_n (q := 31) (j := 1) C dX2_inspectStone_30 rfl rfl rfl ?_
    refine pw_rd (q := 34) (cr_v (j := iX2_priceOf) C dX2_inspectStone_31 lX2_96 mX2_priceOf (ro_mk (by decide) (by decide)) hG.1 rfl (k_priceOf hL hI (by first | assumption | omega)) rfl rfl (Nat.le_of_ble_eq_true rfl) ⟨by omega, by omega⟩) rfl ?_
    refine pw_istore_n (q := 35) (j := 2) C dX2_inspectStone_34 rfl rfl (by decide) rfl ?_
    refine pw_aload_n (q := 36) (j := 0) C dX2_inspectStone_35 rfl rfl rfl ?_
    refine pw_getf (q := 39) C dX2_inspectStone_36 fX2_23 hG.1 (by rfl) rfl ?_
    refine pw_iload_n (q := 40) (j := 1) C dX2_inspectStone_39 rfl rfl rfl ?_
    refine pw_iconst_n (q := 41) C 3 dX2_inspectStone_40 (by decide +kernel) rfl ?_
    refine pw_iconst_n (q := 42) C 1 dX2_inspectStone_41 (by decide +kernel) rfl ?_
    refine pw_void (q := 45) (cr_v (j := iX8_put) C dX2_inspectStone_42 lX2_73 mX8_put (ro_mk (by decide) (by decide)) hG.2.2.2.1 rfl (p_s hL (1) (by first | assumption | omega) (by omega)) rfl rfl (Nat.le_of_ble_eq_true rfl) ⟨by omega, by omega⟩) rfl (fun M42 e42 => ?_)
    obtain ⟨hL, sm9⟩ := e42
    have sm := sm.tr sm9
    obtain ⟨fc, fm, fs, hG, hr⟩ := id hL
    refine pw_aload_n (q := 46) (j := 0) C dX2_inspectStone_45 rfl rfl rfl ?_
    refine pw_getf (q := 49) C dX2_inspectStone_46 fX2_20 hG.1 (by rfl) rfl ?_
    refine pw_aload_n (q := 50) (j := 0) C dX2_inspectStone_49 rfl rfl rfl ?_
    refine pw_getf (q := 53) C dX2_inspectStone_50 fX2_23 hG.1 (by rfl) rfl ?_
    refine pw_iload_n (q := 54) (j := 1) C dX2_inspectStone_53 rfl rfl rfl ?_
    refine pw_iconst_n (q := 55) C 1 dX2_inspectStone_54 (by decide +kernel) rfl ?_
    refine pw_rd (q := 58) (cr_v (j := iX8_get) C dX2_inspectStone_55 lX2_58 mX8_get (ro_mk (by decide) (by decide)) hG.2.2.2.1 rfl (g_s (P := updN P (50 + 6 * s + 3) 1) hG hr (by rw [updN_ne (show 7 ≠ 50 + 6 * s + 3 by omega)]; exact hs) (by omega)) rfl rfl (Nat.le_of_ble_eq_true rfl) ⟨by omega, by omega⟩) rfl ?_
    rw [updN_ne (show 50 + 6 * s + 1 ≠ 50 + 6 * s + 3 by omega)]
    refine pw_iconst_n (q := 59) C 3 dX2_inspectStone_58 (by decide +kernel) rfl ?_
    refine pw_iload_n (q := 60) (j := 2) C dX2_inspectStone_59 rfl rfl rfl ?_
    refine pw_void (q := 63) (cr_v (j := iX8_increase) C dX2_inspectStone_60 lX2_89 mX8_increase (ro_mk (by decide) (by decide)) hG.2.2.1.1 rfl (i_m (P := updN P (50 + 6 * s + 3) 1) hL (P (26 + 4 * P (50 + 6 * s + 1) + 3) + price P s) (by rw [updN_ne (show 6 ≠ 50 + 6 * s + 3 by omega)]; exact hs2) (by omega) (by rw [updN_ne (show 26 + 4 * P (50 + 6 * s + 1) + 3 ≠ 50 + 6 * s + 3 by omega), nI_add])) rfl rfl (Nat.le_of_ble_eq_true rfl) ⟨by omega, by omega⟩) rfl (fun M60 e60 => ?_)
    obtain ⟨hL, sm9⟩ := e60
    have sm := sm.tr sm9
    obtain ⟨fc, fm, fs, hG, hr⟩ := id hL
    refine pw_iload_n (q := 64) (j := 2) C dX2_inspectStone_63 rfl rfl rfl ?_
    exact pw_iret C dX2_inspectStone_64 rfl ⟨by omega, by omega⟩ (RV.mk (vint (if_neg (by omega)).symm) ⟨by unfold inspectP; rw [if_neg (show ¬ P 0 < P (50 + 6 * s + 2) by omega)]; exact hL, sm⟩)
  · refine pw_aload_n (q := 17) (j := 0) C dX2_inspectStone_16 rfl rfl rfl ?_
    refine pw_getf (q := 20) C dX2_inspectStone_17 fX2_23 hG.1 (by rfl) rfl ?_
    refine pw_iload_n (q := 21) (j := 1) C dX2_inspectStone_20 rfl rfl rfl ?_
    refine pw_iconst_n (q := 22) C 3 dX2_inspectStone_21 (by decide +kernel) rfl ?_
    refine pw_iconst_n (q := 23) C 2 dX2_inspectStone_22 (by decide +kernel) rfl ?_
    refine pw_void (q := 26) (cr_v (j := iX8_put) C dX2_inspectStone_23 lX2_73 mX8_put (ro_mk (by decide) (by decide)) hG.2.2.2.1 rfl (p_s hL (2) (by first | assumption | omega) (by omega)) rfl rfl (Nat.le_of_ble_eq_true rfl) ⟨by omega, by omega⟩) rfl (fun M23 e23 => ?_)
    obtain ⟨hL, sm9⟩ := e23
    have sm := sm.tr sm9
    obtain ⟨fc, fm, fs, hG, hr⟩ := id hL
    refine pw_bipush (q := 28) (v := (-9)) C dX2_inspectStone_26 (by decide +kernel) rfl ?_
    exact pw_iret C dX2_inspectStone_28 rfl ⟨by omega, by omega⟩ (RV.mk (vint (if_pos (by omega)).symm) ⟨by unfold inspectP; rw [if_pos (show P 0 < P (50 + 6 * s + 2) by omega)]; exact hL, sm⟩)
set_option maxHeartbeats 200000 in
set_option maxRecDepth 100000 in
theorem w_pay {M : PH} {a : Nat} {P : Nat → Nat} (hL : LodgeAt M a P)  : Run iX2_payAll [.ref a] M 0 0 (RV (.int (nI (owedAll P))) (fun M1 => LodgeAt M1 a (payP P) ∧ Same M M1 a (a + 7))) := by
  obtain ⟨fc, fm, fs, hG, hr⟩ := id hL
  have hb := hL.bd
  have sm : Same M M a (a + 7) := Same.rf
  refine Run.of (l0 := [some (.ref a), none, none]) (by decide +kernel) (Nat.le_of_ble_eq_true rfl) (by rfl) (fun Γ G C => ?_)
  have loop : ∀ (d m : Nat), m + d = P 6 → ∀ M2, LodgeAt M2 a (payAt P m) → Same M M2 a (a + 7) → PW Γ G (ZJ Γ G 0 0 (RV (.int (nI (owedAll P))) (fun M1 => LodgeAt M1 a (payP P) ∧ Same M M1 a (a + 7)))) 11 [some (.ref a), some (.int (nI (owedAll P))), some (.int (nI m))] [] M2 0 0 := by
    intro d
    induction d with
    | zero =>
      intro m hd
      intro M2 hL sm
      obtain ⟨fc, fm, fs, hG, hr⟩ := id hL
      have p6 : payAt P m 6 = P 6 := payAt_ne (by omega)
      refine pw_iload_n (q := 12) (j := 2) C dX2_payAll_11 rfl rfl rfl ?_
      refine pw_aload_n (q := 13) (j := 0) C dX2_payAll_12 rfl rfl rfl ?_
      refine pw_getf (q := 16) C dX2_payAll_13 fX2_20 hG.1 (by rfl) rfl ?_
      refine pw_rd (q := 19) (cr_v (j := iX8_size) C dX2_payAll_16 lX2_50 mX8_size (ro_mk (by decide) (by decide)) hG.2.2.1.1 rfl (k_size hG.2.2.1) rfl rfl (Nat.le_of_ble_eq_true rfl) ⟨by omega, by omega⟩) rfl ?_
      rw [p6]
      refine pw_icmp_ge_n (q := 22) 38 C dX2_payAll_19 (by decide) rfl (by omega) (by omega) (fun g19 => ?_) (fun g19 => absurd g19 (by omega))
      refine pw_aload_n (q := 39) (j := 0) C dX2_payAll_38 rfl rfl rfl ?_
      have p3 : payAt P m 3 = P 3 := payAt_ne (by omega)
      refine pw_dup (q := 40) C dX2_payAll_39 rfl rfl ?_
      refine pw_getf (q := 43) C dX2_payAll_40 fX2_40 hG.1 (by rfl) rfl ?_
      refine pw_iload_n (q := 44) (j := 1) C dX2_payAll_43 rfl rfl rfl ?_
      rw [p3]
      refine pw_iadd_n (q := 45) C dX2_payAll_44 rfl ?_
      refine pw_put (q := 48) C dX2_payAll_45 fX2_40 hG.1 (by rfl) (by rfl) (Nat.le_of_ble_eq_true rfl) rfl ?_
      refine pw_heap (fun M9 => LodgeAt M9 a (updN (payAt P m) 3 (P 3 + owedAll P)) ∧ Same M M9 a (a + 7)) ⟨hL.sc 3 (P 3 + owedAll P) (by omega), sm.tr (Same.put (by omega) (by omega))⟩ (fun M9 ⟨hL, sm⟩ => ?_)
      obtain ⟨fc, fm, fs, hG, hr⟩ := id hL
      refine pw_iload_n (q := 49) (j := 1) C dX2_payAll_48 rfl rfl rfl ?_
      exact pw_iret C dX2_payAll_49 rfl ⟨by omega, by omega⟩ (RV.mk (by rfl) ⟨by unfold payP; rw [← show m = P 6 by omega]; exact hL, sm⟩)
    | succ d ih =>
      intro m hd
      intro M2 hL sm
      obtain ⟨fc, fm, fs, hG, hr⟩ := id hL
      have p6 : payAt P m 6 = P 6 := payAt_ne (by omega)
      refine pw_iload_n (q := 12) (j := 2) C dX2_payAll_11 rfl rfl rfl ?_
      refine pw_aload_n (q := 13) (j := 0) C dX2_payAll_12 rfl rfl rfl ?_
      refine pw_getf (q := 16) C dX2_payAll_13 fX2_20 hG.1 (by rfl) rfl ?_
      refine pw_rd (q := 19) (cr_v (j := iX8_size) C dX2_payAll_16 lX2_50 mX8_size (ro_mk (by decide) (by decide)) hG.2.2.1.1 rfl (k_size hG.2.2.1) rfl rfl (Nat.le_of_ble_eq_true rfl) ⟨by omega, by omega⟩) rfl ?_
      rw [p6]
      refine pw_icmp_ge_n (q := 22) 38 C dX2_payAll_19 (by decide) rfl (by omega) (by omega) (fun g19 => absurd g19 (by omega)) (fun g19 => ?_)
      refine pw_aload_n (q := 23) (j := 0) C dX2_payAll_22 rfl rfl rfl ?_
      refine pw_getf (q := 26) C dX2_payAll_23 fX2_20 hG.1 (by rfl) rfl ?_
      refine pw_iload_n (q := 27) (j := 2) C dX2_payAll_26 rfl rfl rfl ?_
      refine pw_iconst_n (q := 28) C 3 dX2_payAll_27 (by decide +kernel) rfl ?_
      refine pw_iconst_n (q := 29) C 0 dX2_payAll_28 (by decide +kernel) rfl ?_
      refine pw_void (q := 32) (cr_v (j := iX8_put) C dX2_payAll_29 lX2_73 mX8_put (ro_mk (by decide) (by decide)) hG.2.2.1.1 rfl (p_m hL 0 (by rw [p6]; omega) (by omega)) rfl rfl (Nat.le_of_ble_eq_true rfl) ⟨by omega, by omega⟩) rfl (fun M29 e29 => ?_)
      obtain ⟨hL, sm9⟩ := e29
      have sm := sm.tr sm9
      obtain ⟨fc, fm, fs, hG, hr⟩ := id hL
      refine pw_iinc_n (q := 35) C 1 dX2_payAll_32 rfl (by decide +kernel) rfl (by decide) rfl ?_
      refine pw_goto (q := 0) 11 C dX2_payAll_35 (by decide) ?_
      exact ih (m + 1) (by omega) _ (by rw [← payAt_succ]; exact hL) sm
  refine pw_aload_n (q := 1) (j := 0) C dX2_payAll_0 rfl rfl rfl ?_
  refine pw_getf (q := 4) C dX2_payAll_1 fX2_20 hG.1 (by rfl) rfl ?_
  refine pw_iconst_n (q := 5) C 3 dX2_payAll_4 (by decide +kernel) rfl ?_
  refine pw_rd (q := 8) (cr_v (j := iX8_sum) C dX2_payAll_5 lX2_109 mX8_sum (ro_mk (by decide) (by decide)) hG.2.2.1.1 rfl (g_owed hG hr) rfl rfl (Nat.le_of_ble_eq_true rfl) ⟨by omega, by omega⟩) rfl ?_
  refine pw_istore_n (q := 9) (j := 1) C dX2_payAll_8 rfl rfl (by decide) rfl ?_
  refine pw_iconst_n (q := 10) C 0 dX2_payAll_9 (by decide +kernel) rfl ?_
  refine pw_istore_n (q := 11) (j := 2) C dX2_payAll_10 rfl rfl (by decide) rfl ?_
  exact loop (P 6) 0 (by omega) M (by rw [payAt_0]; exact hL) Same.rf
set_option maxHeartbeats 200000 in
set_option maxRecDepth 100000 in
theorem w_handOut {M : PH} {a : Nat} {P : Nat → Nat} (hL : LodgeAt M a P) (h2 : P 2 ≤ 1) (hm9 : ∀ m, m < P 6 → P (26 + 4 * m + 1) ≤ 12) : Run iX2_handOutWork [.ref a] M 0 0 (RN (fun M1 => LodgeAt M1 a (workAt P (P 6)) ∧ Same M M1 a (a + 7))) := by
  obtain ⟨fc, fm, fs, hG, hr⟩ := id hL
  have hb := hL.bd
  have sm : Same M M a (a + 7) := Same.rf
  refine Run.of (l0 := [some (.ref a), none]) (by decide +kernel) (Nat.le_of_ble_eq_true rfl) (by rfl) (fun Γ G C => ?_)
  have loop : ∀ (d m : Nat), m + d = P 6 → ∀ M2, LodgeAt M2 a (workAt P m) → Same M M2 a (a + 7) → PW Γ G (ZJ Γ G 0 0 (RN (fun M1 => LodgeAt M1 a (workAt P (P 6)) ∧ Same M M1 a (a + 7)))) 2 [some (.ref a), some (.int (nI m))] [] M2 0 0 := by
    intro d
    induction d with
    | zero =>
      intro m hd
      intro M2 hL sm
      obtain ⟨fc, fm, fs, hG, hr⟩ := id hL
      have p6 : workAt P m 6 = P 6 := workAt_ne (by omega)
      have p2 : workAt P m 2 = P 2 := workAt_ne (by omega)
      have p1 : workAt P m (26 + 4 * m + 1) = P (26 + 4 * m + 1) := workAt_ne (by omega)
      refine pw_iload_n (q := 3) (j := 1) C dX2_handOutWork_2 rfl rfl rfl ?_
      refine pw_aload_n (q := 4) (j := 0) C dX2_handOutWork_3 rfl rfl rfl ?_
      refine pw_getf (q := 7) C dX2_handOutWork_4 fX2_20 hG.1 (by rfl) rfl ?_
      refine pw_rd (q := 10) (cr_v (j := iX8_size) C dX2_handOutWork_7 lX2_50 mX8_size (ro_mk (by decide) (by decide)) hG.2.2.1.1 rfl (k_size hG.2.2.1) rfl rfl (Nat.le_of_ble_eq_true rfl) ⟨by omega, by omega⟩) rfl ?_
      rw [p6]
      refine pw_icmp_ge_n (q := 13) 48 C dX2_handOutWork_10 (by decide) rfl (by omega) (by omega) (fun g10 => ?_) (fun g10 => absurd g10 (by omega))
      exact pw_vret C dX2_handOutWork_48 rfl ⟨by omega, by omega⟩ (RN.mk ⟨by rw [← show m = P 6 by omega]; exact hL, sm⟩)
    | succ d ih =>
      intro m hd
      intro M2 hL sm
      obtain ⟨fc, fm, fs, hG, hr⟩ := id hL
      have p6 : workAt P m 6 = P 6 := workAt_ne (by omega)
      have p2 : workAt P m 2 = P 2 := workAt_ne (by omega)
      have p1 : workAt P m (26 + 4 * m + 1) = P (26 + 4 * m + 1) := workAt_ne (by omega)
      have q9 := hm9 m (by omega)
      refine pw_iload_n (q := 3) (j := 1) C dX2_handOutWork_2 rfl rfl rfl ?_
      refine pw_aload_n (q := 4) (j := 0) C dX2_handOutWork_3 rfl rfl rfl ?_
      refine pw_getf (q := 7) C dX2_handOutWork_4 fX2_20 hG.1 (by rfl) rfl ?_
      refine pw_rd (q := 10) (cr_v (j := iX8_size) C dX2_handOutWork_7 lX2_50 mX8_size (ro_mk (by decide) (by decide)) hG.2.2.1.1 rfl (k_size hG.2.2.1) rfl rfl (Nat.le_of_ble_eq_true rfl) ⟨by omega, by omega⟩) rfl ?_
      rw [p6]
      refine pw_icmp_ge_n (q := 13) 48 C dX2_handOutWork_10 (by decide) rfl (by omega) (by omega) (fun g10 => absurd g10 (by omega)) (fun g10 => ?_)
      refine pw_aload_n (q := 14) (j := 0) C dX2_handOutWork_13 rfl rfl rfl ?_
      refine pw_getf (q := 17) C dX2_handOutWork_14 fX2_20 hG.1 (by rfl) rfl ?_
      refine pw_iload_n (q := 18) (j := 1) C dX2_handOutWork_17 rfl rfl rfl ?_
      refine pw_iconst_n (q := 19) C 2 dX2_handOutWork_18 (by decide +kernel) rfl ?_
      refine pw_aload_n (q := 20) (j := 0) C dX2_handOutWork_19 rfl rfl rfl ?_
      refine pw_getf (q := 23) C dX2_handOutWork_20 fX2_36 hG.1 (by rfl) rfl ?_
      rw [p2]
      refine pw_if_eq_n (q := 26) 30 C dX2_handOutWork_23 (by decide) rfl (by omega) (fun g23 => ?_) (fun g23 => ?_)
      · refine pw_aload_n (q := 31) (j := 0) C dX2_handOutWork_30 rfl rfl rfl ?_
        refine pw_getf (q := 34) C dX2_handOutWork_31 fX2_20 hG.1 (by rfl) rfl ?_
        refine pw_iload_n (q := 35) (j := 1) C dX2_handOutWork_34 rfl rfl rfl ?_
        refine pw_iconst_n (q := 36) C 1 dX2_handOutWork_35 (by decide +kernel) rfl ?_
        refine pw_rd (q := 39) (cr_v (j := iX8_get) C dX2_handOutWork_36 lX2_58 mX8_get (ro_mk (by decide) (by decide)) hG.2.2.1.1 rfl (g_m (P := workAt P m) hG hr (by rw [p6]; omega) (by omega)) rfl rfl (Nat.le_of_ble_eq_true rfl) ⟨by omega, by omega⟩) rfl ?_
        rw [p1]
        refine pw_void (q := 42) (cr_v (j := iX8_put) C dX2_handOutWork_39 lX2_73 mX8_put (ro_mk (by decide) (by decide)) hG.2.2.1.1 rfl (p_m hL (P (26 + 4 * m + 1)) (by rw [p6]; omega) (by omega)) rfl rfl (Nat.le_of_ble_eq_true rfl) ⟨by omega, by omega⟩) rfl (fun M39 e39 => ?_)
        obtain ⟨hL, sm9⟩ := e39
        have sm := sm.tr sm9
        obtain ⟨fc, fm, fs, hG, hr⟩ := id hL
        refine pw_iinc_n (q := 45) C 1 dX2_handOutWork_42 rfl (by decide +kernel) rfl (by decide) rfl ?_
        refine pw_goto (q := 0) 2 C dX2_handOutWork_45 (by decide) ?_
        exact ih (m + 1) (by omega) _ (by rw [← workAt_succ, if_pos g23]; exact hL) sm
      · refine pw_iconst_n (q := 27) C 0 dX2_handOutWork_26 (by decide +kernel) rfl ?_
        refine pw_goto (q := 0) 39 C dX2_handOutWork_27 (by decide) ?_
        refine pw_void (q := 42) (cr_v (j := iX8_put) C dX2_handOutWork_39 lX2_73 mX8_put (ro_mk (by decide) (by decide)) hG.2.2.1.1 rfl (p_m hL 0 (by rw [p6]; omega) (by omega)) rfl rfl (Nat.le_of_ble_eq_true rfl) ⟨by omega, by omega⟩) rfl (fun M39 e39 => ?_)
        obtain ⟨hL, sm9⟩ := e39
        have sm := sm.tr sm9
        obtain ⟨fc, fm, fs, hG, hr⟩ := id hL
        refine pw_iinc_n (q := 45) C 1 dX2_handOutWork_42 rfl (by decide +kernel) rfl (by decide) rfl ?_
        refine pw_goto (q := 0) 2 C dX2_handOutWork_45 (by decide) ?_
        exact ih (m + 1) (by omega) _ (by rw [← workAt_succ, if_neg g23]; exact hL) sm
  refine pw_iconst_n (q := 1) C 0 dX2_handOutWork_0 (by decide +kernel) rfl ?_
  refine pw_istore_n (q := 2) (j := 1) C dX2_handOutWork_1 rfl rfl (by decide) rfl ?_
  exact loop (P 6) 0 (by omega) M (by rw [workAt_0]; exact hL) Same.rf
