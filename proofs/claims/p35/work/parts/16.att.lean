/-! Attempt: does what is possible, and tells whether it was. -/
set_option maxHeartbeats 200000 in
set_option maxRecDepth 100000 in
theorem a_cuts {M : PH} {a : Nat} {P : Nat → Nat} (hL : LodgeAt M a P) (hI : Inv P) {m c f : Nat} (hm : m < P 6) (hc : c < P 5) : Run iX0_cuts [.ref a, .int (nI m), .int (nI c), .int (nI f)] M 0 0 (RV (.int (nI (bN (canCut P m c)))) (fun M1 => LodgeAt M1 a (if canCut P m c then cutP P m c f else P) ∧ Same M M1 a (a + 7))) := by
  obtain ⟨fc, fm, fs, hG, hr⟩ := id hL
  refine Run.of (l0 := [some (.ref a), some (.int (nI m)), some (.int (nI c)), some (.int (nI f))]) (by decide +kernel) (Nat.le_of_ble_eq_true rfl) (by rfl) (fun Γ G C => ?_)
  refine pw_aload_n (q := 1) (j := 0) C dX0_cuts_0 rfl rfl rfl ?_
  refine pw_iload_n (q := 2) (j := 1) C dX0_cuts_1 rfl rfl rfl ?_
  refine pw_iload_n (q := 3) (j := 2) C dX0_cuts_2 rfl rfl rfl ?_
  refine pw_rd (q := 6) (cr_v (j := iX2_mayCut) C dX0_cuts_3 lX0_7 mX2_mayCut (ro_mk (by decide) (by decide)) hG.1 rfl (k_mayCut_in hL hI hm hc) rfl rfl (Nat.le_of_ble_eq_true rfl) ⟨by omega, by omega⟩) rfl ?_
  refine pw_if_ne_b (q := 9) 11 C dX0_cuts_6 (by decide) rfl (fun g6 => ?_) (fun g6 => ?_)
  · refine pw_aload_n (q := 12) (j := 0) C dX0_cuts_11 rfl rfl rfl ?_
    refine pw_iload_n (q := 13) (j := 1) C dX0_cuts_12 rfl rfl rfl ?_
    refine pw_iload_n (q := 14) (j := 2) C dX0_cuts_13 rfl rfl rfl ?_
    refine pw_iload_n (q := 15) (j := 3) C dX0_cuts_14 rfl rfl rfl ?_
    refine pw_val (q := 18) (cr_v (j := iX2_cutStone) C dX0_cuts_15 lX0_13 mX2_cutStone (ro_mk (by decide) (by decide)) hG.1 rfl (w_cut hL hm hc g6) rfl rfl (Nat.le_of_ble_eq_true rfl) ⟨by omega, by omega⟩) rfl (fun M15 e15 => ?_)
    refine pw_pop (q := 19) C dX0_cuts_18 rfl rfl ?_
    refine pw_iconst_n (q := 20) C 1 dX0_cuts_19 (by decide +kernel) rfl ?_
    exact pw_zret C dX0_cuts_20 rfl (by first | decide +kernel | exact nar_bN _ | exact nar_01 (by omega)) ⟨by omega, by omega⟩ (RV.mk (v1 g6) ⟨by rw [if_pos g6]; exact e15.1, e15.2⟩)
  · refine pw_iconst_n (q := 10) C 0 dX0_cuts_9 (by decide +kernel) rfl ?_
    exact pw_zret C dX0_cuts_10 rfl (by first | decide +kernel | exact nar_bN _ | exact nar_01 (by omega)) ⟨by omega, by omega⟩ (RV.mk (v0 g6) ⟨by rw [if_neg g6]; exact hL, Same.rf⟩)
set_option maxHeartbeats 200000 in
set_option maxRecDepth 100000 in
theorem a_cuts_badm {M : PH} {a : Nat} {P : Nat → Nat} (hL : LodgeAt M a P) (hI : Inv P) {m c f : Int32} (hbad : badR m (P 6)) : Run iX0_cuts [.ref a, .int m, .int c, .int f] M 0 0 (RV (.int (nI 0)) (fun M1 => M1 = M)) := by
  obtain ⟨fc, fm, fs, hG, hr⟩ := id hL
  refine Run.of (l0 := [some (.ref a), some (.int m), some (.int c), some (.int f)]) (by decide +kernel) (Nat.le_of_ble_eq_true rfl) (by rfl) (fun Γ G C => ?_)
  refine pw_aload_n (q := 1) (j := 0) C dX0_cuts_0 rfl rfl rfl ?_
  refine pw_iload_n (q := 2) (j := 1) C dX0_cuts_1 rfl rfl rfl ?_
  refine pw_iload_n (q := 3) (j := 2) C dX0_cuts_2 rfl rfl rfl ?_
  refine pw_rd (q := 6) (cr_v (j := iX2_mayCut) C dX0_cuts_3 lX0_7 mX2_mayCut (ro_mk (by decide) (by decide)) hG.1 rfl (k_mayCut_badm hL hI hbad) rfl rfl (Nat.le_of_ble_eq_true rfl) ⟨by omega, by omega⟩) rfl ?_
  refine pw_if_ne_n (q := 9) 11 C dX0_cuts_6 (by decide) rfl (by omega) (fun g6 => absurd g6 (by omega)) (fun g6 => ?_)
  refine pw_iconst_n (q := 10) C 0 dX0_cuts_9 (by decide +kernel) rfl ?_
  exact pw_zret C dX0_cuts_10 rfl (by first | decide +kernel | exact nar_bN _ | exact nar_01 (by omega)) ⟨by omega, by omega⟩ (RV.mk (by rfl) rfl)
set_option maxHeartbeats 200000 in
set_option maxRecDepth 100000 in
theorem a_cuts_badc {M : PH} {a : Nat} {P : Nat → Nat} (hL : LodgeAt M a P) (hI : Inv P) {m : Nat} {c f : Int32} (hm : m < P 6) (hbad : badR c (P 5)) : Run iX0_cuts [.ref a, .int (nI m), .int c, .int f] M 0 0 (RV (.int (nI 0)) (fun M1 => M1 = M)) := by
  obtain ⟨fc, fm, fs, hG, hr⟩ := id hL
  refine Run.of (l0 := [some (.ref a), some (.int (nI m)), some (.int c), some (.int f)]) (by decide +kernel) (Nat.le_of_ble_eq_true rfl) (by rfl) (fun Γ G C => ?_)
  refine pw_aload_n (q := 1) (j := 0) C dX0_cuts_0 rfl rfl rfl ?_
  refine pw_iload_n (q := 2) (j := 1) C dX0_cuts_1 rfl rfl rfl ?_
  refine pw_iload_n (q := 3) (j := 2) C dX0_cuts_2 rfl rfl rfl ?_
  refine pw_rd (q := 6) (cr_v (j := iX2_mayCut) C dX0_cuts_3 lX0_7 mX2_mayCut (ro_mk (by decide) (by decide)) hG.1 rfl (k_mayCut_badc hL hI hm hbad) rfl rfl (Nat.le_of_ble_eq_true rfl) ⟨by omega, by omega⟩) rfl ?_
  refine pw_if_ne_n (q := 9) 11 C dX0_cuts_6 (by decide) rfl (by omega) (fun g6 => absurd g6 (by omega)) (fun g6 => ?_)
  refine pw_iconst_n (q := 10) C 0 dX0_cuts_9 (by decide +kernel) rfl ?_
  exact pw_zret C dX0_cuts_10 rfl (by first | decide +kernel | exact nar_bN _ | exact nar_01 (by omega)) ⟨by omega, by omega⟩ (RV.mk (by rfl) rfl)
set_option maxHeartbeats 200000 in
set_option maxRecDepth 100000 in
theorem a_inspects {M : PH} {a : Nat} {P : Nat → Nat} (hL : LodgeAt M a P) (hI : Inv P) {s : Nat} (hs : s < P 7) : Run iX0_inspects [.ref a, .int (nI s)] M 0 0 (RV (.int (nI (bN (P (50 + 6 * s + 3) = 0)))) (fun M1 => LodgeAt M1 a (if P (50 + 6 * s + 3) = 0 then inspectP P s else P) ∧ Same M M1 a (a + 7))) := by
  obtain ⟨fc, fm, fs, hG, hr⟩ := id hL
  refine Run.of (l0 := [some (.ref a), some (.int (nI s))]) (by decide +kernel) (Nat.le_of_ble_eq_true rfl) (by rfl) (fun Γ G C => ?_)
  refine pw_aload_n (q := 1) (j := 0) C dX0_inspects_0 rfl rfl rfl ?_
  refine pw_iload_n (q := 2) (j := 1) C dX0_inspects_1 rfl rfl rfl ?_
  refine pw_rd (q := 5) (cr_v (j := iX2_mayInspect) C dX0_inspects_2 lX0_17 mX2_mayInspect (ro_mk (by decide) (by decide)) hG.1 rfl (k_mayInspect_in hL hI hs) rfl rfl (Nat.le_of_ble_eq_true rfl) ⟨by omega, by omega⟩) rfl ?_
  refine pw_if_ne_b (q := 8) 10 C dX0_inspects_5 (by decide) rfl (fun g5 => ?_) (fun g5 => ?_)
  · refine pw_aload_n (q := 11) (j := 0) C dX0_inspects_10 rfl rfl rfl ?_
    refine pw_iload_n (q := 12) (j := 1) C dX0_inspects_11 rfl rfl rfl ?_
    refine pw_val (q := 15) (cr_v (j := iX2_inspectStone) C dX0_inspects_12 lX0_21 mX2_inspectStone (ro_mk (by decide) (by decide)) hG.1 rfl (w_inspect hL hI hs) rfl rfl (Nat.le_of_ble_eq_true rfl) ⟨by omega, by omega⟩) rfl (fun M12 e12 => ?_)
    refine pw_pop (q := 16) C dX0_inspects_15 rfl rfl ?_
    refine pw_iconst_n (q := 17) C 1 dX0_inspects_16 (by decide +kernel) rfl ?_
    exact pw_zret C dX0_inspects_17 rfl (by first | decide +kernel | exact nar_bN _ | exact nar_01 (by omega)) ⟨by omega, by omega⟩ (RV.mk (v1 g5) ⟨by rw [if_pos g5]; exact e12.1, e12.2⟩)
  · refine pw_iconst_n (q := 9) C 0 dX0_inspects_8 (by decide +kernel) rfl ?_
    exact pw_zret C dX0_inspects_9 rfl (by first | decide +kernel | exact nar_bN _ | exact nar_01 (by omega)) ⟨by omega, by omega⟩ (RV.mk (v0 g5) ⟨by rw [if_neg g5]; exact hL, Same.rf⟩)
set_option maxHeartbeats 200000 in
set_option maxRecDepth 100000 in
theorem a_inspects_bad {M : PH} {a : Nat} {P : Nat → Nat} (hL : LodgeAt M a P) (hI : Inv P) {s : Int32} (hbad : badR s (P 7)) : Run iX0_inspects [.ref a, .int s] M 0 0 (RV (.int (nI 0)) (fun M1 => M1 = M)) := by
  obtain ⟨fc, fm, fs, hG, hr⟩ := id hL
  refine Run.of (l0 := [some (.ref a), some (.int s)]) (by decide +kernel) (Nat.le_of_ble_eq_true rfl) (by rfl) (fun Γ G C => ?_)
  refine pw_aload_n (q := 1) (j := 0) C dX0_inspects_0 rfl rfl rfl ?_
  refine pw_iload_n (q := 2) (j := 1) C dX0_inspects_1 rfl rfl rfl ?_
  refine pw_rd (q := 5) (cr_v (j := iX2_mayInspect) C dX0_inspects_2 lX0_17 mX2_mayInspect (ro_mk (by decide) (by decide)) hG.1 rfl (k_mayInspect_bad hL hI hbad) rfl rfl (Nat.le_of_ble_eq_true rfl) ⟨by omega, by omega⟩) rfl ?_
  refine pw_if_ne_n (q := 8) 10 C dX0_inspects_5 (by decide) rfl (by omega) (fun g5 => absurd g5 (by omega)) (fun g5 => ?_)
  refine pw_iconst_n (q := 9) C 0 dX0_inspects_8 (by decide +kernel) rfl ?_
  exact pw_zret C dX0_inspects_9 rfl (by first | decide +kernel | exact nar_bN _ | exact nar_01 (by omega)) ⟨by omega, by omega⟩ (RV.mk (by rfl) rfl)
set_option maxHeartbeats 200000 in
set_option maxRecDepth 100000 in
theorem a_recuts {M : PH} {a : Nat} {P : Nat → Nat} (hL : LodgeAt M a P) (hI : Inv P) {m s c : Nat} (hm : m < P 6) (hs : s < P 7) (hc : c < P 5) : Run iX0_recuts [.ref a, .int (nI m), .int (nI s), .int (nI c)] M 0 0 (RV (.int (nI (bN (canRecut P m s c)))) (fun M1 => LodgeAt M1 a (if canRecut P m s c then recutP P m s c else P) ∧ Same M M1 a (a + 7))) := by
  obtain ⟨fc, fm, fs, hG, hr⟩ := id hL
  refine Run.of (l0 := [some (.ref a), some (.int (nI m)), some (.int (nI s)), some (.int (nI c))]) (by decide +kernel) (Nat.le_of_ble_eq_true rfl) (by rfl) (fun Γ G C => ?_)
  refine pw_aload_n (q := 1) (j := 0) C dX0_recuts_0 rfl rfl rfl ?_
  refine pw_iload_n (q := 2) (j := 1) C dX0_recuts_1 rfl rfl rfl ?_
  refine pw_iload_n (q := 3) (j := 2) C dX0_recuts_2 rfl rfl rfl ?_
  refine pw_iload_n (q := 4) (j := 3) C dX0_recuts_3 rfl rfl rfl ?_
  refine pw_rd (q := 7) (cr_v (j := iX2_mayRecut) C dX0_recuts_4 lX0_25 mX2_mayRecut (ro_mk (by decide) (by decide)) hG.1 rfl (k_mayRecut_in hL hI hm hs hc) rfl rfl (Nat.le_of_ble_eq_true rfl) ⟨by omega, by omega⟩) rfl ?_
  refine pw_if_ne_b (q := 10) 12 C dX0_recuts_7 (by decide) rfl (fun g7 => ?_) (fun g7 => ?_)
  · refine pw_aload_n (q := 13) (j := 0) C dX0_recuts_12 rfl rfl rfl ?_
    refine pw_iload_n (q := 14) (j := 1) C dX0_recuts_13 rfl rfl rfl ?_
    refine pw_iload_n (q := 15) (j := 2) C dX0_recuts_14 rfl rfl rfl ?_
    refine pw_iload_n (q := 16) (j := 3) C dX0_recuts_15 rfl rfl rfl ?_
    refine pw_val (q := 19) (cr_v (j := iX2_recutStone) C dX0_recuts_16 lX0_29 mX2_recutStone (ro_mk (by decide) (by decide)) hG.1 rfl (w_recut hL hI hm hs hc g7) rfl rfl (Nat.le_of_ble_eq_true rfl) ⟨by omega, by omega⟩) rfl (fun M16 e16 => ?_)
    refine pw_pop (q := 20) C dX0_recuts_19 rfl rfl ?_
    refine pw_iconst_n (q := 21) C 1 dX0_recuts_20 (by decide +kernel) rfl ?_
    exact pw_zret C dX0_recuts_21 rfl (by first | decide +kernel | exact nar_bN _ | exact nar_01 (by omega)) ⟨by omega, by omega⟩ (RV.mk (v1 g7) ⟨by rw [if_pos g7]; exact e16.1, e16.2⟩)
  · refine pw_iconst_n (q := 11) C 0 dX0_recuts_10 (by decide +kernel) rfl ?_
    exact pw_zret C dX0_recuts_11 rfl (by first | decide +kernel | exact nar_bN _ | exact nar_01 (by omega)) ⟨by omega, by omega⟩ (RV.mk (v0 g7) ⟨by rw [if_neg g7]; exact hL, Same.rf⟩)
set_option maxHeartbeats 200000 in
set_option maxRecDepth 100000 in
theorem a_recuts_badm {M : PH} {a : Nat} {P : Nat → Nat} (hL : LodgeAt M a P) (hI : Inv P) {m s c : Int32} (hbad : badR m (P 6)) : Run iX0_recuts [.ref a, .int m, .int s, .int c] M 0 0 (RV (.int (nI 0)) (fun M1 => M1 = M)) := by
  obtain ⟨fc, fm, fs, hG, hr⟩ := id hL
  refine Run.of (l0 := [some (.ref a), some (.int m), some (.int s), some (.int c)]) (by decide +kernel) (Nat.le_of_ble_eq_true rfl) (by rfl) (fun Γ G C => ?_)
  refine pw_aload_n (q := 1) (j := 0) C dX0_recuts_0 rfl rfl rfl ?_
  refine pw_iload_n (q := 2) (j := 1) C dX0_recuts_1 rfl rfl rfl ?_
  refine pw_iload_n (q := 3) (j := 2) C dX0_recuts_2 rfl rfl rfl ?_
  refine pw_iload_n (q := 4) (j := 3) C dX0_recuts_3 rfl rfl rfl ?_
  refine pw_rd (q := 7) (cr_v (j := iX2_mayRecut) C dX0_recuts_4 lX0_25 mX2_mayRecut (ro_mk (by decide) (by decide)) hG.1 rfl (k_mayRecut_badm hL hI hbad) rfl rfl (Nat.le_of_ble_eq_true rfl) ⟨by omega, by omega⟩) rfl ?_
  refine pw_if_ne_n (q := 10) 12 C dX0_recuts_7 (by decide) rfl (by omega) (fun g7 => absurd g7 (by omega)) (fun g7 => ?_)
  refine pw_iconst_n (q := 11) C 0 dX0_recuts_10 (by decide +kernel) rfl ?_
  exact pw_zret C dX0_recuts_11 rfl (by first | decide +kernel | exact nar_bN _ | exact nar_01 (by omega)) ⟨by omega, by omega⟩ (RV.mk (by rfl) rfl)
set_option maxHeartbeats 200000 in
set_option maxRecDepth 100000 in
theorem a_recuts_bads {M : PH} {a : Nat} {P : Nat → Nat} (hL : LodgeAt M a P) (hI : Inv P) {m : Nat} {s c : Int32} (hm : m < P 6) (hbad : badR s (P 7)) : Run iX0_recuts [.ref a, .int (nI m), .int s, .int c] M 0 0 (RV (.int (nI 0)) (fun M1 => M1 = M)) := by
  obtain ⟨fc, fm, fs, hG, hr⟩ := id hL
  refine Run.of (l0 := [some (.ref a), some (.int (nI m)), some (.int s), some (.int c)]) (by decide +kernel) (Nat.le_of_ble_eq_true rfl) (by rfl) (fun Γ G C => ?_)
  refine pw_aload_n (q := 1) (j := 0) C dX0_recuts_0 rfl rfl rfl ?_
  refine pw_iload_n (q := 2) (j := 1) C dX0_recuts_1 rfl rfl rfl ?_
  refine pw_iload_n (q := 3) (j := 2) C dX0_recuts_2 rfl rfl rfl ?_
  refine pw_iload_n (q := 4) (j := 3) C dX0_recuts_3 rfl rfl rfl ?_
  refine pw_rd (q := 7) (cr_v (j := iX2_mayRecut) C dX0_recuts_4 lX0_25 mX2_mayRecut (ro_mk (by decide) (by decide)) hG.1 rfl (k_mayRecut_bads hL hI hm hbad) rfl rfl (Nat.le_of_ble_eq_true rfl) ⟨by omega, by omega⟩) rfl ?_
  refine pw_if_ne_n (q := 10) 12 C dX0_recuts_7 (by decide) rfl (by omega) (fun g7 => absurd g7 (by omega)) (fun g7 => ?_)
  refine pw_iconst_n (q := 11) C 0 dX0_recuts_10 (by decide +kernel) rfl ?_
  exact pw_zret C dX0_recuts_11 rfl (by first | decide +kernel | exact nar_bN _ | exact nar_01 (by omega)) ⟨by omega, by omega⟩ (RV.mk (by rfl) rfl)
set_option maxHeartbeats 200000 in
set_option maxRecDepth 100000 in
theorem a_recuts_badc {M : PH} {a : Nat} {P : Nat → Nat} (hL : LodgeAt M a P) (hI : Inv P) {m s : Nat} {c : Int32} (hm : m < P 6) (hs : s < P 7) (hbad : badR c (P 5)) : Run iX0_recuts [.ref a, .int (nI m), .int (nI s), .int c] M 0 0 (RV (.int (nI 0)) (fun M1 => M1 = M)) := by
  obtain ⟨fc, fm, fs, hG, hr⟩ := id hL
  refine Run.of (l0 := [some (.ref a), some (.int (nI m)), some (.int (nI s)), some (.int c)]) (by decide +kernel) (Nat.le_of_ble_eq_true rfl) (by rfl) (fun Γ G C => ?_)
  refine pw_aload_n (q := 1) (j := 0) C dX0_recuts_0 rfl rfl rfl ?_
  refine pw_iload_n (q := 2) (j := 1) C dX0_recuts_1 rfl rfl rfl ?_
  refine pw_iload_n (q := 3) (j := 2) C dX0_recuts_2 rfl rfl rfl ?_
  refine pw_iload_n (q := 4) (j := 3) C dX0_recuts_3 rfl rfl rfl ?_
  refine pw_rd (q := 7) (cr_v (j := iX2_mayRecut) C dX0_recuts_4 lX0_25 mX2_mayRecut (ro_mk (by decide) (by decide)) hG.1 rfl (k_mayRecut_badc hL hI hm hs hbad) rfl rfl (Nat.le_of_ble_eq_true rfl) ⟨by omega, by omega⟩) rfl ?_
  refine pw_if_ne_n (q := 10) 12 C dX0_recuts_7 (by decide) rfl (by omega) (fun g7 => absurd g7 (by omega)) (fun g7 => ?_)
  refine pw_iconst_n (q := 11) C 0 dX0_recuts_10 (by decide +kernel) rfl ?_
  exact pw_zret C dX0_recuts_11 rfl (by first | decide +kernel | exact nar_bN _ | exact nar_01 (by omega)) ⟨by omega, by omega⟩ (RV.mk (by rfl) rfl)
set_option maxHeartbeats 200000 in
set_option maxRecDepth 100000 in
theorem a_scraps {M : PH} {a : Nat} {P : Nat → Nat} (hL : LodgeAt M a P) (hI : Inv P) {s : Nat} (hs : s < P 7) (hI9 : P (50 + 6 * s + 3) = 2 → Inv (stateP P s 4)) : Run iX0_scraps [.ref a, .int (nI s)] M 0 0 (RV (.int (nI (bN (P (50 + 6 * s + 3) = 2)))) (fun M1 => LodgeAt M1 a (if P (50 + 6 * s + 3) = 2 then stateP P s 4 else P) ∧ Same M M1 a (a + 7))) := by
  obtain ⟨fc, fm, fs, hG, hr⟩ := id hL
  refine Run.of (l0 := [some (.ref a), some (.int (nI s))]) (by decide +kernel) (Nat.le_of_ble_eq_true rfl) (by rfl) (fun Γ G C => ?_)
  refine pw_aload_n (q := 1) (j := 0) C dX0_scraps_0 rfl rfl rfl ?_
  refine pw_iload_n (q := 2) (j := 1) C dX0_scraps_1 rfl rfl rfl ?_
  refine pw_rd (q := 5) (cr_v (j := iX2_mayScrap) C dX0_scraps_2 lX0_32 mX2_mayScrap (ro_mk (by decide) (by decide)) hG.1 rfl (k_mayScrap_in hL hI hs) rfl rfl (Nat.le_of_ble_eq_true rfl) ⟨by omega, by omega⟩) rfl ?_
  refine pw_if_ne_b (q := 8) 10 C dX0_scraps_5 (by decide) rfl (fun g5 => ?_) (fun g5 => ?_)
  · refine pw_aload_n (q := 11) (j := 0) C dX0_scraps_10 rfl rfl rfl ?_
    refine pw_iload_n (q := 12) (j := 1) C dX0_scraps_11 rfl rfl rfl ?_
    refine pw_val (q := 15) (cr_v (j := iX2_scrapStone) C dX0_scraps_12 lX0_35 mX2_scrapStone (ro_mk (by decide) (by decide)) hG.1 rfl (w_scrap hL hI hs (hI9 g5)) rfl rfl (Nat.le_of_ble_eq_true rfl) ⟨by omega, by omega⟩) rfl (fun M12 e12 => ?_)
    refine pw_pop (q := 16) C dX0_scraps_15 rfl rfl ?_
    refine pw_iconst_n (q := 17) C 1 dX0_scraps_16 (by decide +kernel) rfl ?_
    exact pw_zret C dX0_scraps_17 rfl (by first | decide +kernel | exact nar_bN _ | exact nar_01 (by omega)) ⟨by omega, by omega⟩ (RV.mk (v1 g5) ⟨by rw [if_pos g5]; exact e12.1, e12.2⟩)
  · refine pw_iconst_n (q := 9) C 0 dX0_scraps_8 (by decide +kernel) rfl ?_
    exact pw_zret C dX0_scraps_9 rfl (by first | decide +kernel | exact nar_bN _ | exact nar_01 (by omega)) ⟨by omega, by omega⟩ (RV.mk (v0 g5) ⟨by rw [if_neg g5]; exact hL, Same.rf⟩)
set_option maxHeartbeats 200000 in
set_option maxRecDepth 100000 in
theorem a_scraps_bad {M : PH} {a : Nat} {P : Nat → Nat} (hL : LodgeAt M a P) (hI : Inv P) {s : Int32} (hbad : badR s (P 7)) : Run iX0_scraps [.ref a, .int s] M 0 0 (RV (.int (nI 0)) (fun M1 => M1 = M)) := by
  obtain ⟨fc, fm, fs, hG, hr⟩ := id hL
  refine Run.of (l0 := [some (.ref a), some (.int s)]) (by decide +kernel) (Nat.le_of_ble_eq_true rfl) (by rfl) (fun Γ G C => ?_)
  refine pw_aload_n (q := 1) (j := 0) C dX0_scraps_0 rfl rfl rfl ?_
  refine pw_iload_n (q := 2) (j := 1) C dX0_scraps_1 rfl rfl rfl ?_
  refine pw_rd (q := 5) (cr_v (j := iX2_mayScrap) C dX0_scraps_2 lX0_32 mX2_mayScrap (ro_mk (by decide) (by decide)) hG.1 rfl (k_mayScrap_bad hL hI hbad) rfl rfl (Nat.le_of_ble_eq_true rfl) ⟨by omega, by omega⟩) rfl ?_
  refine pw_if_ne_n (q := 8) 10 C dX0_scraps_5 (by decide) rfl (by omega) (fun g5 => absurd g5 (by omega)) (fun g5 => ?_)
  refine pw_iconst_n (q := 9) C 0 dX0_scraps_8 (by decide +kernel) rfl ?_
  exact pw_zret C dX0_scraps_9 rfl (by first | decide +kernel | exact nar_bN _ | exact nar_01 (by omega)) ⟨by omega, by omega⟩ (RV.mk (by rfl) rfl)
set_option maxHeartbeats 200000 in
set_option maxRecDepth 100000 in
theorem a_sets {M : PH} {a : Nat} {P : Nat → Nat} (hL : LodgeAt M a P) (hI : Inv P) {s : Nat} (hs : s < P 7) (hI9 : why P s = 0 → Inv (stateP P s 3)) : Run iX0_sets [.ref a, .int (nI s)] M 0 0 (RV (.int (nI (bN (why P s = 0)))) (fun M1 => LodgeAt M1 a (if why P s = 0 then stateP P s 3 else P) ∧ Same M M1 a (a + 7))) := by
  obtain ⟨fc, fm, fs, hG, hr⟩ := id hL
  have w9 : why P s ≤ 4 := by unfold why; split <;> (try split) <;> (try split) <;> (try split) <;> omega
  refine Run.of (l0 := [some (.ref a), some (.int (nI s))]) (by decide +kernel) (Nat.le_of_ble_eq_true rfl) (by rfl) (fun Γ G C => ?_)
  refine pw_aload_n (q := 1) (j := 0) C dX0_sets_0 rfl rfl rfl ?_
  refine pw_iload_n (q := 2) (j := 1) C dX0_sets_1 rfl rfl rfl ?_
  refine pw_rd (q := 5) (cr_v (j := iX2_hindrance) C dX0_sets_2 lX0_38 mX2_hindrance (ro_mk (by decide) (by decide)) hG.1 rfl (k_hindrance_in hL hI hs) rfl rfl (Nat.le_of_ble_eq_true rfl) ⟨by omega, by omega⟩) rfl ?_
  refine pw_if_eq_n (q := 8) 10 C dX0_sets_5 (by decide) rfl (by omega) (fun g5 => ?_) (fun g5 => ?_)
  · refine pw_aload_n (q := 11) (j := 0) C dX0_sets_10 rfl rfl rfl ?_
    refine pw_iload_n (q := 12) (j := 1) C dX0_sets_11 rfl rfl rfl ?_
    refine pw_val (q := 15) (cr_v (j := iX2_setStone) C dX0_sets_12 lX0_41 mX2_setStone (ro_mk (by decide) (by decide)) hG.1 rfl (w_set hL hI hs (hI9 g5)) rfl rfl (Nat.le_of_ble_eq_true rfl) ⟨by omega, by omega⟩) rfl (fun M12 e12 => ?_)
    refine pw_pop (q := 16) C dX0_sets_15 rfl rfl ?_
    refine pw_iconst_n (q := 17) C 1 dX0_sets_16 (by decide +kernel) rfl ?_
    exact pw_zret C dX0_sets_17 rfl (by first | decide +kernel | exact nar_bN _ | exact nar_01 (by omega)) ⟨by omega, by omega⟩ (RV.mk (v1 g5) ⟨by rw [if_pos g5]; exact e12.1, e12.2⟩)
  · refine pw_iconst_n (q := 9) C 0 dX0_sets_8 (by decide +kernel) rfl ?_
    exact pw_zret C dX0_sets_9 rfl (by first | decide +kernel | exact nar_bN _ | exact nar_01 (by omega)) ⟨by omega, by omega⟩ (RV.mk (v0 g5) ⟨by rw [if_neg g5]; exact hL, Same.rf⟩)
set_option maxHeartbeats 200000 in
set_option maxRecDepth 100000 in
theorem a_sets_bad {M : PH} {a : Nat} {P : Nat → Nat} (hL : LodgeAt M a P) (hI : Inv P) {s : Int32} (hbad : badR s (P 7)) : Run iX0_sets [.ref a, .int s] M 0 0 (RV (.int (nI 0)) (fun M1 => M1 = M)) := by
  obtain ⟨fc, fm, fs, hG, hr⟩ := id hL
  refine Run.of (l0 := [some (.ref a), some (.int s)]) (by decide +kernel) (Nat.le_of_ble_eq_true rfl) (by rfl) (fun Γ G C => ?_)
  refine pw_aload_n (q := 1) (j := 0) C dX0_sets_0 rfl rfl rfl ?_
  refine pw_iload_n (q := 2) (j := 1) C dX0_sets_1 rfl rfl rfl ?_
  refine pw_rd (q := 5) (cr_v (j := iX2_hindrance) C dX0_sets_2 lX0_38 mX2_hindrance (ro_mk (by decide) (by decide)) hG.1 rfl (k_hindrance_bad hL hI hbad) rfl rfl (Nat.le_of_ble_eq_true rfl) ⟨by omega, by omega⟩) rfl ?_
  refine pw_if_eq_n (q := 8) 10 C dX0_sets_5 (by decide) rfl (by omega) (fun g5 => absurd g5 (by omega)) (fun g5 => ?_)
  refine pw_iconst_n (q := 9) C 0 dX0_sets_8 (by decide +kernel) rfl ?_
  exact pw_zret C dX0_sets_9 rfl (by first | decide +kernel | exact nar_bN _ | exact nar_01 (by omega)) ⟨by omega, by omega⟩ (RV.mk (by rfl) rfl)
