/-! Simulation. -/
/-- the lowest stone of a state; P 7 if there is none -/
def lowS (P : Nat → Nat) (st : Nat) : Nat := fst (fun s => P (50 + 6 * s + 3) = st) (P 7)
def lowW (P : Nat → Nat) : Nat := fst (fun s => why P s = 0) (P 7)
def setLowP (P : Nat → Nat) : Nat → Nat := if lowW P < P 7 then stateP P (lowW P) 3 else P
def scrapLowP (P : Nat → Nat) : Nat → Nat := if lowS P 2 < P 7 then stateP P (lowS P 2) 4 else P
def recLowP (P : Nat → Nat) (m : Nat) : Nat → Nat := if lowS P 2 < P 7 then (match recutC P (lowS P 2) with
  | some c => if canRecut P m (lowS P 2) c then recutP P m (lowS P 2) c else stateP P (lowS P 2) 4
  | none => stateP P (lowS P 2) 4) else P
def roundP (P : Nat → Nat) (r : Nat) : Nat → Nat :=
  if r % 8 ≤ 2 then (if 0 < P 6 ∧ 0 < P 5 ∧ canCut P (r / 8 % P 6) (r / 64 % P 5) then cutP P (r / 8 % P 6) (r / 64 % P 5) (r / 1024 % 10) else P)
  else if r % 8 ≤ 4 then (if lowS P 0 < P 7 then inspectP P (lowS P 0) else P)
  else if r % 8 = 5 then setLowP P
  else if r % 8 = 6 then (if 0 < P 6 then recLowP P (r / 8 % P 6) else scrapLowP P)
  else dayP P (if r / 8 % 4 = 0 then 1 else 0)
section
variable {M : PH} {a : Nat} {P : Nat → Nat} {fc fm fs : Nat → Int32}
theorem g_low (hG : LodgeG M a P fc fm fs) (hr : RelA P fc fm fs) (hI : Inv P) {st : Nat} (hst : st < 2147483648) (h : lowS P st < P 7) : Run iX8_firstWith [.ref (a + 5), .int (nI 3), .int (nI st)] M 0 0 (RV (.int (nI (lowS P st))) (fun M1 => M1 = M)) := by
  have t := g_fS hG hr hI hst
  rw [show orNone (fst (fun s => P (50 + 6 * s + 3) = st) (P 7)) (P 7) = nI (lowS P st) from if_pos h] at t
  exact t
theorem g_lowN (hG : LodgeG M a P fc fm fs) (hr : RelA P fc fm fs) (hI : Inv P) {st : Nat} (hst : st < 2147483648) (h : ¬ lowS P st < P 7) : Run iX8_firstWith [.ref (a + 5), .int (nI 3), .int (nI st)] M 0 0 (RV (.int (-9)) (fun M1 => M1 = M)) := by
  have t := g_fS hG hr hI hst
  rw [show orNone (fst (fun s => P (50 + 6 * s + 3) = st) (P 7)) (P 7) = -9 from if_neg h] at t
  exact t
theorem recutC_lt {s c : Nat} (h : recutC P s = some c) : c < P 5 := by
  unfold recutC at h
  split at h
  · exact rcut_lt h
  · cases h
theorem k_rf_some (hL : LodgeAt M a P) (hI : Inv P) {s c : Nat} (hs : s < P 7) (h : recutC P s = some c) : Run iX2_courseForRecut [.ref a, .int (nI s)] M 0 0 (RV (.int (nI c)) (fun M1 => M1 = M)) := by
  have t := k_recutFor_in hL hI hs
  rw [h] at t
  exact t
theorem k_rf_none (hL : LodgeAt M a P) (hI : Inv P) {s : Nat} (hs : s < P 7) (h : recutC P s = none) : Run iX2_courseForRecut [.ref a, .int (nI s)] M 0 0 (RV (.int (-9)) (fun M1 => M1 = M)) := by
  have t := k_recutFor_in hL hI hs
  rw [h] at t
  exact t
end
set_option maxHeartbeats 200000 in
set_option maxRecDepth 100000 in
theorem u_rem {M : PH} {n R : Nat} (hn : n < 2147483648) (hR : 0 < R) (hR2 : R < 2147483648) : Run iX7_remainder [.int (nI n), .int (nI R)] M 0 0 (RV (.int (nI (n % R))) (fun M1 => M1 = M)) := by
  refine Run.of (l0 := [some (.int (nI n)), some (.int (nI R))]) (by decide +kernel) (Nat.le_of_ble_eq_true rfl) (by rfl) (fun Γ G C => ?_)
  refine pw_iload_n (q := 1) (j := 1) C dX7_remainder_0 rfl rfl rfl ?_
  refine pw_if_le_n (q := 4) 10 C dX7_remainder_1 (by decide) rfl (by omega) (fun g1 => absurd g1 (by omega)) (fun g1 => ?_)
  refine pw_iload_n (q := 5) (j := 0) C dX7_remainder_4 rfl rfl rfl ?_
  refine pw_iload_n (q := 6) (j := 1) C dX7_remainder_5 rfl rfl rfl ?_
  refine pw_irem_n (q := 7) C dX7_remainder_6 (by omega) (by omega) (by omega) rfl ?_
  refine pw_goto (q := 0) 12 C dX7_remainder_7 (by decide) ?_
  exact pw_iret C dX7_remainder_12 rfl ⟨by omega, by omega⟩ (RV.mk (by rfl) rfl)
set_option maxHeartbeats 200000 in
set_option maxRecDepth 100000 in
theorem u_remN {M : PH} {n R : Nat} (hR : R = 0) : Run iX7_remainder [.int (nI n), .int (nI R)] M 0 0 (RV (.int (-9)) (fun M1 => M1 = M)) := by
  refine Run.of (l0 := [some (.int (nI n)), some (.int (nI R))]) (by decide +kernel) (Nat.le_of_ble_eq_true rfl) (by rfl) (fun Γ G C => ?_)
  refine pw_iload_n (q := 1) (j := 1) C dX7_remainder_0 rfl rfl rfl ?_
  refine pw_if_le_n (q := 4) 10 C dX7_remainder_1 (by decide) rfl (by omega) (fun g1 => ?_) (fun g1 => absurd g1 (by omega))
  refine pw_bipush (q := 12) (v := (-9)) C dX7_remainder_10 (by decide +kernel) rfl ?_
  exact pw_iret C dX7_remainder_12 rfl ⟨by omega, by omega⟩ (RV.mk (by rfl) rfl)
set_option maxHeartbeats 200000 in
set_option maxRecDepth 100000 in
theorem u_setLow {M : PH} {a : Nat} {P : Nat → Nat} (hL : LodgeAt M a P) (hI : Inv P) : Run iX7_setLowest [.ref a] M 0 0 (RN (fun M1 => LodgeAt M1 a (setLowP P) ∧ Same M M1 a (a + 7))) := by
  obtain ⟨fc, fm, fs, hG, hr⟩ := id hL
  have hb := hI.b
  refine Run.of (l0 := [some (.ref a), none]) (by decide +kernel) (Nat.le_of_ble_eq_true rfl) (by rfl) (fun Γ G C => ?_)
  have loop : ∀ (d s : Nat), s + d = P 7 → (∀ j, j < s → ¬ why P j = 0) → PW Γ G (ZJ Γ G 0 0 (RN (fun M1 => LodgeAt M1 a (setLowP P) ∧ Same M M1 a (a + 7)))) 2 [some (.ref a), some (.int (nI s))] [] M 0 0 := by
    intro d
    induction d with
    | zero =>
      intro s hd
      intro hno
      refine pw_iload_n (q := 3) (j := 1) C dX7_setLowest_2 rfl rfl rfl ?_
      refine pw_aload_n (q := 4) (j := 0) C dX7_setLowest_3 rfl rfl rfl ?_
      refine pw_getf (q := 7) C dX7_setLowest_4 fX7_36 hG.1 (by rfl) rfl ?_
      refine pw_rd (q := 10) (cr_v (j := iX8_size) C dX7_setLowest_7 lX7_15 mX8_size (ro_mk (by decide) (by decide)) hG.2.2.2.1 rfl (k_size hG.2.2.2) rfl rfl (Nat.le_of_ble_eq_true rfl) ⟨by omega, by omega⟩) rfl ?_
      refine pw_icmp_ge_n (q := 13) 34 C dX7_setLowest_10 (by decide) rfl (by omega) (by omega) (fun g10 => ?_) (fun g10 => absurd g10 (by omega))
      exact pw_vret C dX7_setLowest_34 rfl ⟨by omega, by omega⟩ (RN.mk ⟨by rw [setLowP, if_neg (by rw [lowW, fst_none (fun j hj => hno j (by omega))]; exact Nat.lt_irrefl _)]; exact hL, Same.rf⟩)
    | succ d ih =>
      intro s hd
      intro hno
      refine pw_iload_n (q := 3) (j := 1) C dX7_setLowest_2 rfl rfl rfl ?_
      refine pw_aload_n (q := 4) (j := 0) C dX7_setLowest_3 rfl rfl rfl ?_
      refine pw_getf (q := 7) C dX7_setLowest_4 fX7_36 hG.1 (by rfl) rfl ?_
      refine pw_rd (q := 10) (cr_v (j := iX8_size) C dX7_setLowest_7 lX7_15 mX8_size (ro_mk (by decide) (by decide)) hG.2.2.2.1 rfl (k_size hG.2.2.2) rfl rfl (Nat.le_of_ble_eq_true rfl) ⟨by omega, by omega⟩) rfl ?_
      refine pw_icmp_ge_n (q := 13) 34 C dX7_setLowest_10 (by decide) rfl (by omega) (by omega) (fun g10 => absurd g10 (by omega)) (fun g10 => ?_)
      refine pw_aload_n (q := 14) (j := 0) C dX7_setLowest_13 rfl rfl rfl ?_
      refine pw_iload_n (q := 15) (j := 1) C dX7_setLowest_14 rfl rfl rfl ?_
      have w9 : why P s ≤ 4 := by unfold why; split <;> (try split) <;> (try split) <;> (try split) <;> omega
      refine pw_rd (q := 18) (cr_v (j := iX2_hindrance) C dX7_setLowest_15 lX7_58 mX2_hindrance (ro_mk (by decide) (by decide)) hG.1 rfl (k_hindrance_in hL hI (by omega)) rfl rfl (Nat.le_of_ble_eq_true rfl) ⟨by omega, by omega⟩) rfl ?_
      refine pw_if_ne_n (q := 21) 28 C dX7_setLowest_18 (by decide) rfl (by omega) (fun g18 => ?_) (fun g18 => ?_)
      · refine pw_iinc_n (q := 31) C 1 dX7_setLowest_28 rfl (by decide +kernel) rfl (by decide) rfl ?_
        refine pw_goto (q := 0) 2 C dX7_setLowest_31 (by decide) ?_
        exact ih (s + 1) (by omega) (fun j hj => (Nat.lt_succ_iff_lt_or_eq.mp hj).elim (hno j) (fun h => h ▸ g18))
      · refine pw_aload_n (q := 22) (j := 0) C dX7_setLowest_21 rfl rfl rfl ?_
        refine pw_iload_n (q := 23) (j := 1) C dX7_setLowest_22 rfl rfl rfl ?_
        refine pw_val (q := 26) (cr_v (j := iX2_setStone) C dX7_setLowest_23 lX7_62 mX2_setStone (ro_mk (by decide) (by decide)) hG.1 rfl (w_set hL hI (by omega) (hI.set (by omega) g18)) rfl rfl (Nat.le_of_ble_eq_true rfl) ⟨by omega, by omega⟩) rfl (fun M23 e23 => ?_)
        refine pw_pop (q := 27) C dX7_setLowest_26 rfl rfl ?_
        exact pw_vret C dX7_setLowest_27 rfl ⟨by omega, by omega⟩ (RN.mk ⟨by rw [setLowP, show lowW P = s from fst_eq (by omega) g18 hno, if_pos (by omega)]; exact e23.1, e23.2⟩)
  refine pw_iconst_n (q := 1) C 0 dX7_setLowest_0 (by decide +kernel) rfl ?_
  refine pw_istore_n (q := 2) (j := 1) C dX7_setLowest_1 rfl rfl (by decide) rfl ?_
  exact loop (P 7) 0 (by omega) (fun j h => absurd h (Nat.not_lt_zero j))
set_option maxHeartbeats 200000 in
set_option maxRecDepth 100000 in
theorem u_recLowN {M : PH} {a : Nat} {P : Nat → Nat} (hL : LodgeAt M a P) (hI : Inv P) {m : Int32} (hbad : badR m (P 6)) : Run iX7_recutLowest [.ref a, .int m] M 0 0 (RN (fun M1 => LodgeAt M1 a (scrapLowP P) ∧ Same M M1 a (a + 7))) := by
  obtain ⟨fc, fm, fs, hG, hr⟩ := id hL
  have hb := hI.b
  refine Run.of (l0 := [some (.ref a), some (.int m), none]) (by decide +kernel) (Nat.le_of_ble_eq_true rfl) (by rfl) (fun Γ G C => ?_)
  refine pw_aload_n (q := 1) (j := 0) C dX7_recutLowest_0 rfl rfl rfl ?_
  refine pw_getf (q := 4) C dX7_recutLowest_1 fX7_36 hG.1 (by rfl) rfl ?_
  by_cases hs : lowS P 2 < P 7
  · refine pw_iconst_n (q := 5) C 3 dX7_recutLowest_4 (by decide +kernel) rfl ?_
    refine pw_iconst_n (q := 6) C 2 dX7_recutLowest_5 (by decide +kernel) rfl ?_
    rcases hc : recutC P (lowS P 2) with _ | c
    · refine pw_rd (q := 9) (cr_v (j := iX8_firstWith) C dX7_recutLowest_6 lX7_39 mX8_firstWith (ro_mk (by decide) (by decide)) hG.2.2.2.1 rfl (g_low hG hr hI (by omega) hs) rfl rfl (Nat.le_of_ble_eq_true rfl) ⟨by omega, by omega⟩) rfl ?_
      refine pw_istore_n (q := 10) (j := 2) C dX7_recutLowest_9 rfl rfl (by decide) rfl ?_
      refine pw_aload_n (q := 11) (j := 0) C dX7_recutLowest_10 rfl rfl rfl ?_
      refine pw_iload_n (q := 12) (j := 1) C dX7_recutLowest_11 rfl rfl rfl ?_
      refine pw_iload_n (q := 13) (j := 2) C dX7_recutLowest_12 rfl rfl rfl ?_
      refine pw_aload_n (q := 14) (j := 0) C dX7_recutLowest_13 rfl rfl rfl ?_
      refine pw_iload_n (q := 15) (j := 2) C dX7_recutLowest_14 rfl rfl rfl ?_
      refine pw_rd (q := 18) (cr_v (j := iX2_courseForRecut) C dX7_recutLowest_15 lX7_65 mX2_courseForRecut (ro_mk (by decide) (by decide)) hG.1 rfl (k_rf_none hL hI hs hc) rfl rfl (Nat.le_of_ble_eq_true rfl) ⟨by omega, by omega⟩) rfl ?_
      refine pw_rd (q := 21) (cr_s (j := iX0_recuts) C dX7_recutLowest_18 lX7_68 mX0_recuts (ro_mk (by decide) (by decide))  (a_recuts_badm hL hI hbad) rfl rfl (Nat.le_of_ble_eq_true rfl) ⟨by omega, by omega⟩) rfl ?_
      refine pw_if_ne_n (q := 24) 30 C dX7_recutLowest_21 (by decide) rfl (by omega) (fun g21 => absurd g21 (by omega)) (fun g21 => ?_)
      refine pw_aload_n (q := 25) (j := 0) C dX7_recutLowest_24 rfl rfl rfl ?_
      refine pw_iload_n (q := 26) (j := 2) C dX7_recutLowest_25 rfl rfl rfl ?_
      refine pw_val (q := 29) (cr_s (j := iX0_scraps) C dX7_recutLowest_26 lX7_71 mX0_scraps (ro_mk (by decide) (by decide))  (a_scraps hL hI hs (hI.scrap hs)) rfl rfl (Nat.le_of_ble_eq_true rfl) ⟨by omega, by omega⟩) rfl (fun M26 e26 => ?_)
      refine pw_pop (q := 30) C dX7_recutLowest_29 rfl rfl ?_
      exact pw_vret C dX7_recutLowest_30 rfl ⟨by omega, by omega⟩ (by
          have h2 : P (50 + 6 * lowS P 2 + 3) = 2 := fst_yes (p := fun s => P (50 + 6 * s + 3) = 2) hs
          rw [if_pos h2] at e26
          exact RN.mk ⟨by rw [scrapLowP, if_pos hs]; exact e26.1, e26.2⟩)
    · refine pw_rd (q := 9) (cr_v (j := iX8_firstWith) C dX7_recutLowest_6 lX7_39 mX8_firstWith (ro_mk (by decide) (by decide)) hG.2.2.2.1 rfl (g_low hG hr hI (by omega) hs) rfl rfl (Nat.le_of_ble_eq_true rfl) ⟨by omega, by omega⟩) rfl ?_
      refine pw_istore_n (q := 10) (j := 2) C dX7_recutLowest_9 rfl rfl (by decide) rfl ?_
      refine pw_aload_n (q := 11) (j := 0) C dX7_recutLowest_10 rfl rfl rfl ?_
      refine pw_iload_n (q := 12) (j := 1) C dX7_recutLowest_11 rfl rfl rfl ?_
      refine pw_iload_n (q := 13) (j := 2) C dX7_recutLowest_12 rfl rfl rfl ?_
      refine pw_aload_n (q := 14) (j := 0) C dX7_recutLowest_13 rfl rfl rfl ?_
      refine pw_iload_n (q := 15) (j := 2) C dX7_recutLowest_14 rfl rfl rfl ?_
      refine pw_rd (q := 18) (cr_v (j := iX2_courseForRecut) C dX7_recutLowest_15 lX7_65 mX2_courseForRecut (ro_mk (by decide) (by decide)) hG.1 rfl (k_rf_some hL hI hs hc) rfl rfl (Nat.le_of_ble_eq_true rfl) ⟨by omega, by omega⟩) rfl ?_
      refine pw_rd (q := 21) (cr_s (j := iX0_recuts) C dX7_recutLowest_18 lX7_68 mX0_recuts (ro_mk (by decide) (by decide))  (a_recuts_badm hL hI hbad) rfl rfl (Nat.le_of_ble_eq_true rfl) ⟨by omega, by omega⟩) rfl ?_
      refine pw_if_ne_n (q := 24) 30 C dX7_recutLowest_21 (by decide) rfl (by omega) (fun g21 => absurd g21 (by omega)) (fun g21 => ?_)
      refine pw_aload_n (q := 25) (j := 0) C dX7_recutLowest_24 rfl rfl rfl ?_
      refine pw_iload_n (q := 26) (j := 2) C dX7_recutLowest_25 rfl rfl rfl ?_
      refine pw_val (q := 29) (cr_s (j := iX0_scraps) C dX7_recutLowest_26 lX7_71 mX0_scraps (ro_mk (by decide) (by decide))  (a_scraps hL hI hs (hI.scrap hs)) rfl rfl (Nat.le_of_ble_eq_true rfl) ⟨by omega, by omega⟩) rfl (fun M26 e26 => ?_)
      refine pw_pop (q := 30) C dX7_recutLowest_29 rfl rfl ?_
      exact pw_vret C dX7_recutLowest_30 rfl ⟨by omega, by omega⟩ (by
          have h2 : P (50 + 6 * lowS P 2 + 3) = 2 := fst_yes (p := fun s => P (50 + 6 * s + 3) = 2) hs
          rw [if_pos h2] at e26
          exact RN.mk ⟨by rw [scrapLowP, if_pos hs]; exact e26.1, e26.2⟩)
  · refine pw_iconst_n (q := 5) C 3 dX7_recutLowest_4 (by decide +kernel) rfl ?_
    refine pw_iconst_n (q := 6) C 2 dX7_recutLowest_5 (by decide +kernel) rfl ?_
    refine pw_rd (q := 9) (cr_v (j := iX8_firstWith) C dX7_recutLowest_6 lX7_39 mX8_firstWith (ro_mk (by decide) (by decide)) hG.2.2.2.1 rfl (g_lowN hG hr hI (by omega) hs) rfl rfl (Nat.le_of_ble_eq_true rfl) ⟨by omega, by omega⟩) rfl ?_
    refine pw_istore_n (q := 10) (j := 2) C dX7_recutLowest_9 rfl rfl (by decide) rfl ?_
    refine pw_aload_n (q := 11) (j := 0) C dX7_recutLowest_10 rfl rfl rfl ?_
    refine pw_iload_n (q := 12) (j := 1) C dX7_recutLowest_11 rfl rfl rfl ?_
    refine pw_iload_n (q := 13) (j := 2) C dX7_recutLowest_12 rfl rfl rfl ?_
    refine pw_aload_n (q := 14) (j := 0) C dX7_recutLowest_13 rfl rfl rfl ?_
    refine pw_iload_n (q := 15) (j := 2) C dX7_recutLowest_14 rfl rfl rfl ?_
    refine pw_rd (q := 18) (cr_v (j := iX2_courseForRecut) C dX7_recutLowest_15 lX7_65 mX2_courseForRecut (ro_mk (by decide) (by decide)) hG.1 rfl (k_recutFor_bad hL hI (badNone _)) rfl rfl (Nat.le_of_ble_eq_true rfl) ⟨by omega, by omega⟩) rfl ?_
    refine pw_rd (q := 21) (cr_s (j := iX0_recuts) C dX7_recutLowest_18 lX7_68 mX0_recuts (ro_mk (by decide) (by decide))  (a_recuts_badm hL hI hbad) rfl rfl (Nat.le_of_ble_eq_true rfl) ⟨by omega, by omega⟩) rfl ?_
    refine pw_if_ne_n (q := 24) 30 C dX7_recutLowest_21 (by decide) rfl (by omega) (fun g21 => absurd g21 (by omega)) (fun g21 => ?_)
    refine pw_aload_n (q := 25) (j := 0) C dX7_recutLowest_24 rfl rfl rfl ?_
    refine pw_iload_n (q := 26) (j := 2) C dX7_recutLowest_25 rfl rfl rfl ?_
    refine pw_rd (q := 29) (cr_s (j := iX0_scraps) C dX7_recutLowest_26 lX7_71 mX0_scraps (ro_mk (by decide) (by decide))  (a_scraps_bad hL hI (badNone _)) rfl rfl (Nat.le_of_ble_eq_true rfl) ⟨by omega, by omega⟩) rfl ?_
    refine pw_pop (q := 30) C dX7_recutLowest_29 rfl rfl ?_
    exact pw_vret C dX7_recutLowest_30 rfl ⟨by omega, by omega⟩ (RN.mk ⟨by rw [scrapLowP, if_neg hs]; exact hL, Same.rf⟩)
set_option maxHeartbeats 200000 in
set_option maxRecDepth 100000 in
theorem u_recLow {M : PH} {a : Nat} {P : Nat → Nat} (hL : LodgeAt M a P) (hI : Inv P) {m : Nat} (hm : m < P 6) : Run iX7_recutLowest [.ref a, .int (nI m)] M 0 0 (RN (fun M1 => LodgeAt M1 a (recLowP P m) ∧ Same M M1 a (a + 7))) := by
  obtain ⟨fc, fm, fs, hG, hr⟩ := id hL
  have hb := hI.b
  refine Run.of (l0 := [some (.ref a), some (.int (nI m)), none]) (by decide +kernel) (Nat.le_of_ble_eq_true rfl) (by rfl) (fun Γ G C => ?_)
  refine pw_aload_n (q := 1) (j := 0) C dX7_recutLowest_0 rfl rfl rfl ?_
  refine pw_getf (q := 4) C dX7_recutLowest_1 fX7_36 hG.1 (by rfl) rfl ?_
  by_cases hs : lowS P 2 < P 7
  · refine pw_iconst_n (q := 5) C 3 dX7_recutLowest_4 (by decide +kernel) rfl ?_
    refine pw_iconst_n (q := 6) C 2 dX7_recutLowest_5 (by decide +kernel) rfl ?_
    rcases hc : recutC P (lowS P 2) with _ | c
    · refine pw_rd (q := 9) (cr_v (j := iX8_firstWith) C dX7_recutLowest_6 lX7_39 mX8_firstWith (ro_mk (by decide) (by decide)) hG.2.2.2.1 rfl (g_low hG hr hI (by omega) hs) rfl rfl (Nat.le_of_ble_eq_true rfl) ⟨by omega, by omega⟩) rfl ?_
      refine pw_istore_n (q := 10) (j := 2) C dX7_recutLowest_9 rfl rfl (by decide) rfl ?_
      refine pw_aload_n (q := 11) (j := 0) C dX7_recutLowest_10 rfl rfl rfl ?_
      refine pw_iload_n (q := 12) (j := 1) C dX7_recutLowest_11 rfl rfl rfl ?_
      refine pw_iload_n (q := 13) (j := 2) C dX7_recutLowest_12 rfl rfl rfl ?_
      refine pw_aload_n (q := 14) (j := 0) C dX7_recutLowest_13 rfl rfl rfl ?_
      refine pw_iload_n (q := 15) (j := 2) C dX7_recutLowest_14 rfl rfl rfl ?_
      refine pw_rd (q := 18) (cr_v (j := iX2_courseForRecut) C dX7_recutLowest_15 lX7_65 mX2_courseForRecut (ro_mk (by decide) (by decide)) hG.1 rfl (k_rf_none hL hI hs hc) rfl rfl (Nat.le_of_ble_eq_true rfl) ⟨by omega, by omega⟩) rfl ?_
      refine pw_rd (q := 21) (cr_s (j := iX0_recuts) C dX7_recutLowest_18 lX7_68 mX0_recuts (ro_mk (by decide) (by decide))  (a_recuts_badc hL hI hm hs (badNone _)) rfl rfl (Nat.le_of_ble_eq_true rfl) ⟨by omega, by omega⟩) rfl ?_
      refine pw_if_ne_n (q := 24) 30 C dX7_recutLowest_21 (by decide) rfl (by omega) (fun g21 => absurd g21 (by omega)) (fun g21 => ?_)
      refine pw_aload_n (q := 25) (j := 0) C dX7_recutLowest_24 rfl rfl rfl ?_
      refine pw_iload_n (q := 26) (j := 2) C dX7_recutLowest_25 rfl rfl rfl ?_
      refine pw_val (q := 29) (cr_s (j := iX0_scraps) C dX7_recutLowest_26 lX7_71 mX0_scraps (ro_mk (by decide) (by decide))  (a_scraps hL hI hs (hI.scrap hs)) rfl rfl (Nat.le_of_ble_eq_true rfl) ⟨by omega, by omega⟩) rfl (fun M26 e26 => ?_)
      refine pw_pop (q := 30) C dX7_recutLowest_29 rfl rfl ?_
      exact pw_vret C dX7_recutLowest_30 rfl ⟨by omega, by omega⟩ (by
          have h2 : P (50 + 6 * lowS P 2 + 3) = 2 := fst_yes (p := fun s => P (50 + 6 * s + 3) = 2) hs
          rw [if_pos h2] at e26
          exact RN.mk ⟨by rw [recLowP, if_pos hs, hc]; exact e26.1, e26.2⟩)
    · refine pw_rd (q := 9) (cr_v (j := iX8_firstWith) C dX7_recutLowest_6 lX7_39 mX8_firstWith (ro_mk (by decide) (by decide)) hG.2.2.2.1 rfl (g_low hG hr hI (by omega) hs) rfl rfl (Nat.le_of_ble_eq_true rfl) ⟨by omega, by omega⟩) rfl ?_
      refine pw_istore_n (q := 10) (j := 2) C dX7_recutLowest_9 rfl rfl (by decide) rfl ?_
      refine pw_aload_n (q := 11) (j := 0) C dX7_recutLowest_10 rfl rfl rfl ?_
      refine pw_iload_n (q := 12) (j := 1) C dX7_recutLowest_11 rfl rfl rfl ?_
      refine pw_iload_n (q := 13) (j := 2) C dX7_recutLowest_12 rfl rfl rfl ?_
      refine pw_aload_n (q := 14) (j := 0) C dX7_recutLowest_13 rfl rfl rfl ?_
      refine pw_iload_n (q := 15) (j := 2) C dX7_recutLowest_14 rfl rfl rfl ?_
      refine pw_rd (q := 18) (cr_v (j := iX2_courseForRecut) C dX7_recutLowest_15 lX7_65 mX2_courseForRecut (ro_mk (by decide) (by decide)) hG.1 rfl (k_rf_some hL hI hs hc) rfl rfl (Nat.le_of_ble_eq_true rfl) ⟨by omega, by omega⟩) rfl ?_
      refine pw_val (q := 21) (cr_s (j := iX0_recuts) C dX7_recutLowest_18 lX7_68 mX0_recuts (ro_mk (by decide) (by decide))  (a_recuts hL hI hm hs (recutC_lt hc)) rfl rfl (Nat.le_of_ble_eq_true rfl) ⟨by omega, by omega⟩) rfl (fun M18 e18 => ?_)
      refine pw_if_ne_b (q := 24) 30 C dX7_recutLowest_21 (by decide) rfl (fun g21 => ?_) (fun g21 => ?_)
      · exact pw_vret C dX7_recutLowest_30 rfl ⟨by omega, by omega⟩ (by
            rw [if_pos g21] at e18
            exact RN.mk ⟨by rw [recLowP, if_pos hs, hc]; dsimp only; rw [if_pos g21]; exact e18.1, e18.2⟩)
      · refine pw_aload_n (q := 25) (j := 0) C dX7_recutLowest_24 rfl rfl rfl ?_
        refine pw_iload_n (q := 26) (j := 2) C dX7_recutLowest_25 rfl rfl rfl ?_
        rw [if_neg g21] at e18
        refine pw_val (q := 29) (cr_s (j := iX0_scraps) C dX7_recutLowest_26 lX7_71 mX0_scraps (ro_mk (by decide) (by decide))  (a_scraps e18.1 hI hs (hI.scrap hs)) rfl rfl (Nat.le_of_ble_eq_true rfl) ⟨by omega, by omega⟩) rfl (fun M26 e26 => ?_)
        refine pw_pop (q := 30) C dX7_recutLowest_29 rfl rfl ?_
        exact pw_vret C dX7_recutLowest_30 rfl ⟨by omega, by omega⟩ (by
            have h2 : P (50 + 6 * lowS P 2 + 3) = 2 := fst_yes (p := fun s => P (50 + 6 * s + 3) = 2) hs
            rw [if_pos h2] at e26
            exact RN.mk ⟨by rw [recLowP, if_pos hs, hc]; dsimp only; rw [if_neg g21]; exact e26.1, e18.2.tr e26.2⟩)
  · refine pw_iconst_n (q := 5) C 3 dX7_recutLowest_4 (by decide +kernel) rfl ?_
    refine pw_iconst_n (q := 6) C 2 dX7_recutLowest_5 (by decide +kernel) rfl ?_
    refine pw_rd (q := 9) (cr_v (j := iX8_firstWith) C dX7_recutLowest_6 lX7_39 mX8_firstWith (ro_mk (by decide) (by decide)) hG.2.2.2.1 rfl (g_lowN hG hr hI (by omega) hs) rfl rfl (Nat.le_of_ble_eq_true rfl) ⟨by omega, by omega⟩) rfl ?_
    refine pw_istore_n (q := 10) (j := 2) C dX7_recutLowest_9 rfl rfl (by decide) rfl ?_
    refine pw_aload_n (q := 11) (j := 0) C dX7_recutLowest_10 rfl rfl rfl ?_
    refine pw_iload_n (q := 12) (j := 1) C dX7_recutLowest_11 rfl rfl rfl ?_
    refine pw_iload_n (q := 13) (j := 2) C dX7_recutLowest_12 rfl rfl rfl ?_
    refine pw_aload_n (q := 14) (j := 0) C dX7_recutLowest_13 rfl rfl rfl ?_
    refine pw_iload_n (q := 15) (j := 2) C dX7_recutLowest_14 rfl rfl rfl ?_
    refine pw_rd (q := 18) (cr_v (j := iX2_courseForRecut) C dX7_recutLowest_15 lX7_65 mX2_courseForRecut (ro_mk (by decide) (by decide)) hG.1 rfl (k_recutFor_bad hL hI (badNone _)) rfl rfl (Nat.le_of_ble_eq_true rfl) ⟨by omega, by omega⟩) rfl ?_
    refine pw_rd (q := 21) (cr_s (j := iX0_recuts) C dX7_recutLowest_18 lX7_68 mX0_recuts (ro_mk (by decide) (by decide))  (a_recuts_bads hL hI hm (badNone _)) rfl rfl (Nat.le_of_ble_eq_true rfl) ⟨by omega, by omega⟩) rfl ?_
    refine pw_if_ne_n (q := 24) 30 C dX7_recutLowest_21 (by decide) rfl (by omega) (fun g21 => absurd g21 (by omega)) (fun g21 => ?_)
    refine pw_aload_n (q := 25) (j := 0) C dX7_recutLowest_24 rfl rfl rfl ?_
    refine pw_iload_n (q := 26) (j := 2) C dX7_recutLowest_25 rfl rfl rfl ?_
    refine pw_rd (q := 29) (cr_s (j := iX0_scraps) C dX7_recutLowest_26 lX7_71 mX0_scraps (ro_mk (by decide) (by decide))  (a_scraps_bad hL hI (badNone _)) rfl rfl (Nat.le_of_ble_eq_true rfl) ⟨by omega, by omega⟩) rfl ?_
    refine pw_pop (q := 30) C dX7_recutLowest_29 rfl rfl ?_
    exact pw_vret C dX7_recutLowest_30 rfl ⟨by omega, by omega⟩ (RN.mk ⟨by rw [recLowP, if_neg hs]; exact hL, Same.rf⟩)
set_option maxHeartbeats 200000 in
set_option maxRecDepth 100000 in
theorem u_playRound {M : PH} {a : Nat} {P : Nat → Nat} (hL : LodgeAt M a P) (hI : Inv P) {r : Nat} (hr9 : r < 2147483648) : Run iX7_playRound [.ref a, .int (nI r)] M 0 0 (RN (fun M1 => LodgeAt M1 a (roundP P r) ∧ Same M M1 a (a + 7))) := by
  obtain ⟨fc, fm, fs, hG, hr⟩ := id hL
  have hb := hI.b
  refine Run.of (l0 := [some (.ref a), some (.int (nI r)), none]) (by decide +kernel) (Nat.le_of_ble_eq_true rfl) (by rfl) (fun Γ G C => ?_)
  refine pw_iload_n (q := 1) (j := 1) C dX7_playRound_0 rfl rfl rfl ?_
  refine pw_bipush_n (q := 3) C 8 dX7_playRound_1 (by decide +kernel) rfl ?_
  refine pw_idiv_n (q := 4) C dX7_playRound_3 (by omega) (by omega) (by omega) rfl ?_
  refine pw_aload_n (q := 5) (j := 0) C dX7_playRound_4 rfl rfl rfl ?_
  refine pw_getf (q := 8) C dX7_playRound_5 fX7_9 hG.1 (by rfl) rfl ?_
  refine pw_rd (q := 11) (cr_v (j := iX8_size) C dX7_playRound_8 lX7_15 mX8_size (ro_mk (by decide) (by decide)) hG.2.2.1.1 rfl (k_size hG.2.2.1) rfl rfl (Nat.le_of_ble_eq_true rfl) ⟨by omega, by omega⟩) rfl ?_
  by_cases h6 : 0 < P 6
  · refine pw_rd (q := 14) (cr_s (j := iX7_remainder) C dX7_playRound_11 lX7_21 mX7_remainder (ro_mk (by decide) (by decide))  (u_rem (n := r / 8) (by omega) h6 (by omega)) rfl rfl (Nat.le_of_ble_eq_true rfl) ⟨by omega, by omega⟩) rfl ?_
    have hm9 := Nat.mod_lt (r / 8) h6
    refine pw_istore_n (q := 15) (j := 2) C dX7_playRound_14 rfl rfl (by decide) rfl ?_
    refine pw_iload_n (q := 16) (j := 1) C dX7_playRound_15 rfl rfl rfl ?_
    refine pw_bipush_n (q := 18) C 8 dX7_playRound_16 (by decide +kernel) rfl ?_
    refine pw_irem_n (q := 19) C dX7_playRound_18 (by omega) (by omega) (by omega) rfl ?_
    rcases (show r % 8 = 0 ∨ r % 8 = 1 ∨ r % 8 = 2 ∨ r % 8 = 3 ∨ r % 8 = 4 ∨ r % 8 = 5 ∨ r % 8 = 6 ∨ r % 8 = 7 by omega) with h8 | h8 | h8 | h8 | h8 | h8 | h8 | h8
    · rw [h8]
      refine pw_tableIn (q := 0) 60 C dX7_playRound_19 (by decide +kernel) (by decide +kernel) (by rfl) (by decide) ?_
      refine pw_aload_n (q := 61) (j := 0) C dX7_playRound_60 rfl rfl rfl ?_
      refine pw_iload_n (q := 62) (j := 2) C dX7_playRound_61 rfl rfl rfl ?_
      refine pw_iload_n (q := 63) (j := 1) C dX7_playRound_62 rfl rfl rfl ?_
      refine pw_bipush_n (q := 65) C 64 dX7_playRound_63 (by decide +kernel) rfl ?_
      refine pw_idiv_n (q := 66) C dX7_playRound_65 (by omega) (by omega) (by omega) rfl ?_
      refine pw_aload_n (q := 67) (j := 0) C dX7_playRound_66 rfl rfl rfl ?_
      refine pw_getf (q := 70) C dX7_playRound_67 fX7_27 hG.1 (by rfl) rfl ?_
      refine pw_rd (q := 73) (cr_v (j := iX8_size) C dX7_playRound_70 lX7_15 mX8_size (ro_mk (by decide) (by decide)) hG.2.1.1 rfl (k_size hG.2.1) rfl rfl (Nat.le_of_ble_eq_true rfl) ⟨by omega, by omega⟩) rfl ?_
      by_cases h5 : 0 < P 5
      · refine pw_rd (q := 76) (cr_s (j := iX7_remainder) C dX7_playRound_73 lX7_21 mX7_remainder (ro_mk (by decide) (by decide))  (u_rem (n := r / 64) (by omega) h5 (by omega)) rfl rfl (Nat.le_of_ble_eq_true rfl) ⟨by omega, by omega⟩) rfl ?_
        have hc9 := Nat.mod_lt (r / 64) h5
        refine pw_iload_n (q := 77) (j := 1) C dX7_playRound_76 rfl rfl rfl ?_
        refine pw_sipush_n (q := 80) C 1024 dX7_playRound_77 (by decide +kernel) rfl ?_
        refine pw_idiv_n (q := 81) C dX7_playRound_80 (by omega) (by omega) (by omega) rfl ?_
        refine pw_bipush_n (q := 83) C 10 dX7_playRound_81 (by decide +kernel) rfl ?_
        refine pw_irem_n (q := 84) C dX7_playRound_83 (by omega) (by omega) (by omega) rfl ?_
        refine pw_val (q := 87) (cr_s (j := iX0_cuts) C dX7_playRound_84 lX7_30 mX0_cuts (ro_mk (by decide) (by decide))  (a_cuts hL hI hm9 hc9) rfl rfl (Nat.le_of_ble_eq_true rfl) ⟨by omega, by omega⟩) rfl (fun M84 e84 => ?_)
        refine pw_pop (q := 88) C dX7_playRound_87 rfl rfl ?_
        refine pw_goto (q := 0) 142 C dX7_playRound_88 (by decide) ?_
        exact pw_vret C dX7_playRound_142 rfl ⟨by omega, by omega⟩ (by
            rw [roundP, if_pos (by omega)]
            by_cases h9 : canCut P (r / 8 % P 6) (r / 64 % P 5)
            · rw [if_pos h9] at e84
              rw [if_pos ⟨h6, h5, h9⟩]
              exact RN.mk e84
            · rw [if_neg h9] at e84
              rw [if_neg (fun q => h9 q.2.2)]
              exact RN.mk e84)
      · refine pw_rd (q := 76) (cr_s (j := iX7_remainder) C dX7_playRound_73 lX7_21 mX7_remainder (ro_mk (by decide) (by decide))  (u_remN (n := r / 64) (by omega)) rfl rfl (Nat.le_of_ble_eq_true rfl) ⟨by omega, by omega⟩) rfl ?_
        refine pw_iload_n (q := 77) (j := 1) C dX7_playRound_76 rfl rfl rfl ?_
        refine pw_sipush_n (q := 80) C 1024 dX7_playRound_77 (by decide +kernel) rfl ?_
        refine pw_idiv_n (q := 81) C dX7_playRound_80 (by omega) (by omega) (by omega) rfl ?_
        refine pw_bipush_n (q := 83) C 10 dX7_playRound_81 (by decide +kernel) rfl ?_
        refine pw_irem_n (q := 84) C dX7_playRound_83 (by omega) (by omega) (by omega) rfl ?_
        refine pw_rd (q := 87) (cr_s (j := iX0_cuts) C dX7_playRound_84 lX7_30 mX0_cuts (ro_mk (by decide) (by decide))  (a_cuts_badc hL hI hm9 (badNone _)) rfl rfl (Nat.le_of_ble_eq_true rfl) ⟨by omega, by omega⟩) rfl ?_
        refine pw_pop (q := 88) C dX7_playRound_87 rfl rfl ?_
        refine pw_goto (q := 0) 142 C dX7_playRound_88 (by decide) ?_
        exact pw_vret C dX7_playRound_142 rfl ⟨by omega, by omega⟩ (RN.mk ⟨by rw [roundP, if_pos (by omega), if_neg (fun q => h5 q.2.1)]; exact hL, Same.rf⟩)
    · rw [h8]
      refine pw_tableIn (q := 0) 60 C dX7_playRound_19 (by decide +kernel) (by decide +kernel) (by rfl) (by decide) ?_
      refine pw_aload_n (q := 61) (j := 0) C dX7_playRound_60 rfl rfl rfl ?_
      refine pw_iload_n (q := 62) (j := 2) C dX7_playRound_61 rfl rfl rfl ?_
      refine pw_iload_n (q := 63) (j := 1) C dX7_playRound_62 rfl rfl rfl ?_
      refine pw_bipush_n (q := 65) C 64 dX7_playRound_63 (by decide +kernel) rfl ?_
      refine pw_idiv_n (q := 66) C dX7_playRound_65 (by omega) (by omega) (by omega) rfl ?_
      refine pw_aload_n (q := 67) (j := 0) C dX7_playRound_66 rfl rfl rfl ?_
      refine pw_getf (q := 70) C dX7_playRound_67 fX7_27 hG.1 (by rfl) rfl ?_
      refine pw_rd (q := 73) (cr_v (j := iX8_size) C dX7_playRound_70 lX7_15 mX8_size (ro_mk (by decide) (by decide)) hG.2.1.1 rfl (k_size hG.2.1) rfl rfl (Nat.le_of_ble_eq_true rfl) ⟨by omega, by omega⟩) rfl ?_
      by_cases h5 : 0 < P 5
      · refine pw_rd (q := 76) (cr_s (j := iX7_remainder) C dX7_playRound_73 lX7_21 mX7_remainder (ro_mk (by decide) (by decide))  (u_rem (n := r / 64) (by omega) h5 (by omega)) rfl rfl (Nat.le_of_ble_eq_true rfl) ⟨by omega, by omega⟩) rfl ?_
        have hc9 := Nat.mod_lt (r / 64) h5
        refine pw_iload_n (q := 77) (j := 1) C dX7_playRound_76 rfl rfl rfl ?_
        refine pw_sipush_n (q := 80) C 1024 dX7_playRound_77 (by decide +kernel) rfl ?_
        refine pw_idiv_n (q := 81) C dX7_playRound_80 (by omega) (by omega) (by omega) rfl ?_
        refine pw_bipush_n (q := 83) C 10 dX7_playRound_81 (by decide +kernel) rfl ?_
        refine pw_irem_n (q := 84) C dX7_playRound_83 (by omega) (by omega) (by omega) rfl ?_
        refine pw_val (q := 87) (cr_s (j := iX0_cuts) C dX7_playRound_84 lX7_30 mX0_cuts (ro_mk (by decide) (by decide))  (a_cuts hL hI hm9 hc9) rfl rfl (Nat.le_of_ble_eq_true rfl) ⟨by omega, by omega⟩) rfl (fun M84 e84 => ?_)
        refine pw_pop (q := 88) C dX7_playRound_87 rfl rfl ?_
        refine pw_goto (q := 0) 142 C dX7_playRound_88 (by decide) ?_
        exact pw_vret C dX7_playRound_142 rfl ⟨by omega, by omega⟩ (by
            rw [roundP, if_pos (by omega)]
            by_cases h9 : canCut P (r / 8 % P 6) (r / 64 % P 5)
            · rw [if_pos h9] at e84
              rw [if_pos ⟨h6, h5, h9⟩]
              exact RN.mk e84
            · rw [if_neg h9] at e84
              rw [if_neg (fun q => h9 q.2.2)]
              exact RN.mk e84)
      · refine pw_rd (q := 76) (cr_s (j := iX7_remainder) C dX7_playRound_73 lX7_21 mX7_remainder (ro_mk (by decide) (by decide))  (u_remN (n := r / 64) (by omega)) rfl rfl (Nat.le_of_ble_eq_true rfl) ⟨by omega, by omega⟩) rfl ?_
        refine pw_iload_n (q := 77) (j := 1) C dX7_playRound_76 rfl rfl rfl ?_
        refine pw_sipush_n (q := 80) C 1024 dX7_playRound_77 (by decide +kernel) rfl ?_
        refine pw_idiv_n (q := 81) C dX7_playRound_80 (by omega) (by omega) (by omega) rfl ?_
        refine pw_bipush_n (q := 83) C 10 dX7_playRound_81 (by decide +kernel) rfl ?_
        refine pw_irem_n (q := 84) C dX7_playRound_83 (by omega) (by omega) (by omega) rfl ?_
        refine pw_rd (q := 87) (cr_s (j := iX0_cuts) C dX7_playRound_84 lX7_30 mX0_cuts (ro_mk (by decide) (by decide))  (a_cuts_badc hL hI hm9 (badNone _)) rfl rfl (Nat.le_of_ble_eq_true rfl) ⟨by omega, by omega⟩) rfl ?_
        refine pw_pop (q := 88) C dX7_playRound_87 rfl rfl ?_
        refine pw_goto (q := 0) 142 C dX7_playRound_88 (by decide) ?_
        exact pw_vret C dX7_playRound_142 rfl ⟨by omega, by omega⟩ (RN.mk ⟨by rw [roundP, if_pos (by omega), if_neg (fun q => h5 q.2.1)]; exact hL, Same.rf⟩)
    · rw [h8]
      refine pw_tableIn (q := 0) 60 C dX7_playRound_19 (by decide +kernel) (by decide +kernel) (by rfl) (by decide) ?_
      refine pw_aload_n (q := 61) (j := 0) C dX7_playRound_60 rfl rfl rfl ?_
      refine pw_iload_n (q := 62) (j := 2) C dX7_playRound_61 rfl rfl rfl ?_
      refine pw_iload_n (q := 63) (j := 1) C dX7_playRound_62 rfl rfl rfl ?_
      refine pw_bipush_n (q := 65) C 64 dX7_playRound_63 (by decide +kernel) rfl ?_
      refine pw_idiv_n (q := 66) C dX7_playRound_65 (by omega) (by omega) (by omega) rfl ?_
      refine pw_aload_n (q := 67) (j := 0) C dX7_playRound_66 rfl rfl rfl ?_
      refine pw_getf (q := 70) C dX7_playRound_67 fX7_27 hG.1 (by rfl) rfl ?_
      refine pw_rd (q := 73) (cr_v (j := iX8_size) C dX7_playRound_70 lX7_15 mX8_size (ro_mk (by decide) (by decide)) hG.2.1.1 rfl (k_size hG.2.1) rfl rfl (Nat.le_of_ble_eq_true rfl) ⟨by omega, by omega⟩) rfl ?_
      by_cases h5 : 0 < P 5
      · refine pw_rd (q := 76) (cr_s (j := iX7_remainder) C dX7_playRound_73 lX7_21 mX7_remainder (ro_mk (by decide) (by decide))  (u_rem (n := r / 64) (by omega) h5 (by omega)) rfl rfl (Nat.le_of_ble_eq_true rfl) ⟨by omega, by omega⟩) rfl ?_
        have hc9 := Nat.mod_lt (r / 64) h5
        refine pw_iload_n (q := 77) (j := 1) C dX7_playRound_76 rfl rfl rfl ?_
        refine pw_sipush_n (q := 80) C 1024 dX7_playRound_77 (by decide +kernel) rfl ?_
        refine pw_idiv_n (q := 81) C dX7_playRound_80 (by omega) (by omega) (by omega) rfl ?_
        refine pw_bipush_n (q := 83) C 10 dX7_playRound_81 (by decide +kernel) rfl ?_
        refine pw_irem_n (q := 84) C dX7_playRound_83 (by omega) (by omega) (by omega) rfl ?_
        refine pw_val (q := 87) (cr_s (j := iX0_cuts) C dX7_playRound_84 lX7_30 mX0_cuts (ro_mk (by decide) (by decide))  (a_cuts hL hI hm9 hc9) rfl rfl (Nat.le_of_ble_eq_true rfl) ⟨by omega, by omega⟩) rfl (fun M84 e84 => ?_)
        refine pw_pop (q := 88) C dX7_playRound_87 rfl rfl ?_
        refine pw_goto (q := 0) 142 C dX7_playRound_88 (by decide) ?_
        exact pw_vret C dX7_playRound_142 rfl ⟨by omega, by omega⟩ (by
            rw [roundP, if_pos (by omega)]
            by_cases h9 : canCut P (r / 8 % P 6) (r / 64 % P 5)
            · rw [if_pos h9] at e84
              rw [if_pos ⟨h6, h5, h9⟩]
              exact RN.mk e84
            · rw [if_neg h9] at e84
              rw [if_neg (fun q => h9 q.2.2)]
              exact RN.mk e84)
      · refine pw_rd (q := 76) (cr_s (j := iX7_remainder) C dX7_playRound_73 lX7_21 mX7_remainder (ro_mk (by decide) (by decide))  (u_remN (n := r / 64) (by omega)) rfl rfl (Nat.le_of_ble_eq_true rfl) ⟨by omega, by omega⟩) rfl ?_
        refine pw_iload_n (q := 77) (j := 1) C dX7_playRound_76 rfl rfl rfl ?_
        refine pw_sipush_n (q := 80) C 1024 dX7_playRound_77 (by decide +kernel) rfl ?_
        refine pw_idiv_n (q := 81) C dX7_playRound_80 (by omega) (by omega) (by omega) rfl ?_
        refine pw_bipush_n (q := 83) C 10 dX7_playRound_81 (by decide +kernel) rfl ?_
        refine pw_irem_n (q := 84) C dX7_playRound_83 (by omega) (by omega) (by omega) rfl ?_
        refine pw_rd (q := 87) (cr_s (j := iX0_cuts) C dX7_playRound_84 lX7_30 mX0_cuts (ro_mk (by decide) (by decide))  (a_cuts_badc hL hI hm9 (badNone _)) rfl rfl (Nat.le_of_ble_eq_true rfl) ⟨by omega, by omega⟩) rfl ?_
        refine pw_pop (q := 88) C dX7_playRound_87 rfl rfl ?_
        refine pw_goto (q := 0) 142 C dX7_playRound_88 (by decide) ?_
        exact pw_vret C dX7_playRound_142 rfl ⟨by omega, by omega⟩ (RN.mk ⟨by rw [roundP, if_pos (by omega), if_neg (fun q => h5 q.2.1)]; exact hL, Same.rf⟩)
    · rw [h8]
      refine pw_tableIn (q := 0) 91 C dX7_playRound_19 (by decide +kernel) (by decide +kernel) (by rfl) (by decide) ?_
      refine pw_aload_n (q := 92) (j := 0) C dX7_playRound_91 rfl rfl rfl ?_
      refine pw_aload_n (q := 93) (j := 0) C dX7_playRound_92 rfl rfl rfl ?_
      refine pw_getf (q := 96) C dX7_playRound_93 fX7_36 hG.1 (by rfl) rfl ?_
      by_cases hs : lowS P 0 < P 7
      · refine pw_iconst_n (q := 97) C 3 dX7_playRound_96 (by decide +kernel) rfl ?_
        refine pw_iconst_n (q := 98) C 0 dX7_playRound_97 (by decide +kernel) rfl ?_
        refine pw_rd (q := 101) (cr_v (j := iX8_firstWith) C dX7_playRound_98 lX7_39 mX8_firstWith (ro_mk (by decide) (by decide)) hG.2.2.2.1 rfl (g_low hG hr hI (by omega) hs) rfl rfl (Nat.le_of_ble_eq_true rfl) ⟨by omega, by omega⟩) rfl ?_
        refine pw_val (q := 104) (cr_s (j := iX0_inspects) C dX7_playRound_101 lX7_42 mX0_inspects (ro_mk (by decide) (by decide))  (a_inspects hL hI hs) rfl rfl (Nat.le_of_ble_eq_true rfl) ⟨by omega, by omega⟩) rfl (fun M101 e101 => ?_)
        refine pw_pop (q := 105) C dX7_playRound_104 rfl rfl ?_
        refine pw_goto (q := 0) 142 C dX7_playRound_105 (by decide) ?_
        exact pw_vret C dX7_playRound_142 rfl ⟨by omega, by omega⟩ (by
            rw [if_pos (show P (50 + 6 * lowS P 0 + 3) = 0 from fst_yes (p := fun s => P (50 + 6 * s + 3) = 0) hs)] at e101
            exact RN.mk ⟨by rw [roundP, if_neg (by omega), if_pos (by omega), if_pos hs]; exact e101.1, e101.2⟩)
      · refine pw_iconst_n (q := 97) C 3 dX7_playRound_96 (by decide +kernel) rfl ?_
        refine pw_iconst_n (q := 98) C 0 dX7_playRound_97 (by decide +kernel) rfl ?_
        refine pw_rd (q := 101) (cr_v (j := iX8_firstWith) C dX7_playRound_98 lX7_39 mX8_firstWith (ro_mk (by decide) (by decide)) hG.2.2.2.1 rfl (g_lowN hG hr hI (by omega) hs) rfl rfl (Nat.le_of_ble_eq_true rfl) ⟨by omega, by omega⟩) rfl ?_
        refine pw_rd (q := 104) (cr_s (j := iX0_inspects) C dX7_playRound_101 lX7_42 mX0_inspects (ro_mk (by decide) (by decide))  (a_inspects_bad hL hI (badNone _)) rfl rfl (Nat.le_of_ble_eq_true rfl) ⟨by omega, by omega⟩) rfl ?_
        refine pw_pop (q := 105) C dX7_playRound_104 rfl rfl ?_
        refine pw_goto (q := 0) 142 C dX7_playRound_105 (by decide) ?_
        exact pw_vret C dX7_playRound_142 rfl ⟨by omega, by omega⟩ (RN.mk ⟨by rw [roundP, if_neg (by omega), if_pos (by omega), if_neg hs]; exact hL, Same.rf⟩)
    · rw [h8]
      refine pw_tableIn (q := 0) 91 C dX7_playRound_19 (by decide +kernel) (by decide +kernel) (by rfl) (by decide) ?_
      refine pw_aload_n (q := 92) (j := 0) C dX7_playRound_91 rfl rfl rfl ?_
      refine pw_aload_n (q := 93) (j := 0) C dX7_playRound_92 rfl rfl rfl ?_
      refine pw_getf (q := 96) C dX7_playRound_93 fX7_36 hG.1 (by rfl) rfl ?_
      by_cases hs : lowS P 0 < P 7
      · refine pw_iconst_n (q := 97) C 3 dX7_playRound_96 (by decide +kernel) rfl ?_
        refine pw_iconst_n (q := 98) C 0 dX7_playRound_97 (by decide +kernel) rfl ?_
        refine pw_rd (q := 101) (cr_v (j := iX8_firstWith) C dX7_playRound_98 lX7_39 mX8_firstWith (ro_mk (by decide) (by decide)) hG.2.2.2.1 rfl (g_low hG hr hI (by omega) hs) rfl rfl (Nat.le_of_ble_eq_true rfl) ⟨by omega, by omega⟩) rfl ?_
        refine pw_val (q := 104) (cr_s (j := iX0_inspects) C dX7_playRound_101 lX7_42 mX0_inspects (ro_mk (by decide) (by decide))  (a_inspects hL hI hs) rfl rfl (Nat.le_of_ble_eq_true rfl) ⟨by omega, by omega⟩) rfl (fun M101 e101 => ?_)
        refine pw_pop (q := 105) C dX7_playRound_104 rfl rfl ?_
        refine pw_goto (q := 0) 142 C dX7_playRound_105 (by decide) ?_
        exact pw_vret C dX7_playRound_142 rfl ⟨by omega, by omega⟩ (by
            rw [if_pos (show P (50 + 6 * lowS P 0 + 3) = 0 from fst_yes (p := fun s => P (50 + 6 * s + 3) = 0) hs)] at e101
            exact RN.mk ⟨by rw [roundP, if_neg (by omega), if_pos (by omega), if_pos hs]; exact e101.1, e101.2⟩)
      · refine pw_iconst_n (q := 97) C 3 dX7_playRound_96 (by decide +kernel) rfl ?_
        refine pw_iconst_n (q := 98) C 0 dX7_playRound_97 (by decide +kernel) rfl ?_
        refine pw_rd (q := 101) (cr_v (j := iX8_firstWith) C dX7_playRound_98 lX7_39 mX8_firstWith (ro_mk (by decide) (by decide)) hG.2.2.2.1 rfl (g_lowN hG hr hI (by omega) hs) rfl rfl (Nat.le_of_ble_eq_true rfl) ⟨by omega, by omega⟩) rfl ?_
        refine pw_rd (q := 104) (cr_s (j := iX0_inspects) C dX7_playRound_101 lX7_42 mX0_inspects (ro_mk (by decide) (by decide))  (a_inspects_bad hL hI (badNone _)) rfl rfl (Nat.le_of_ble_eq_true rfl) ⟨by omega, by omega⟩) rfl ?_
        refine pw_pop (q := 105) C dX7_playRound_104 rfl rfl ?_
        refine pw_goto (q := 0) 142 C dX7_playRound_105 (by decide) ?_
        exact pw_vret C dX7_playRound_142 rfl ⟨by omega, by omega⟩ (RN.mk ⟨by rw [roundP, if_neg (by omega), if_pos (by omega), if_neg hs]; exact hL, Same.rf⟩)
    · rw [h8]
      refine pw_tableIn (q := 0) 108 C dX7_playRound_19 (by decide +kernel) (by decide +kernel) (by rfl) (by decide) ?_
      refine pw_aload_n (q := 109) (j := 0) C dX7_playRound_108 rfl rfl rfl ?_
      refine pw_void (q := 112) (cr_s (j := iX7_setLowest) C dX7_playRound_109 lX7_46 mX7_setLowest (ro_mk (by decide) (by decide))  (u_setLow hL hI) rfl rfl (Nat.le_of_ble_eq_true rfl) ⟨by omega, by omega⟩) rfl (fun M109 e109 => ?_)
      refine pw_goto (q := 0) 142 C dX7_playRound_112 (by decide) ?_
      exact pw_vret C dX7_playRound_142 rfl ⟨by omega, by omega⟩ (RN.mk ⟨by rw [roundP, if_neg (by omega), if_neg (by omega), if_pos (by omega)]; exact e109.1, e109.2⟩)
    · rw [h8]
      refine pw_tableIn (q := 0) 115 C dX7_playRound_19 (by decide +kernel) (by decide +kernel) (by rfl) (by decide) ?_
      refine pw_aload_n (q := 116) (j := 0) C dX7_playRound_115 rfl rfl rfl ?_
      refine pw_iload_n (q := 117) (j := 2) C dX7_playRound_116 rfl rfl rfl ?_
      refine pw_void (q := 120) (cr_s (j := iX7_recutLowest) C dX7_playRound_117 lX7_50 mX7_recutLowest (ro_mk (by decide) (by decide))  (u_recLow hL hI hm9) rfl rfl (Nat.le_of_ble_eq_true rfl) ⟨by omega, by omega⟩) rfl (fun M117 e117 => ?_)
      refine pw_goto (q := 0) 142 C dX7_playRound_120 (by decide) ?_
      exact pw_vret C dX7_playRound_142 rfl ⟨by omega, by omega⟩ (RN.mk ⟨by rw [roundP, if_neg (by omega), if_neg (by omega), if_neg (by omega), if_pos (by omega), if_pos h6]; exact e117.1, e117.2⟩)
    · rw [h8]
      refine pw_tableOut (q := 0) 123 C dX7_playRound_19 (Or.inr (by decide +kernel)) (by decide) ?_
      refine pw_aload_n (q := 124) (j := 0) C dX7_playRound_123 rfl rfl rfl ?_
      refine pw_iload_n (q := 125) (j := 1) C dX7_playRound_124 rfl rfl rfl ?_
      refine pw_bipush_n (q := 127) C 8 dX7_playRound_125 (by decide +kernel) rfl ?_
      refine pw_idiv_n (q := 128) C dX7_playRound_127 (by omega) (by omega) (by omega) rfl ?_
      refine pw_iconst_n (q := 129) C 4 dX7_playRound_128 (by decide +kernel) rfl ?_
      refine pw_irem_n (q := 130) C dX7_playRound_129 (by omega) (by omega) (by omega) rfl ?_
      refine pw_if_ne_n (q := 133) 137 C dX7_playRound_130 (by decide) rfl (by omega) (fun g130 => ?_) (fun g130 => ?_)
      · refine pw_iconst_n (q := 138) C 0 dX7_playRound_137 (by decide +kernel) rfl ?_
        refine pw_val (q := 141) (cr_v (j := iX2_beginDay) C dX7_playRound_138 lX7_54 mX2_beginDay (ro_mk (by decide) (by decide)) hG.1 rfl (w_day (fr := 0) hL hI (by omega)) rfl rfl (Nat.le_of_ble_eq_true rfl) ⟨by omega, by omega⟩) rfl (fun M138 e138 => ?_)
        refine pw_pop (q := 142) C dX7_playRound_141 rfl rfl ?_
        exact pw_vret C dX7_playRound_142 rfl ⟨by omega, by omega⟩ (RN.mk ⟨by rw [roundP, if_neg (by omega), if_neg (by omega), if_neg (by omega), if_neg (by omega), if_neg (by omega)]; exact e138.1, e138.2⟩)
      · refine pw_iconst_n (q := 134) C 1 dX7_playRound_133 (by decide +kernel) rfl ?_
        refine pw_goto (q := 0) 138 C dX7_playRound_134 (by decide) ?_
        refine pw_val (q := 141) (cr_v (j := iX2_beginDay) C dX7_playRound_138 lX7_54 mX2_beginDay (ro_mk (by decide) (by decide)) hG.1 rfl (w_day (fr := 1) hL hI (by omega)) rfl rfl (Nat.le_of_ble_eq_true rfl) ⟨by omega, by omega⟩) rfl (fun M138 e138 => ?_)
        refine pw_pop (q := 142) C dX7_playRound_141 rfl rfl ?_
        exact pw_vret C dX7_playRound_142 rfl ⟨by omega, by omega⟩ (RN.mk ⟨by rw [roundP, if_neg (by omega), if_neg (by omega), if_neg (by omega), if_neg (by omega), if_pos (by omega)]; exact e138.1, e138.2⟩)
  · refine pw_rd (q := 14) (cr_s (j := iX7_remainder) C dX7_playRound_11 lX7_21 mX7_remainder (ro_mk (by decide) (by decide))  (u_remN (n := r / 8) (by omega)) rfl rfl (Nat.le_of_ble_eq_true rfl) ⟨by omega, by omega⟩) rfl ?_
    refine pw_istore_n (q := 15) (j := 2) C dX7_playRound_14 rfl rfl (by decide) rfl ?_
    refine pw_iload_n (q := 16) (j := 1) C dX7_playRound_15 rfl rfl rfl ?_
    refine pw_bipush_n (q := 18) C 8 dX7_playRound_16 (by decide +kernel) rfl ?_
    refine pw_irem_n (q := 19) C dX7_playRound_18 (by omega) (by omega) (by omega) rfl ?_
    rcases (show r % 8 = 0 ∨ r % 8 = 1 ∨ r % 8 = 2 ∨ r % 8 = 3 ∨ r % 8 = 4 ∨ r % 8 = 5 ∨ r % 8 = 6 ∨ r % 8 = 7 by omega) with h8 | h8 | h8 | h8 | h8 | h8 | h8 | h8
    · rw [h8]
      refine pw_tableIn (q := 0) 60 C dX7_playRound_19 (by decide +kernel) (by decide +kernel) (by rfl) (by decide) ?_
      refine pw_aload_n (q := 61) (j := 0) C dX7_playRound_60 rfl rfl rfl ?_
      refine pw_iload_n (q := 62) (j := 2) C dX7_playRound_61 rfl rfl rfl ?_
      refine pw_iload_n (q := 63) (j := 1) C dX7_playRound_62 rfl rfl rfl ?_
      refine pw_bipush_n (q := 65) C 64 dX7_playRound_63 (by decide +kernel) rfl ?_
      refine pw_idiv_n (q := 66) C dX7_playRound_65 (by omega) (by omega) (by omega) rfl ?_
      refine pw_aload_n (q := 67) (j := 0) C dX7_playRound_66 rfl rfl rfl ?_
      refine pw_getf (q := 70) C dX7_playRound_67 fX7_27 hG.1 (by rfl) rfl ?_
      refine pw_rd (q := 73) (cr_v (j := iX8_size) C dX7_playRound_70 lX7_15 mX8_size (ro_mk (by decide) (by decide)) hG.2.1.1 rfl (k_size hG.2.1) rfl rfl (Nat.le_of_ble_eq_true rfl) ⟨by omega, by omega⟩) rfl ?_
      by_cases h5 : 0 < P 5
      · refine pw_rd (q := 76) (cr_s (j := iX7_remainder) C dX7_playRound_73 lX7_21 mX7_remainder (ro_mk (by decide) (by decide))  (u_rem (n := r / 64) (by omega) h5 (by omega)) rfl rfl (Nat.le_of_ble_eq_true rfl) ⟨by omega, by omega⟩) rfl ?_
        have hc9 := Nat.mod_lt (r / 64) h5
        refine pw_iload_n (q := 77) (j := 1) C dX7_playRound_76 rfl rfl rfl ?_
        refine pw_sipush_n (q := 80) C 1024 dX7_playRound_77 (by decide +kernel) rfl ?_
        refine pw_idiv_n (q := 81) C dX7_playRound_80 (by omega) (by omega) (by omega) rfl ?_
        refine pw_bipush_n (q := 83) C 10 dX7_playRound_81 (by decide +kernel) rfl ?_
        refine pw_irem_n (q := 84) C dX7_playRound_83 (by omega) (by omega) (by omega) rfl ?_
        refine pw_rd (q := 87) (cr_s (j := iX0_cuts) C dX7_playRound_84 lX7_30 mX0_cuts (ro_mk (by decide) (by decide))  (a_cuts_badm hL hI (badNone _)) rfl rfl (Nat.le_of_ble_eq_true rfl) ⟨by omega, by omega⟩) rfl ?_
        refine pw_pop (q := 88) C dX7_playRound_87 rfl rfl ?_
        refine pw_goto (q := 0) 142 C dX7_playRound_88 (by decide) ?_
        exact pw_vret C dX7_playRound_142 rfl ⟨by omega, by omega⟩ (RN.mk ⟨by rw [roundP, if_pos (by omega), if_neg (fun q => h6 q.1)]; exact hL, Same.rf⟩)
      · refine pw_rd (q := 76) (cr_s (j := iX7_remainder) C dX7_playRound_73 lX7_21 mX7_remainder (ro_mk (by decide) (by decide))  (u_remN (n := r / 64) (by omega)) rfl rfl (Nat.le_of_ble_eq_true rfl) ⟨by omega, by omega⟩) rfl ?_
        refine pw_iload_n (q := 77) (j := 1) C dX7_playRound_76 rfl rfl rfl ?_
        refine pw_sipush_n (q := 80) C 1024 dX7_playRound_77 (by decide +kernel) rfl ?_
        refine pw_idiv_n (q := 81) C dX7_playRound_80 (by omega) (by omega) (by omega) rfl ?_
        refine pw_bipush_n (q := 83) C 10 dX7_playRound_81 (by decide +kernel) rfl ?_
        refine pw_irem_n (q := 84) C dX7_playRound_83 (by omega) (by omega) (by omega) rfl ?_
        refine pw_rd (q := 87) (cr_s (j := iX0_cuts) C dX7_playRound_84 lX7_30 mX0_cuts (ro_mk (by decide) (by decide))  (a_cuts_badm hL hI (badNone _)) rfl rfl (Nat.le_of_ble_eq_true rfl) ⟨by omega, by omega⟩) rfl ?_
        refine pw_pop (q := 88) C dX7_playRound_87 rfl rfl ?_
        refine pw_goto (q := 0) 142 C dX7_playRound_88 (by decide) ?_
        exact pw_vret C dX7_playRound_142 rfl ⟨by omega, by omega⟩ (RN.mk ⟨by rw [roundP, if_pos (by omega), if_neg (fun q => h6 q.1)]; exact hL, Same.rf⟩)
    · rw [h8]
      refine pw_tableIn (q := 0) 60 C dX7_playRound_19 (by decide +kernel) (by decide +kernel) (by rfl) (by decide) ?_
      refine pw_aload_n (q := 61) (j := 0) C dX7_playRound_60 rfl rfl rfl ?_
      refine pw_iload_n (q := 62) (j := 2) C dX7_playRound_61 rfl rfl rfl ?_
      refine pw_iload_n (q := 63) (j := 1) C dX7_playRound_62 rfl rfl rfl ?_
      refine pw_bipush_n (q := 65) C 64 dX7_playRound_63 (by decide +kernel) rfl ?_
      refine pw_idiv_n (q := 66) C dX7_playRound_65 (by omega) (by omega) (by omega) rfl ?_
      refine pw_aload_n (q := 67) (j := 0) C dX7_playRound_66 rfl rfl rfl ?_
      refine pw_getf (q := 70) C dX7_playRound_67 fX7_27 hG.1 (by rfl) rfl ?_
      refine pw_rd (q := 73) (cr_v (j := iX8_size) C dX7_playRound_70 lX7_15 mX8_size (ro_mk (by decide) (by decide)) hG.2.1.1 rfl (k_size hG.2.1) rfl rfl (Nat.le_of_ble_eq_true rfl) ⟨by omega, by omega⟩) rfl ?_
      by_cases h5 : 0 < P 5
      · refine pw_rd (q := 76) (cr_s (j := iX7_remainder) C dX7_playRound_73 lX7_21 mX7_remainder (ro_mk (by decide) (by decide))  (u_rem (n := r / 64) (by omega) h5 (by omega)) rfl rfl (Nat.le_of_ble_eq_true rfl) ⟨by omega, by omega⟩) rfl ?_
        have hc9 := Nat.mod_lt (r / 64) h5
        refine pw_iload_n (q := 77) (j := 1) C dX7_playRound_76 rfl rfl rfl ?_
        refine pw_sipush_n (q := 80) C 1024 dX7_playRound_77 (by decide +kernel) rfl ?_
        refine pw_idiv_n (q := 81) C dX7_playRound_80 (by omega) (by omega) (by omega) rfl ?_
        refine pw_bipush_n (q := 83) C 10 dX7_playRound_81 (by decide +kernel) rfl ?_
        refine pw_irem_n (q := 84) C dX7_playRound_83 (by omega) (by omega) (by omega) rfl ?_
        refine pw_rd (q := 87) (cr_s (j := iX0_cuts) C dX7_playRound_84 lX7_30 mX0_cuts (ro_mk (by decide) (by decide))  (a_cuts_badm hL hI (badNone _)) rfl rfl (Nat.le_of_ble_eq_true rfl) ⟨by omega, by omega⟩) rfl ?_
        refine pw_pop (q := 88) C dX7_playRound_87 rfl rfl ?_
        refine pw_goto (q := 0) 142 C dX7_playRound_88 (by decide) ?_
        exact pw_vret C dX7_playRound_142 rfl ⟨by omega, by omega⟩ (RN.mk ⟨by rw [roundP, if_pos (by omega), if_neg (fun q => h6 q.1)]; exact hL, Same.rf⟩)
      · refine pw_rd (q := 76) (cr_s (j := iX7_remainder) C dX7_playRound_73 lX7_21 mX7_remainder (ro_mk (by decide) (by decide))  (u_remN (n := r / 64) (by omega)) rfl rfl (Nat.le_of_ble_eq_true rfl) ⟨by omega, by omega⟩) rfl ?_
        refine pw_iload_n (q := 77) (j := 1) C dX7_playRound_76 rfl rfl rfl ?_
        refine pw_sipush_n (q := 80) C 1024 dX7_playRound_77 (by decide +kernel) rfl ?_
        refine pw_idiv_n (q := 81) C dX7_playRound_80 (by omega) (by omega) (by omega) rfl ?_
        refine pw_bipush_n (q := 83) C 10 dX7_playRound_81 (by decide +kernel) rfl ?_
        refine pw_irem_n (q := 84) C dX7_playRound_83 (by omega) (by omega) (by omega) rfl ?_
        refine pw_rd (q := 87) (cr_s (j := iX0_cuts) C dX7_playRound_84 lX7_30 mX0_cuts (ro_mk (by decide) (by decide))  (a_cuts_badm hL hI (badNone _)) rfl rfl (Nat.le_of_ble_eq_true rfl) ⟨by omega, by omega⟩) rfl ?_
        refine pw_pop (q := 88) C dX7_playRound_87 rfl rfl ?_
        refine pw_goto (q := 0) 142 C dX7_playRound_88 (by decide) ?_
        exact pw_vret C dX7_playRound_142 rfl ⟨by omega, by omega⟩ (RN.mk ⟨by rw [roundP, if_pos (by omega), if_neg (fun q => h6 q.1)]; exact hL, Same.rf⟩)
    · rw [h8]
      refine pw_tableIn (q := 0) 60 C dX7_playRound_19 (by decide +kernel) (by decide +kernel) (by rfl) (by decide) ?_
      refine pw_aload_n (q := 61) (j := 0) C dX7_playRound_60 rfl rfl rfl ?_
      refine pw_iload_n (q := 62) (j := 2) C dX7_playRound_61 rfl rfl rfl ?_
      refine pw_iload_n (q := 63) (j := 1) C dX7_playRound_62 rfl rfl rfl ?_
      refine pw_bipush_n (q := 65) C 64 dX7_playRound_63 (by decide +kernel) rfl ?_
      refine pw_idiv_n (q := 66) C dX7_playRound_65 (by omega) (by omega) (by omega) rfl ?_
      refine pw_aload_n (q := 67) (j := 0) C dX7_playRound_66 rfl rfl rfl ?_
      refine pw_getf (q := 70) C dX7_playRound_67 fX7_27 hG.1 (by rfl) rfl ?_
      refine pw_rd (q := 73) (cr_v (j := iX8_size) C dX7_playRound_70 lX7_15 mX8_size (ro_mk (by decide) (by decide)) hG.2.1.1 rfl (k_size hG.2.1) rfl rfl (Nat.le_of_ble_eq_true rfl) ⟨by omega, by omega⟩) rfl ?_
      by_cases h5 : 0 < P 5
      · refine pw_rd (q := 76) (cr_s (j := iX7_remainder) C dX7_playRound_73 lX7_21 mX7_remainder (ro_mk (by decide) (by decide))  (u_rem (n := r / 64) (by omega) h5 (by omega)) rfl rfl (Nat.le_of_ble_eq_true rfl) ⟨by omega, by omega⟩) rfl ?_
        have hc9 := Nat.mod_lt (r / 64) h5
        refine pw_iload_n (q := 77) (j := 1) C dX7_playRound_76 rfl rfl rfl ?_
        refine pw_sipush_n (q := 80) C 1024 dX7_playRound_77 (by decide +kernel) rfl ?_
        refine pw_idiv_n (q := 81) C dX7_playRound_80 (by omega) (by omega) (by omega) rfl ?_
        refine pw_bipush_n (q := 83) C 10 dX7_playRound_81 (by decide +kernel) rfl ?_
        refine pw_irem_n (q := 84) C dX7_playRound_83 (by omega) (by omega) (by omega) rfl ?_
        refine pw_rd (q := 87) (cr_s (j := iX0_cuts) C dX7_playRound_84 lX7_30 mX0_cuts (ro_mk (by decide) (by decide))  (a_cuts_badm hL hI (badNone _)) rfl rfl (Nat.le_of_ble_eq_true rfl) ⟨by omega, by omega⟩) rfl ?_
        refine pw_pop (q := 88) C dX7_playRound_87 rfl rfl ?_
        refine pw_goto (q := 0) 142 C dX7_playRound_88 (by decide) ?_
        exact pw_vret C dX7_playRound_142 rfl ⟨by omega, by omega⟩ (RN.mk ⟨by rw [roundP, if_pos (by omega), if_neg (fun q => h6 q.1)]; exact hL, Same.rf⟩)
      · refine pw_rd (q := 76) (cr_s (j := iX7_remainder) C dX7_playRound_73 lX7_21 mX7_remainder (ro_mk (by decide) (by decide))  (u_remN (n := r / 64) (by omega)) rfl rfl (Nat.le_of_ble_eq_true rfl) ⟨by omega, by omega⟩) rfl ?_
        refine pw_iload_n (q := 77) (j := 1) C dX7_playRound_76 rfl rfl rfl ?_
        refine pw_sipush_n (q := 80) C 1024 dX7_playRound_77 (by decide +kernel) rfl ?_
        refine pw_idiv_n (q := 81) C dX7_playRound_80 (by omega) (by omega) (by omega) rfl ?_
        refine pw_bipush_n (q := 83) C 10 dX7_playRound_81 (by decide +kernel) rfl ?_
        refine pw_irem_n (q := 84) C dX7_playRound_83 (by omega) (by omega) (by omega) rfl ?_
        refine pw_rd (q := 87) (cr_s (j := iX0_cuts) C dX7_playRound_84 lX7_30 mX0_cuts (ro_mk (by decide) (by decide))  (a_cuts_badm hL hI (badNone _)) rfl rfl (Nat.le_of_ble_eq_true rfl) ⟨by omega, by omega⟩) rfl ?_
        refine pw_pop (q := 88) C dX7_playRound_87 rfl rfl ?_
        refine pw_goto (q := 0) 142 C dX7_playRound_88 (by decide) ?_
        exact pw_vret C dX7_playRound_142 rfl ⟨by omega, by omega⟩ (RN.mk ⟨by rw [roundP, if_pos (by omega), if_neg (fun q => h6 q.1)]; exact hL, Same.rf⟩)
    · rw [h8]
      refine pw_tableIn (q := 0) 91 C dX7_playRound_19 (by decide +kernel) (by decide +kernel) (by rfl) (by decide) ?_
      refine pw_aload_n (q := 92) (j := 0) C dX7_playRound_91 rfl rfl rfl ?_
      refine pw_aload_n (q := 93) (j := 0) C dX7_playRound_92 rfl rfl rfl ?_
      refine pw_getf (q := 96) C dX7_playRound_93 fX7_36 hG.1 (by rfl) rfl ?_
      by_cases hs : lowS P 0 < P 7
      · refine pw_iconst_n (q := 97) C 3 dX7_playRound_96 (by decide +kernel) rfl ?_
        refine pw_iconst_n (q := 98) C 0 dX7_playRound_97 (by decide +kernel) rfl ?_
        refine pw_rd (q := 101) (cr_v (j := iX8_firstWith) C dX7_playRound_98 lX7_39 mX8_firstWith (ro_mk (by decide) (by decide)) hG.2.2.2.1 rfl (g_low hG hr hI (by omega) hs) rfl rfl (Nat.le_of_ble_eq_true rfl) ⟨by omega, by omega⟩) rfl ?_
        refine pw_val (q := 104) (cr_s (j := iX0_inspects) C dX7_playRound_101 lX7_42 mX0_inspects (ro_mk (by decide) (by decide))  (a_inspects hL hI hs) rfl rfl (Nat.le_of_ble_eq_true rfl) ⟨by omega, by omega⟩) rfl (fun M101 e101 => ?_)
        refine pw_pop (q := 105) C dX7_playRound_104 rfl rfl ?_
        refine pw_goto (q := 0) 142 C dX7_playRound_105 (by decide) ?_
        exact pw_vret C dX7_playRound_142 rfl ⟨by omega, by omega⟩ (by
            rw [if_pos (show P (50 + 6 * lowS P 0 + 3) = 0 from fst_yes (p := fun s => P (50 + 6 * s + 3) = 0) hs)] at e101
            exact RN.mk ⟨by rw [roundP, if_neg (by omega), if_pos (by omega), if_pos hs]; exact e101.1, e101.2⟩)
      · refine pw_iconst_n (q := 97) C 3 dX7_playRound_96 (by decide +kernel) rfl ?_
        refine pw_iconst_n (q := 98) C 0 dX7_playRound_97 (by decide +kernel) rfl ?_
        refine pw_rd (q := 101) (cr_v (j := iX8_firstWith) C dX7_playRound_98 lX7_39 mX8_firstWith (ro_mk (by decide) (by decide)) hG.2.2.2.1 rfl (g_lowN hG hr hI (by omega) hs) rfl rfl (Nat.le_of_ble_eq_true rfl) ⟨by omega, by omega⟩) rfl ?_
        refine pw_rd (q := 104) (cr_s (j := iX0_inspects) C dX7_playRound_101 lX7_42 mX0_inspects (ro_mk (by decide) (by decide))  (a_inspects_bad hL hI (badNone _)) rfl rfl (Nat.le_of_ble_eq_true rfl) ⟨by omega, by omega⟩) rfl ?_
        refine pw_pop (q := 105) C dX7_playRound_104 rfl rfl ?_
        refine pw_goto (q := 0) 142 C dX7_playRound_105 (by decide) ?_
        exact pw_vret C dX7_playRound_142 rfl ⟨by omega, by omega⟩ (RN.mk ⟨by rw [roundP, if_neg (by omega), if_pos (by omega), if_neg hs]; exact hL, Same.rf⟩)
    · rw [h8]
      refine pw_tableIn (q := 0) 91 C dX7_playRound_19 (by decide +kernel) (by decide +kernel) (by rfl) (by decide) ?_
      refine pw_aload_n (q := 92) (j := 0) C dX7_playRound_91 rfl rfl rfl ?_
      refine pw_aload_n (q := 93) (j := 0) C dX7_playRound_92 rfl rfl rfl ?_
      refine pw_getf (q := 96) C dX7_playRound_93 fX7_36 hG.1 (by rfl) rfl ?_
      by_cases hs : lowS P 0 < P 7
      · refine pw_iconst_n (q := 97) C 3 dX7_playRound_96 (by decide +kernel) rfl ?_
        refine pw_iconst_n (q := 98) C 0 dX7_playRound_97 (by decide +kernel) rfl ?_
        refine pw_rd (q := 101) (cr_v (j := iX8_firstWith) C dX7_playRound_98 lX7_39 mX8_firstWith (ro_mk (by decide) (by decide)) hG.2.2.2.1 rfl (g_low hG hr hI (by omega) hs) rfl rfl (Nat.le_of_ble_eq_true rfl) ⟨by omega, by omega⟩) rfl ?_
        refine pw_val (q := 104) (cr_s (j := iX0_inspects) C dX7_playRound_101 lX7_42 mX0_inspects (ro_mk (by decide) (by decide))  (a_inspects hL hI hs) rfl rfl (Nat.le_of_ble_eq_true rfl) ⟨by omega, by omega⟩) rfl (fun M101 e101 => ?_)
        refine pw_pop (q := 105) C dX7_playRound_104 rfl rfl ?_
        refine pw_goto (q := 0) 142 C dX7_playRound_105 (by decide) ?_
        exact pw_vret C dX7_playRound_142 rfl ⟨by omega, by omega⟩ (by
            rw [if_pos (show P (50 + 6 * lowS P 0 + 3) = 0 from fst_yes (p := fun s => P (50 + 6 * s + 3) = 0) hs)] at e101
            exact RN.mk ⟨by rw [roundP, if_neg (by omega), if_pos (by omega), if_pos hs]; exact e101.1, e101.2⟩)
      · refine pw_iconst_n (q := 97) C 3 dX7_playRound_96 (by decide +kernel) rfl ?_
        refine pw_iconst_n (q := 98) C 0 dX7_playRound_97 (by decide +kernel) rfl ?_
        refine pw_rd (q := 101) (cr_v (j := iX8_firstWith) C dX7_playRound_98 lX7_39 mX8_firstWith (ro_mk (by decide) (by decide)) hG.2.2.2.1 rfl (g_lowN hG hr hI (by omega) hs) rfl rfl (Nat.le_of_ble_eq_true rfl) ⟨by omega, by omega⟩) rfl ?_
        refine pw_rd (q := 104) (cr_s (j := iX0_inspects) C dX7_playRound_101 lX7_42 mX0_inspects (ro_mk (by decide) (by decide))  (a_inspects_bad hL hI (badNone _)) rfl rfl (Nat.le_of_ble_eq_true rfl) ⟨by omega, by omega⟩) rfl ?_
        refine pw_pop (q := 105) C dX7_playRound_104 rfl rfl ?_
        refine pw_goto (q := 0) 142 C dX7_playRound_105 (by decide) ?_
        exact pw_vret C dX7_playRound_142 rfl ⟨by omega, by omega⟩ (RN.mk ⟨by rw [roundP, if_neg (by omega), if_pos (by omega), if_neg hs]; exact hL, Same.rf⟩)
    · rw [h8]
      refine pw_tableIn (q := 0) 108 C dX7_playRound_19 (by decide +kernel) (by decide +kernel) (by rfl) (by decide) ?_
      refine pw_aload_n (q := 109) (j := 0) C dX7_playRound_108 rfl rfl rfl ?_
      refine pw_void (q := 112) (cr_s (j := iX7_setLowest) C dX7_playRound_109 lX7_46 mX7_setLowest (ro_mk (by decide) (by decide))  (u_setLow hL hI) rfl rfl (Nat.le_of_ble_eq_true rfl) ⟨by omega, by omega⟩) rfl (fun M109 e109 => ?_)
      refine pw_goto (q := 0) 142 C dX7_playRound_112 (by decide) ?_
      exact pw_vret C dX7_playRound_142 rfl ⟨by omega, by omega⟩ (RN.mk ⟨by rw [roundP, if_neg (by omega), if_neg (by omega), if_pos (by omega)]; exact e109.1, e109.2⟩)
    · rw [h8]
      refine pw_tableIn (q := 0) 115 C dX7_playRound_19 (by decide +kernel) (by decide +kernel) (by rfl) (by decide) ?_
      refine pw_aload_n (q := 116) (j := 0) C dX7_playRound_115 rfl rfl rfl ?_
      refine pw_iload_n (q := 117) (j := 2) C dX7_playRound_116 rfl rfl rfl ?_
      refine pw_void (q := 120) (cr_s (j := iX7_recutLowest) C dX7_playRound_117 lX7_50 mX7_recutLowest (ro_mk (by decide) (by decide))  (u_recLowN hL hI (badNone _)) rfl rfl (Nat.le_of_ble_eq_true rfl) ⟨by omega, by omega⟩) rfl (fun M117 e117 => ?_)
      refine pw_goto (q := 0) 142 C dX7_playRound_120 (by decide) ?_
      exact pw_vret C dX7_playRound_142 rfl ⟨by omega, by omega⟩ (RN.mk ⟨by rw [roundP, if_neg (by omega), if_neg (by omega), if_neg (by omega), if_pos (by omega), if_neg h6]; exact e117.1, e117.2⟩)
    · rw [h8]
      refine pw_tableOut (q := 0) 123 C dX7_playRound_19 (Or.inr (by decide +kernel)) (by decide) ?_
      refine pw_aload_n (q := 124) (j := 0) C dX7_playRound_123 rfl rfl rfl ?_
      refine pw_iload_n (q := 125) (j := 1) C dX7_playRound_124 rfl rfl rfl ?_
      refine pw_bipush_n (q := 127) C 8 dX7_playRound_125 (by decide +kernel) rfl ?_
      refine pw_idiv_n (q := 128) C dX7_playRound_127 (by omega) (by omega) (by omega) rfl ?_
      refine pw_iconst_n (q := 129) C 4 dX7_playRound_128 (by decide +kernel) rfl ?_
      refine pw_irem_n (q := 130) C dX7_playRound_129 (by omega) (by omega) (by omega) rfl ?_
      refine pw_if_ne_n (q := 133) 137 C dX7_playRound_130 (by decide) rfl (by omega) (fun g130 => ?_) (fun g130 => ?_)
      · refine pw_iconst_n (q := 138) C 0 dX7_playRound_137 (by decide +kernel) rfl ?_
        refine pw_val (q := 141) (cr_v (j := iX2_beginDay) C dX7_playRound_138 lX7_54 mX2_beginDay (ro_mk (by decide) (by decide)) hG.1 rfl (w_day (fr := 0) hL hI (by omega)) rfl rfl (Nat.le_of_ble_eq_true rfl) ⟨by omega, by omega⟩) rfl (fun M138 e138 => ?_)
        refine pw_pop (q := 142) C dX7_playRound_141 rfl rfl ?_
        exact pw_vret C dX7_playRound_142 rfl ⟨by omega, by omega⟩ (RN.mk ⟨by rw [roundP, if_neg (by omega), if_neg (by omega), if_neg (by omega), if_neg (by omega), if_neg (by omega)]; exact e138.1, e138.2⟩)
      · refine pw_iconst_n (q := 134) C 1 dX7_playRound_133 (by decide +kernel) rfl ?_
        refine pw_goto (q := 0) 138 C dX7_playRound_134 (by decide) ?_
        refine pw_val (q := 141) (cr_v (j := iX2_beginDay) C dX7_playRound_138 lX7_54 mX2_beginDay (ro_mk (by decide) (by decide)) hG.1 rfl (w_day (fr := 1) hL hI (by omega)) rfl rfl (Nat.le_of_ble_eq_true rfl) ⟨by omega, by omega⟩) rfl (fun M138 e138 => ?_)
        refine pw_pop (q := 142) C dX7_playRound_141 rfl rfl ?_
        exact pw_vret C dX7_playRound_142 rfl ⟨by omega, by omega⟩ (RN.mk ⟨by rw [roundP, if_neg (by omega), if_neg (by omega), if_neg (by omega), if_neg (by omega), if_pos (by omega)]; exact e138.1, e138.2⟩)
