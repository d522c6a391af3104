/-! The class Lodge: what changes nothing. -/
theorem max0 {x y : Nat} (hx : x < 2147483648) (hy : y < 2147483648) : (if nI 0 < nI x - nI y then nI x - nI y else nI 0) = nI (x - y) := by
  by_cases h : y ≤ x
  · rw [nI_sub h]
    split
    · rfl
    · rename_i h9
      have h8 := (not_congr (nI_ltI (by decide) (by omega))).mp h9
      congr 1; omega
  · have h1 : ¬ nI 0 < nI x - nI y := by
      have h2 : (nI x - nI y).toInt = (x : Int) - (y : Int) := by
        rw [Int32.toInt_sub, nI_toInt hx, nI_toInt hy]
        rw [Int.bmod_eq_of_le (by omega) (by omega)]
      rw [Int32.lt_iff_toInt_lt, h2, nI_toInt (by decide)]
      omega
    rw [if_neg h1]
    congr 1; omega
theorem compl_le (P : Nat → Nat) : compl P ≤ P 5 := fst_le _ _
def optI (r : Option Nat) : Int32 := match r with
  | none => -9
  | some k => nI k
set_option maxHeartbeats 200000 in
set_option maxRecDepth 100000 in
theorem k_lacking {M : PH} {a : Nat} {P : Nat → Nat} (hL : LodgeAt M a P) (hI : Inv P) {c : Nat} (hc : c < P 5) : Run iX2_lacking [.ref a, .int (nI c)] M 0 0 (RV (.int (nI (lacks P c))) (fun M1 => M1 = M)) := by
  obtain ⟨fc, fm, fs, hG, hr⟩ := id hL
  have hb := hI.b
  have q1 := cntC_le hI c 3
  have q2 := cntC_le hI c 1
  have q3 := hI.c hc
  refine Run.of (l0 := [some (.ref a), some (.int (nI c)), none]) (by decide +kernel) (Nat.le_of_ble_eq_true rfl) (by rfl) (fun Γ G C => ?_)
  refine pw_aload_n (q := 1) (j := 0) C dX2_lacking_0 rfl rfl rfl ?_
  refine pw_getf (q := 4) C dX2_lacking_1 fX2_23 hG.1 (by rfl) rfl ?_
  refine pw_iconst_n (q := 5) C 0 dX2_lacking_4 (by decide +kernel) rfl ?_
  refine pw_iload_n (q := 6) (j := 1) C dX2_lacking_5 rfl rfl rfl ?_
  refine pw_iconst_n (q := 7) C 3 dX2_lacking_6 (by decide +kernel) rfl ?_
  refine pw_iconst_n (q := 8) C 3 dX2_lacking_7 (by decide +kernel) rfl ?_
  refine pw_rd (q := 11) (cr_v (j := iX8_countBoth) C dX2_lacking_8 lX2_54 mX8_countBoth (ro_mk (by decide) (by decide)) hG.2.2.2.1 rfl (g_cC hG hr hI (by omega) (by omega)) rfl rfl (Nat.le_of_ble_eq_true rfl) ⟨by omega, by omega⟩) rfl ?_
  refine pw_aload_n (q := 12) (j := 0) C dX2_lacking_11 rfl rfl rfl ?_
  refine pw_getf (q := 15) C dX2_lacking_12 fX2_23 hG.1 (by rfl) rfl ?_
  refine pw_iconst_n (q := 16) C 0 dX2_lacking_15 (by decide +kernel) rfl ?_
  refine pw_iload_n (q := 17) (j := 1) C dX2_lacking_16 rfl rfl rfl ?_
  refine pw_iconst_n (q := 18) C 3 dX2_lacking_17 (by decide +kernel) rfl ?_
  refine pw_iconst_n (q := 19) C 1 dX2_lacking_18 (by decide +kernel) rfl ?_
  refine pw_rd (q := 22) (cr_v (j := iX8_countBoth) C dX2_lacking_19 lX2_54 mX8_countBoth (ro_mk (by decide) (by decide)) hG.2.2.2.1 rfl (g_cC hG hr hI (by omega) (by omega)) rfl rfl (Nat.le_of_ble_eq_true rfl) ⟨by omega, by omega⟩) rfl ?_
  refine pw_iadd_n (q := 23) C dX2_lacking_22 rfl ?_
  refine pw_istore_n (q := 24) (j := 2) C dX2_lacking_23 rfl rfl (by decide) rfl ?_
  refine pw_iconst_n (q := 25) C 0 dX2_lacking_24 (by decide +kernel) rfl ?_
  refine pw_aload_n (q := 26) (j := 0) C dX2_lacking_25 rfl rfl rfl ?_
  refine pw_getf (q := 29) C dX2_lacking_26 fX2_14 hG.1 (by rfl) rfl ?_
  refine pw_iload_n (q := 30) (j := 1) C dX2_lacking_29 rfl rfl rfl ?_
  refine pw_iconst_n (q := 31) C 2 dX2_lacking_30 (by decide +kernel) rfl ?_
  refine pw_rd (q := 34) (cr_v (j := iX8_get) C dX2_lacking_31 lX2_58 mX8_get (ro_mk (by decide) (by decide)) hG.2.1.1 rfl (g_c hG hr (by first | assumption | omega) (by omega)) rfl rfl (Nat.le_of_ble_eq_true rfl) ⟨by omega, by omega⟩) rfl ?_
  refine pw_iload_n (q := 35) (j := 2) C dX2_lacking_34 rfl rfl rfl ?_
  refine pw_isub (q := 36) C dX2_lacking_35 rfl ?_
  refine pw_max (rest := []) (q := 39) C dX2_lacking_36 lX2_62 mMmax.1 mMmax.2.1 mMmax.2.2 ⟨by decide, Nat.le_of_ble_eq_true rfl⟩ ⟨by omega, by omega⟩ rfl ?_
  exact pw_iret C dX2_lacking_39 rfl ⟨by omega, by omega⟩ (RV.mk (vint (max0 (by omega) (by omega))) rfl)
set_option maxHeartbeats 200000 in
set_option maxRecDepth 100000 in
theorem k_badMarks {M : PH} {a : Nat} {P : Nat → Nat} (hL : LodgeAt M a P) (hI : Inv P) {m : Nat} (hm : m < P 6) : Run iX2_badMarks [.ref a, .int (nI m)] M 0 0 (RV (.int (nI (cntM P m 2 + cntM P m 4))) (fun M1 => M1 = M)) := by
  obtain ⟨fc, fm, fs, hG, hr⟩ := id hL
  have hb := hI.b
  refine Run.of (l0 := [some (.ref a), some (.int (nI m))]) (by decide +kernel) (Nat.le_of_ble_eq_true rfl) (by rfl) (fun Γ G C => ?_)
  refine pw_aload_n (q := 1) (j := 0) C dX2_badMarks_0 rfl rfl rfl ?_
  refine pw_getf (q := 4) C dX2_badMarks_1 fX2_23 hG.1 (by rfl) rfl ?_
  refine pw_iconst_n (q := 5) C 1 dX2_badMarks_4 (by decide +kernel) rfl ?_
  refine pw_iload_n (q := 6) (j := 1) C dX2_badMarks_5 rfl rfl rfl ?_
  refine pw_iconst_n (q := 7) C 3 dX2_badMarks_6 (by decide +kernel) rfl ?_
  refine pw_iconst_n (q := 8) C 2 dX2_badMarks_7 (by decide +kernel) rfl ?_
  refine pw_rd (q := 11) (cr_v (j := iX8_countBoth) C dX2_badMarks_8 lX2_54 mX8_countBoth (ro_mk (by decide) (by decide)) hG.2.2.2.1 rfl (g_cM hG hr hI (by omega) (by omega)) rfl rfl (Nat.le_of_ble_eq_true rfl) ⟨by omega, by omega⟩) rfl ?_
  refine pw_aload_n (q := 12) (j := 0) C dX2_badMarks_11 rfl rfl rfl ?_
  refine pw_getf (q := 15) C dX2_badMarks_12 fX2_23 hG.1 (by rfl) rfl ?_
  refine pw_iconst_n (q := 16) C 1 dX2_badMarks_15 (by decide +kernel) rfl ?_
  refine pw_iload_n (q := 17) (j := 1) C dX2_badMarks_16 rfl rfl rfl ?_
  refine pw_iconst_n (q := 18) C 3 dX2_badMarks_17 (by decide +kernel) rfl ?_
  refine pw_iconst_n (q := 19) C 4 dX2_badMarks_18 (by decide +kernel) rfl ?_
  refine pw_rd (q := 22) (cr_v (j := iX8_countBoth) C dX2_badMarks_19 lX2_54 mX8_countBoth (ro_mk (by decide) (by decide)) hG.2.2.2.1 rfl (g_cM hG hr hI (by omega) (by omega)) rfl rfl (Nat.le_of_ble_eq_true rfl) ⟨by omega, by omega⟩) rfl ?_
  refine pw_iadd_n (q := 23) C dX2_badMarks_22 rfl ?_
  exact pw_iret C dX2_badMarks_23 rfl ⟨by omega, by omega⟩ (RV.mk (by rfl) rfl)
set_option maxHeartbeats 200000 in
set_option maxRecDepth 100000 in
theorem k_complete {M : PH} {a : Nat} {P : Nat → Nat} (hL : LodgeAt M a P) (hI : Inv P)  : Run iX2_completeCourses [.ref a] M 0 0 (RV (.int (nI (compl P))) (fun M1 => M1 = M)) := by
  obtain ⟨fc, fm, fs, hG, hr⟩ := id hL
  have hb := hI.b
  refine Run.of (l0 := [some (.ref a), none]) (by decide +kernel) (Nat.le_of_ble_eq_true rfl) (by rfl) (fun Γ G C => ?_)
  have loop : ∀ (d c : Nat), c + d = P 5 → (∀ j, j < c → ¬ ¬ P (8 + 3 * j + 2) ≤ cntC P j 3) → PW Γ G (ZJ Γ G 0 0 (RV (.int (nI (compl P))) (fun M1 => M1 = M))) 2 [some (.ref a), some (.int (nI c))] [] M 0 0 := by
    intro d
    induction d with
    | zero =>
      intro c hd
      intro hno
      refine pw_iload_n (q := 3) (j := 1) C dX2_completeCourses_2 rfl rfl rfl ?_
      refine pw_aload_n (q := 4) (j := 0) C dX2_completeCourses_3 rfl rfl rfl ?_
      refine pw_getf (q := 7) C dX2_completeCourses_4 fX2_14 hG.1 (by rfl) rfl ?_
      refine pw_rd (q := 10) (cr_v (j := iX8_size) C dX2_completeCourses_7 lX2_50 mX8_size (ro_mk (by decide) (by decide)) hG.2.1.1 rfl (k_size hG.2.1) rfl rfl (Nat.le_of_ble_eq_true rfl) ⟨by omega, by omega⟩) rfl ?_
      refine pw_icmp_ge_n (q := 13) 44 C dX2_completeCourses_10 (by decide) rfl (by omega) (by omega) (fun g10 => ?_) (fun g10 => absurd g10 (by omega))
      refine pw_aload_n (q := 45) (j := 0) C dX2_completeCourses_44 rfl rfl rfl ?_
      refine pw_getf (q := 48) C dX2_completeCourses_45 fX2_14 hG.1 (by rfl) rfl ?_
      refine pw_rd (q := 51) (cr_v (j := iX8_size) C dX2_completeCourses_48 lX2_50 mX8_size (ro_mk (by decide) (by decide)) hG.2.1.1 rfl (k_size hG.2.1) rfl rfl (Nat.le_of_ble_eq_true rfl) ⟨by omega, by omega⟩) rfl ?_
      exact pw_iret C dX2_completeCourses_51 rfl ⟨by omega, by omega⟩ (RV.mk (vnI (fst_none (fun j hj => hno j (by omega))).symm) rfl)
    | succ d ih =>
      intro c hd
      intro hno
      refine pw_iload_n (q := 3) (j := 1) C dX2_completeCourses_2 rfl rfl rfl ?_
      refine pw_aload_n (q := 4) (j := 0) C dX2_completeCourses_3 rfl rfl rfl ?_
      refine pw_getf (q := 7) C dX2_completeCourses_4 fX2_14 hG.1 (by rfl) rfl ?_
      refine pw_rd (q := 10) (cr_v (j := iX8_size) C dX2_completeCourses_7 lX2_50 mX8_size (ro_mk (by decide) (by decide)) hG.2.1.1 rfl (k_size hG.2.1) rfl rfl (Nat.le_of_ble_eq_true rfl) ⟨by omega, by omega⟩) rfl ?_
      refine pw_icmp_ge_n (q := 13) 44 C dX2_completeCourses_10 (by decide) rfl (by omega) (by omega) (fun g10 => absurd g10 (by omega)) (fun g10 => ?_)
      have q1 := cntC_le hI c 3
      have q3 := hI.c (show c < P 5 by omega)
      refine pw_aload_n (q := 14) (j := 0) C dX2_completeCourses_13 rfl rfl rfl ?_
      refine pw_getf (q := 17) C dX2_completeCourses_14 fX2_23 hG.1 (by rfl) rfl ?_
      refine pw_iconst_n (q := 18) C 0 dX2_completeCourses_17 (by decide +kernel) rfl ?_
      refine pw_iload_n (q := 19) (j := 1) C dX2_completeCourses_18 rfl rfl rfl ?_
      refine pw_iconst_n (q := 20) C 3 dX2_completeCourses_19 (by decide +kernel) rfl ?_
      refine pw_iconst_n (q := 21) C 3 dX2_completeCourses_20 (by decide +kernel) rfl ?_
      refine pw_rd (q := 24) (cr_v (j := iX8_countBoth) C dX2_completeCourses_21 lX2_54 mX8_countBoth (ro_mk (by decide) (by decide)) hG.2.2.2.1 rfl (g_cC hG hr hI (by omega) (by omega)) rfl rfl (Nat.le_of_ble_eq_true rfl) ⟨by omega, by omega⟩) rfl ?_
      refine pw_aload_n (q := 25) (j := 0) C dX2_completeCourses_24 rfl rfl rfl ?_
      refine pw_getf (q := 28) C dX2_completeCourses_25 fX2_14 hG.1 (by rfl) rfl ?_
      refine pw_iload_n (q := 29) (j := 1) C dX2_completeCourses_28 rfl rfl rfl ?_
      refine pw_iconst_n (q := 30) C 2 dX2_completeCourses_29 (by decide +kernel) rfl ?_
      refine pw_rd (q := 33) (cr_v (j := iX8_get) C dX2_completeCourses_30 lX2_58 mX8_get (ro_mk (by decide) (by decide)) hG.2.1.1 rfl (g_c hG hr (by first | assumption | omega) (by omega)) rfl rfl (Nat.le_of_ble_eq_true rfl) ⟨by omega, by omega⟩) rfl ?_
      refine pw_icmp_ge_n (q := 36) 38 C dX2_completeCourses_33 (by decide) rfl (by omega) (by omega) (fun g33 => ?_) (fun g33 => ?_)
      · refine pw_iinc_n (q := 41) C 1 dX2_completeCourses_38 rfl (by decide +kernel) rfl (by decide) rfl ?_
        refine pw_goto (q := 0) 2 C dX2_completeCourses_41 (by decide) ?_
        exact ih (c + 1) (by omega) (fun j hj => by
          by_cases h9 : j = c
          · subst h9; exact not_not_intro g33
          · exact hno j (by omega))
      · refine pw_iload_n (q := 37) (j := 1) C dX2_completeCourses_36 rfl rfl rfl ?_
        exact pw_iret C dX2_completeCourses_37 rfl ⟨by omega, by omega⟩ (RV.mk (vnI (fst_eq (by omega) g33 hno).symm) rfl)
  refine pw_iconst_n (q := 1) C 0 dX2_completeCourses_0 (by decide +kernel) rfl ?_
  refine pw_istore_n (q := 2) (j := 1) C dX2_completeCourses_1 rfl rfl (by decide) rfl ?_
  exact loop (P 5) 0 (by omega) (fun j hj => absurd hj (Nat.not_lt_zero j))
set_option maxHeartbeats 200000 in
set_option maxRecDepth 100000 in
theorem k_hindrance_in {M : PH} {a : Nat} {P : Nat → Nat} (hL : LodgeAt M a P) (hI : Inv P) {s : Nat} (hs : s < P 7) : Run iX2_hindrance [.ref a, .int (nI s)] M 0 0 (RV (.int (nI (why P s))) (fun M1 => M1 = M)) := by
  obtain ⟨fc, fm, fs, hG, hr⟩ := id hL
  have hb := hI.b
  have hs9 := hI.s hs
  have q9 := compl_le P
  refine Run.of (l0 := [some (.ref a), some (.int (nI s)), none, none]) (by decide +kernel) (Nat.le_of_ble_eq_true rfl) (by rfl) (fun Γ G C => ?_)
  refine pw_aload_n (q := 1) (j := 0) C dX2_hindrance_0 rfl rfl rfl ?_
  refine pw_getf (q := 4) C dX2_hindrance_1 fX2_23 hG.1 (by rfl) rfl ?_
  refine pw_iload_n (q := 5) (j := 1) C dX2_hindrance_4 rfl rfl rfl ?_
  refine pw_iconst_n (q := 6) C 3 dX2_hindrance_5 (by decide +kernel) rfl ?_
  refine pw_rd (q := 9) (cr_v (j := iX8_get) C dX2_hindrance_6 lX2_58 mX8_get (ro_mk (by decide) (by decide)) hG.2.2.2.1 rfl (g_s hG hr (by first | assumption | omega) (by omega)) rfl rfl (Nat.le_of_ble_eq_true rfl) ⟨by omega, by omega⟩) rfl ?_
  refine pw_iconst_n (q := 10) C 1 dX2_hindrance_9 (by decide +kernel) rfl ?_
  refine pw_icmp_eq_n (q := 13) 15 C dX2_hindrance_10 (by decide) rfl (by omega) (by omega) (fun g10 => ?_) (fun g10 => ?_)
  · refine pw_aload_n (q := 16) (j := 0) C dX2_hindrance_15 rfl rfl rfl ?_
    refine pw_getf (q := 19) C dX2_hindrance_16 fX2_36 hG.1 (by rfl) rfl ?_
    refine pw_if_eq_n (q := 22) 24 C dX2_hindrance_19 (by decide) rfl (by omega) (fun g19 => ?_) (fun g19 => ?_)
    · refine pw_aload_n (q := 25) (j := 0) C dX2_hindrance_24 rfl rfl rfl ?_
      refine pw_getf (q := 28) C dX2_hindrance_25 fX2_23 hG.1 (by rfl) rfl ?_
      refine pw_iload_n (q := 29) (j := 1) C dX2_hindrance_28 rfl rfl rfl ?_
      refine pw_iconst_n (q := 30) C 0 dX2_hindrance_29 (by decide +kernel) rfl ?_
      refine pw_rd (q := 33) (cr_v (j := iX8_get) C dX2_hindrance_30 lX2_58 mX8_get (ro_mk (by decide) (by decide)) hG.2.2.2.1 rfl (g_s0 hG hr (by first | assumption | omega)) rfl rfl (Nat.le_of_ble_eq_true rfl) ⟨by omega, by omega⟩) rfl ?_
      refine pw_istore_n (q := 34) (j := 2) C dX2_hindrance_33 rfl rfl (by decide) rfl ?_
      refine pw_aload_n (q := 35) (j := 0) C dX2_hindrance_34 rfl rfl rfl ?_
      refine pw_rd (q := 38) (cr_v (j := iX2_completeCourses) C dX2_hindrance_35 lX2_67 mX2_completeCourses (ro_mk (by decide) (by decide)) hG.1 rfl (k_complete hL hI) rfl rfl (Nat.le_of_ble_eq_true rfl) ⟨by omega, by omega⟩) rfl ?_
      refine pw_istore_n (q := 39) (j := 3) C dX2_hindrance_38 rfl rfl (by decide) rfl ?_
      refine pw_iload_n (q := 40) (j := 2) C dX2_hindrance_39 rfl rfl rfl ?_
      refine pw_iload_n (q := 41) (j := 3) C dX2_hindrance_40 rfl rfl rfl ?_
      refine pw_icmp_le_n (q := 44) 46 C dX2_hindrance_41 (by decide) rfl (by omega) (by omega) (fun g41 => ?_) (fun g41 => ?_)
      · refine pw_iload_n (q := 47) (j := 2) C dX2_hindrance_46 rfl rfl rfl ?_
        refine pw_iload_n (q := 48) (j := 3) C dX2_hindrance_47 rfl rfl rfl ?_
        refine pw_icmp_ge_n (q := 51) 55 C dX2_hindrance_48 (by decide) rfl (by omega) (by omega) (fun g48 => ?_) (fun g48 => ?_)
        · refine pw_iconst_n (q := 56) C 0 dX2_hindrance_55 (by decide +kernel) rfl ?_
          exact pw_iret C dX2_hindrance_56 rfl ⟨by omega, by omega⟩ (RV.mk (vnI (by unfold why; rw [if_neg (not_not_intro g10), if_neg (not_not_intro g19), if_neg (by omega), if_neg (by omega)])) rfl)
        · refine pw_iconst_n (q := 52) C 4 dX2_hindrance_51 (by decide +kernel) rfl ?_
          refine pw_goto (q := 0) 56 C dX2_hindrance_52 (by decide) ?_
          exact pw_iret C dX2_hindrance_56 rfl ⟨by omega, by omega⟩ (RV.mk (vnI (by unfold why; rw [if_neg (not_not_intro g10), if_neg (not_not_intro g19), if_neg (by omega), if_pos (by omega)])) rfl)
      · refine pw_iconst_n (q := 45) C 3 dX2_hindrance_44 (by decide +kernel) rfl ?_
        exact pw_iret C dX2_hindrance_45 rfl ⟨by omega, by omega⟩ (RV.mk (vnI (by unfold why; rw [if_neg (not_not_intro g10), if_neg (not_not_intro g19), if_pos (by omega)])) rfl)
    · refine pw_iconst_n (q := 23) C 2 dX2_hindrance_22 (by decide +kernel) rfl ?_
      exact pw_iret C dX2_hindrance_23 rfl ⟨by omega, by omega⟩ (RV.mk (vnI (by unfold why; rw [if_neg (not_not_intro g10), if_pos g19])) rfl)
  · refine pw_iconst_n (q := 14) C 1 dX2_hindrance_13 (by decide +kernel) rfl ?_
    exact pw_iret C dX2_hindrance_14 rfl ⟨by omega, by omega⟩ (RV.mk (vnI (by unfold why; rw [if_pos g10])) rfl)
set_option maxHeartbeats 200000 in
set_option maxRecDepth 100000 in
theorem k_hindrance_bad {M : PH} {a : Nat} {P : Nat → Nat} (hL : LodgeAt M a P) (hI : Inv P) {s : Int32} (hbad : badR s (P 7)) : Run iX2_hindrance [.ref a, .int s] M 0 0 (RV (.int (nI 1)) (fun M1 => M1 = M)) := by
  obtain ⟨fc, fm, fs, hG, hr⟩ := id hL
  have hb := hI.b
  refine Run.of (l0 := [some (.ref a), some (.int s), none, none]) (by decide +kernel) (Nat.le_of_ble_eq_true rfl) (by rfl) (fun Γ G C => ?_)
  refine pw_aload_n (q := 1) (j := 0) C dX2_hindrance_0 rfl rfl rfl ?_
  refine pw_getf (q := 4) C dX2_hindrance_1 fX2_23 hG.1 (by rfl) rfl ?_
  refine pw_iload_n (q := 5) (j := 1) C dX2_hindrance_4 rfl rfl rfl ?_
  refine pw_iconst_n (q := 6) C 3 dX2_hindrance_5 (by decide +kernel) rfl ?_
  refine pw_rd (q := 9) (cr_v (j := iX8_get) C dX2_hindrance_6 lX2_58 mX8_get (ro_mk (by decide) (by decide)) hG.2.2.2.1 rfl (k_get_bad hG.2.2.2 hbad) rfl rfl (Nat.le_of_ble_eq_true rfl) ⟨by omega, by omega⟩) rfl ?_
  refine pw_iconst_n (q := 10) C 1 dX2_hindrance_9 (by decide +kernel) rfl ?_
  refine pw_icmp_eq_n (q := 13) 15 C dX2_hindrance_10 (by decide) rfl (by omega) (by omega) (fun g10 => absurd g10 (by omega)) (fun g10 => ?_)
  refine pw_iconst_n (q := 14) C 1 dX2_hindrance_13 (by decide +kernel) rfl ?_
  exact pw_iret C dX2_hindrance_14 rfl ⟨by omega, by omega⟩ (RV.mk (by rfl) rfl)
set_option maxHeartbeats 200000 in
set_option maxRecDepth 100000 in
theorem k_hasWork {M : PH} {a : Nat} {P : Nat → Nat} (hL : LodgeAt M a P) (hI : Inv P) {m c : Nat} (hm : m < P 6) (hc : c < P 5) : Run iX2_hasWorkToCut [.ref a, .int (nI m), .int (nI c)] M 0 0 (RV (.int (nI (bN (P (8 + 3 * c + 1) ≤ P (26 + 4 * m + 2))))) (fun M1 => M1 = M)) := by
  obtain ⟨fc, fm, fs, hG, hr⟩ := id hL
  have hb := hI.b
  have q1 := hI.m hm
  have q2 := hI.c hc
  refine Run.of (l0 := [some (.ref a), some (.int (nI m)), some (.int (nI c))]) (by decide +kernel) (Nat.le_of_ble_eq_true rfl) (by rfl) (fun Γ G C => ?_)
  refine pw_aload_n (q := 1) (j := 0) C dX2_hasWorkToCut_0 rfl rfl rfl ?_
  refine pw_getf (q := 4) C dX2_hasWorkToCut_1 fX2_20 hG.1 (by rfl) rfl ?_
  refine pw_iload_n (q := 5) (j := 1) C dX2_hasWorkToCut_4 rfl rfl rfl ?_
  refine pw_iconst_n (q := 6) C 2 dX2_hasWorkToCut_5 (by decide +kernel) rfl ?_
  refine pw_rd (q := 9) (cr_v (j := iX8_get) C dX2_hasWorkToCut_6 lX2_58 mX8_get (ro_mk (by decide) (by decide)) hG.2.2.1.1 rfl (g_m hG hr (by first | assumption | omega) (by omega)) rfl rfl (Nat.le_of_ble_eq_true rfl) ⟨by omega, by omega⟩) rfl ?_
  refine pw_aload_n (q := 10) (j := 0) C dX2_hasWorkToCut_9 rfl rfl rfl ?_
  refine pw_getf (q := 13) C dX2_hasWorkToCut_10 fX2_14 hG.1 (by rfl) rfl ?_
  refine pw_iload_n (q := 14) (j := 2) C dX2_hasWorkToCut_13 rfl rfl rfl ?_
  refine pw_iconst_n (q := 15) C 1 dX2_hasWorkToCut_14 (by decide +kernel) rfl ?_
  refine pw_rd (q := 18) (cr_v (j := iX8_get) C dX2_hasWorkToCut_15 lX2_58 mX8_get (ro_mk (by decide) (by decide)) hG.2.1.1 rfl (g_c hG hr (by first | assumption | omega) (by omega)) rfl rfl (Nat.le_of_ble_eq_true rfl) ⟨by omega, by omega⟩) rfl ?_
  refine pw_icmp_lt_n (q := 21) 25 C dX2_hasWorkToCut_18 (by decide) rfl (by omega) (by omega) (fun g18 => ?_) (fun g18 => ?_)
  · refine pw_iconst_n (q := 26) C 0 dX2_hasWorkToCut_25 (by decide +kernel) rfl ?_
    exact pw_zret C dX2_hasWorkToCut_26 rfl (by first | decide +kernel | exact nar_bN _ | exact nar_01 (by omega)) ⟨by omega, by omega⟩ (RV.mk (v0 (by omega)) rfl)
  · refine pw_iconst_n (q := 22) C 1 dX2_hasWorkToCut_21 (by decide +kernel) rfl ?_
    refine pw_goto (q := 0) 26 C dX2_hasWorkToCut_22 (by decide) ?_
    exact pw_zret C dX2_hasWorkToCut_26 rfl (by first | decide +kernel | exact nar_bN _ | exact nar_01 (by omega)) ⟨by omega, by omega⟩ (RV.mk (v1 (by omega)) rfl)
set_option maxHeartbeats 200000 in
set_option maxRecDepth 100000 in
theorem k_mayCut_in {M : PH} {a : Nat} {P : Nat → Nat} (hL : LodgeAt M a P) (hI : Inv P) {m c : Nat} (hm : m < P 6) (hc : c < P 5) : Run iX2_mayCut [.ref a, .int (nI m), .int (nI c)] M 0 0 (RV (.int (nI (bN (canCut P m c)))) (fun M1 => M1 = M)) := by
  obtain ⟨fc, fm, fs, hG, hr⟩ := id hL
  have hb := hI.b
  refine Run.of (l0 := [some (.ref a), some (.int (nI m)), some (.int (nI c))]) (by decide +kernel) (Nat.le_of_ble_eq_true rfl) (by rfl) (fun Γ G C => ?_)
  refine pw_aload_n (q := 1) (j := 0) C dX2_mayCut_0 rfl rfl rfl ?_
  refine pw_getf (q := 4) C dX2_mayCut_1 fX2_20 hG.1 (by rfl) rfl ?_
  refine pw_iload_n (q := 5) (j := 1) C dX2_mayCut_4 rfl rfl rfl ?_
  refine pw_rd (q := 8) (cr_v (j := iX8_has) C dX2_mayCut_5 lX2_77 mX8_has (ro_mk (by decide) (by decide)) hG.2.2.1.1 rfl (k_has_in hG.2.2.1 (by first | assumption | omega)) rfl rfl (Nat.le_of_ble_eq_true rfl) ⟨by omega, by omega⟩) rfl ?_
  refine pw_if_eq_n (q := 11) 45 C dX2_mayCut_8 (by decide) rfl (by omega) (fun g8 => absurd g8 (by omega)) (fun g8 => ?_)
  refine pw_aload_n (q := 12) (j := 0) C dX2_mayCut_11 rfl rfl rfl ?_
  refine pw_getf (q := 15) C dX2_mayCut_12 fX2_14 hG.1 (by rfl) rfl ?_
  refine pw_iload_n (q := 16) (j := 2) C dX2_mayCut_15 rfl rfl rfl ?_
  refine pw_rd (q := 19) (cr_v (j := iX8_has) C dX2_mayCut_16 lX2_77 mX8_has (ro_mk (by decide) (by decide)) hG.2.1.1 rfl (k_has_in hG.2.1 (by first | assumption | omega)) rfl rfl (Nat.le_of_ble_eq_true rfl) ⟨by omega, by omega⟩) rfl ?_
  refine pw_if_eq_n (q := 22) 45 C dX2_mayCut_19 (by decide) rfl (by omega) (fun g19 => absurd g19 (by omega)) (fun g19 => ?_)
  refine pw_aload_n (q := 23) (j := 0) C dX2_mayCut_22 rfl rfl rfl ?_
  refine pw_iload_n (q := 24) (j := 1) C dX2_mayCut_23 rfl rfl rfl ?_
  refine pw_iload_n (q := 25) (j := 2) C dX2_mayCut_24 rfl rfl rfl ?_
  refine pw_rd (q := 28) (cr_v (j := iX2_hasWorkToCut) C dX2_mayCut_25 lX2_81 mX2_hasWorkToCut (ro_mk (by decide) (by decide)) hG.1 rfl (k_hasWork hL hI (by first | assumption | omega) (by first | assumption | omega)) rfl rfl (Nat.le_of_ble_eq_true rfl) ⟨by omega, by omega⟩) rfl ?_
  refine pw_if_eq_b (q := 31) 45 C dX2_mayCut_28 (by decide) rfl (fun g28 => ?_) (fun g28 => ?_)
  · refine pw_iconst_n (q := 46) C 0 dX2_mayCut_45 (by decide +kernel) rfl ?_
    exact pw_zret C dX2_mayCut_46 rfl (by first | decide +kernel | exact nar_bN _ | exact nar_01 (by omega)) ⟨by omega, by omega⟩ (RV.mk (v0 (fun q => g28 q.1)) rfl)
  · refine pw_aload_n (q := 32) (j := 0) C dX2_mayCut_31 rfl rfl rfl ?_
    refine pw_getf (q := 35) C dX2_mayCut_32 fX2_23 hG.1 (by rfl) rfl ?_
    refine pw_rd (q := 38) (cr_v (j := iX8_hasRoom) C dX2_mayCut_35 lX2_85 mX8_hasRoom (ro_mk (by decide) (by decide)) hG.2.2.2.1 rfl (k_hasRoom hG.2.2.2) rfl rfl (Nat.le_of_ble_eq_true rfl) ⟨by omega, by omega⟩) rfl ?_
    refine pw_if_eq_b (q := 41) 45 C dX2_mayCut_38 (by decide) rfl (fun g38 => ?_) (fun g38 => ?_)
    · refine pw_iconst_n (q := 46) C 0 dX2_mayCut_45 (by decide +kernel) rfl ?_
      exact pw_zret C dX2_mayCut_46 rfl (by first | decide +kernel | exact nar_bN _ | exact nar_01 (by omega)) ⟨by omega, by omega⟩ (RV.mk (v0 (fun q => g38 q.2)) rfl)
    · refine pw_iconst_n (q := 42) C 1 dX2_mayCut_41 (by decide +kernel) rfl ?_
      refine pw_goto (q := 0) 46 C dX2_mayCut_42 (by decide) ?_
      exact pw_zret C dX2_mayCut_46 rfl (by first | decide +kernel | exact nar_bN _ | exact nar_01 (by omega)) ⟨by omega, by omega⟩ (RV.mk (v1 ⟨g28, g38⟩) rfl)
set_option maxHeartbeats 200000 in
set_option maxRecDepth 100000 in
theorem k_mayCut_badm {M : PH} {a : Nat} {P : Nat → Nat} (hL : LodgeAt M a P) (hI : Inv P) {m c : Int32} (hbad : badR m (P 6)) : Run iX2_mayCut [.ref a, .int m, .int c] M 0 0 (RV (.int (nI 0)) (fun M1 => M1 = M)) := by
  obtain ⟨fc, fm, fs, hG, hr⟩ := id hL
  have hb := hI.b
  refine Run.of (l0 := [some (.ref a), some (.int m), some (.int c)]) (by decide +kernel) (Nat.le_of_ble_eq_true rfl) (by rfl) (fun Γ G C => ?_)
  refine pw_aload_n (q := 1) (j := 0) C dX2_mayCut_0 rfl rfl rfl ?_
  refine pw_getf (q := 4) C dX2_mayCut_1 fX2_20 hG.1 (by rfl) rfl ?_
  refine pw_iload_n (q := 5) (j := 1) C dX2_mayCut_4 rfl rfl rfl ?_
  refine pw_rd (q := 8) (cr_v (j := iX8_has) C dX2_mayCut_5 lX2_77 mX8_has (ro_mk (by decide) (by decide)) hG.2.2.1.1 rfl (k_has_bad hG.2.2.1 hbad) rfl rfl (Nat.le_of_ble_eq_true rfl) ⟨by omega, by omega⟩) rfl ?_
  refine pw_if_eq_n (q := 11) 45 C dX2_mayCut_8 (by decide) rfl (by omega) (fun g8 => ?_) (fun g8 => absurd g8 (by omega))
  refine pw_iconst_n (q := 46) C 0 dX2_mayCut_45 (by decide +kernel) rfl ?_
  exact pw_zret C dX2_mayCut_46 rfl (by first | decide +kernel | exact nar_bN _ | exact nar_01 (by omega)) ⟨by omega, by omega⟩ (RV.mk (by rfl) rfl)
set_option maxHeartbeats 200000 in
set_option maxRecDepth 100000 in
theorem k_mayCut_badc {M : PH} {a : Nat} {P : Nat → Nat} (hL : LodgeAt M a P) (hI : Inv P) {m : Nat} {c : Int32} (hm : m < P 6) (hbad : badR c (P 5)) : Run iX2_mayCut [.ref a, .int (nI m), .int c] M 0 0 (RV (.int (nI 0)) (fun M1 => M1 = M)) := by
  obtain ⟨fc, fm, fs, hG, hr⟩ := id hL
  have hb := hI.b
  refine Run.of (l0 := [some (.ref a), some (.int (nI m)), some (.int c)]) (by decide +kernel) (Nat.le_of_ble_eq_true rfl) (by rfl) (fun Γ G C => ?_)
  refine pw_aload_n (q := 1) (j := 0) C dX2_mayCut_0 rfl rfl rfl ?_
  refine pw_getf (q := 4) C dX2_mayCut_1 fX2_20 hG.1 (by rfl) rfl ?_
  refine pw_iload_n (q := 5) (j := 1) C dX2_mayCut_4 rfl rfl rfl ?_
  refine pw_rd (q := 8) (cr_v (j := iX8_has) C dX2_mayCut_5 lX2_77 mX8_has (ro_mk (by decide) (by decide)) hG.2.2.1.1 rfl (k_has_in hG.2.2.1 (by first | assumption | omega)) rfl rfl (Nat.le_of_ble_eq_true rfl) ⟨by omega, by omega⟩) rfl ?_
  refine pw_if_eq_n (q := 11) 45 C dX2_mayCut_8 (by decide) rfl (by omega) (fun g8 => absurd g8 (by omega)) (fun g8 => ?_)
  refine pw_aload_n (q := 12) (j := 0) C dX2_mayCut_11 rfl rfl rfl ?_
  refine pw_getf (q := 15) C dX2_mayCut_12 fX2_14 hG.1 (by rfl) rfl ?_
  refine pw_iload_n (q := 16) (j := 2) C dX2_mayCut_15 rfl rfl rfl ?_
  refine pw_rd (q := 19) (cr_v (j := iX8_has) C dX2_mayCut_16 lX2_77 mX8_has (ro_mk (by decide) (by decide)) hG.2.1.1 rfl (k_has_bad hG.2.1 hbad) rfl rfl (Nat.le_of_ble_eq_true rfl) ⟨by omega, by omega⟩) rfl ?_
  refine pw_if_eq_n (q := 22) 45 C dX2_mayCut_19 (by decide) rfl (by omega) (fun g19 => ?_) (fun g19 => absurd g19 (by omega))
  refine pw_iconst_n (q := 46) C 0 dX2_mayCut_45 (by decide +kernel) rfl ?_
  exact pw_zret C dX2_mayCut_46 rfl (by first | decide +kernel | exact nar_bN _ | exact nar_01 (by omega)) ⟨by omega, by omega⟩ (RV.mk (by rfl) rfl)
set_option maxHeartbeats 200000 in
set_option maxRecDepth 100000 in
theorem k_mayInspect_in {M : PH} {a : Nat} {P : Nat → Nat} (hL : LodgeAt M a P) (hI : Inv P) {s : Nat} (hs : s < P 7) : Run iX2_mayInspect [.ref a, .int (nI s)] M 0 0 (RV (.int (nI (bN (P (50 + 6 * s + 3) = 0)))) (fun M1 => M1 = M)) := by
  obtain ⟨fc, fm, fs, hG, hr⟩ := id hL
  have hb := hI.b
  have hs9 := hI.s hs
  refine Run.of (l0 := [some (.ref a), some (.int (nI s))]) (by decide +kernel) (Nat.le_of_ble_eq_true rfl) (by rfl) (fun Γ G C => ?_)
  refine pw_aload_n (q := 1) (j := 0) C dX2_mayInspect_0 rfl rfl rfl ?_
  refine pw_getf (q := 4) C dX2_mayInspect_1 fX2_23 hG.1 (by rfl) rfl ?_
  refine pw_iload_n (q := 5) (j := 1) C dX2_mayInspect_4 rfl rfl rfl ?_
  refine pw_rd (q := 8) (cr_v (j := iX8_has) C dX2_mayInspect_5 lX2_77 mX8_has (ro_mk (by decide) (by decide)) hG.2.2.2.1 rfl (k_has_in hG.2.2.2 (by first | assumption | omega)) rfl rfl (Nat.le_of_ble_eq_true rfl) ⟨by omega, by omega⟩) rfl ?_
  refine pw_if_eq_n (q := 11) 27 C dX2_mayInspect_8 (by decide) rfl (by omega) (fun g8 => absurd g8 (by omega)) (fun g8 => ?_)
  refine pw_aload_n (q := 12) (j := 0) C dX2_mayInspect_11 rfl rfl rfl ?_
  refine pw_getf (q := 15) C dX2_mayInspect_12 fX2_23 hG.1 (by rfl) rfl ?_
  refine pw_iload_n (q := 16) (j := 1) C dX2_mayInspect_15 rfl rfl rfl ?_
  refine pw_iconst_n (q := 17) C 3 dX2_mayInspect_16 (by decide +kernel) rfl ?_
  refine pw_rd (q := 20) (cr_v (j := iX8_get) C dX2_mayInspect_17 lX2_58 mX8_get (ro_mk (by decide) (by decide)) hG.2.2.2.1 rfl (g_s hG hr (by first | assumption | omega) (by omega)) rfl rfl (Nat.le_of_ble_eq_true rfl) ⟨by omega, by omega⟩) rfl ?_
  refine pw_if_ne_n (q := 23) 27 C dX2_mayInspect_20 (by decide) rfl (by omega) (fun g20 => ?_) (fun g20 => ?_)
  · refine pw_iconst_n (q := 28) C 0 dX2_mayInspect_27 (by decide +kernel) rfl ?_
    exact pw_zret C dX2_mayInspect_28 rfl (by first | decide +kernel | exact nar_bN _ | exact nar_01 (by omega)) ⟨by omega, by omega⟩ (RV.mk (v0 g20) rfl)
  · refine pw_iconst_n (q := 24) C 1 dX2_mayInspect_23 (by decide +kernel) rfl ?_
    refine pw_goto (q := 0) 28 C dX2_mayInspect_24 (by decide) ?_
    exact pw_zret C dX2_mayInspect_28 rfl (by first | decide +kernel | exact nar_bN _ | exact nar_01 (by omega)) ⟨by omega, by omega⟩ (RV.mk (v1 g20) rfl)
set_option maxHeartbeats 200000 in
set_option maxRecDepth 100000 in
theorem k_mayInspect_bad {M : PH} {a : Nat} {P : Nat → Nat} (hL : LodgeAt M a P) (hI : Inv P) {s : Int32} (hbad : badR s (P 7)) : Run iX2_mayInspect [.ref a, .int s] M 0 0 (RV (.int (nI 0)) (fun M1 => M1 = M)) := by
  obtain ⟨fc, fm, fs, hG, hr⟩ := id hL
  have hb := hI.b
  refine Run.of (l0 := [some (.ref a), some (.int s)]) (by decide +kernel) (Nat.le_of_ble_eq_true rfl) (by rfl) (fun Γ G C => ?_)
  refine pw_aload_n (q := 1) (j := 0) C dX2_mayInspect_0 rfl rfl rfl ?_
  refine pw_getf (q := 4) C dX2_mayInspect_1 fX2_23 hG.1 (by rfl) rfl ?_
  refine pw_iload_n (q := 5) (j := 1) C dX2_mayInspect_4 rfl rfl rfl ?_
  refine pw_rd (q := 8) (cr_v (j := iX8_has) C dX2_mayInspect_5 lX2_77 mX8_has (ro_mk (by decide) (by decide)) hG.2.2.2.1 rfl (k_has_bad hG.2.2.2 hbad) rfl rfl (Nat.le_of_ble_eq_true rfl) ⟨by omega, by omega⟩) rfl ?_
  refine pw_if_eq_n (q := 11) 27 C dX2_mayInspect_8 (by decide) rfl (by omega) (fun g8 => ?_) (fun g8 => absurd g8 (by omega))
  refine pw_iconst_n (q := 28) C 0 dX2_mayInspect_27 (by decide +kernel) rfl ?_
  exact pw_zret C dX2_mayInspect_28 rfl (by first | decide +kernel | exact nar_bN _ | exact nar_01 (by omega)) ⟨by omega, by omega⟩ (RV.mk (by rfl) rfl)
set_option maxHeartbeats 200000 in
set_option maxRecDepth 100000 in
theorem k_mayScrap_in {M : PH} {a : Nat} {P : Nat → Nat} (hL : LodgeAt M a P) (hI : Inv P) {s : Nat} (hs : s < P 7) : Run iX2_mayScrap [.ref a, .int (nI s)] M 0 0 (RV (.int (nI (bN (P (50 + 6 * s + 3) = 2)))) (fun M1 => M1 = M)) := by
  obtain ⟨fc, fm, fs, hG, hr⟩ := id hL
  have hb := hI.b
  have hs9 := hI.s hs
  refine Run.of (l0 := [some (.ref a), some (.int (nI s))]) (by decide +kernel) (Nat.le_of_ble_eq_true rfl) (by rfl) (fun Γ G C => ?_)
  refine pw_aload_n (q := 1) (j := 0) C dX2_mayScrap_0 rfl rfl rfl ?_
  refine pw_getf (q := 4) C dX2_mayScrap_1 fX2_23 hG.1 (by rfl) rfl ?_
  refine pw_iload_n (q := 5) (j := 1) C dX2_mayScrap_4 rfl rfl rfl ?_
  refine pw_rd (q := 8) (cr_v (j := iX8_has) C dX2_mayScrap_5 lX2_77 mX8_has (ro_mk (by decide) (by decide)) hG.2.2.2.1 rfl (k_has_in hG.2.2.2 (by first | assumption | omega)) rfl rfl (Nat.le_of_ble_eq_true rfl) ⟨by omega, by omega⟩) rfl ?_
  refine pw_if_eq_n (q := 11) 28 C dX2_mayScrap_8 (by decide) rfl (by omega) (fun g8 => absurd g8 (by omega)) (fun g8 => ?_)
  refine pw_aload_n (q := 12) (j := 0) C dX2_mayScrap_11 rfl rfl rfl ?_
  refine pw_getf (q := 15) C dX2_mayScrap_12 fX2_23 hG.1 (by rfl) rfl ?_
  refine pw_iload_n (q := 16) (j := 1) C dX2_mayScrap_15 rfl rfl rfl ?_
  refine pw_iconst_n (q := 17) C 3 dX2_mayScrap_16 (by decide +kernel) rfl ?_
  refine pw_rd (q := 20) (cr_v (j := iX8_get) C dX2_mayScrap_17 lX2_58 mX8_get (ro_mk (by decide) (by decide)) hG.2.2.2.1 rfl (g_s hG hr (by first | assumption | omega) (by omega)) rfl rfl (Nat.le_of_ble_eq_true rfl) ⟨by omega, by omega⟩) rfl ?_
  refine pw_iconst_n (q := 21) C 2 dX2_mayScrap_20 (by decide +kernel) rfl ?_
  refine pw_icmp_ne_n (q := 24) 28 C dX2_mayScrap_21 (by decide) rfl (by omega) (by omega) (fun g21 => ?_) (fun g21 => ?_)
  · refine pw_iconst_n (q := 29) C 0 dX2_mayScrap_28 (by decide +kernel) rfl ?_
    exact pw_zret C dX2_mayScrap_29 rfl (by first | decide +kernel | exact nar_bN _ | exact nar_01 (by omega)) ⟨by omega, by omega⟩ (RV.mk (v0 g21) rfl)
  · refine pw_iconst_n (q := 25) C 1 dX2_mayScrap_24 (by decide +kernel) rfl ?_
    refine pw_goto (q := 0) 29 C dX2_mayScrap_25 (by decide) ?_
    exact pw_zret C dX2_mayScrap_29 rfl (by first | decide +kernel | exact nar_bN _ | exact nar_01 (by omega)) ⟨by omega, by omega⟩ (RV.mk (v1 g21) rfl)
set_option maxHeartbeats 200000 in
set_option maxRecDepth 100000 in
theorem k_mayScrap_bad {M : PH} {a : Nat} {P : Nat → Nat} (hL : LodgeAt M a P) (hI : Inv P) {s : Int32} (hbad : badR s (P 7)) : Run iX2_mayScrap [.ref a, .int s] M 0 0 (RV (.int (nI 0)) (fun M1 => M1 = M)) := by
  obtain ⟨fc, fm, fs, hG, hr⟩ := id hL
  have hb := hI.b
  refine Run.of (l0 := [some (.ref a), some (.int s)]) (by decide +kernel) (Nat.le_of_ble_eq_true rfl) (by rfl) (fun Γ G C => ?_)
  refine pw_aload_n (q := 1) (j := 0) C dX2_mayScrap_0 rfl rfl rfl ?_
  refine pw_getf (q := 4) C dX2_mayScrap_1 fX2_23 hG.1 (by rfl) rfl ?_
  refine pw_iload_n (q := 5) (j := 1) C dX2_mayScrap_4 rfl rfl rfl ?_
  refine pw_rd (q := 8) (cr_v (j := iX8_has) C dX2_mayScrap_5 lX2_77 mX8_has (ro_mk (by decide) (by decide)) hG.2.2.2.1 rfl (k_has_bad hG.2.2.2 hbad) rfl rfl (Nat.le_of_ble_eq_true rfl) ⟨by omega, by omega⟩) rfl ?_
  refine pw_if_eq_n (q := 11) 28 C dX2_mayScrap_8 (by decide) rfl (by omega) (fun g8 => ?_) (fun g8 => absurd g8 (by omega))
  refine pw_iconst_n (q := 29) C 0 dX2_mayScrap_28 (by decide +kernel) rfl ?_
  exact pw_zret C dX2_mayScrap_29 rfl (by first | decide +kernel | exact nar_bN _ | exact nar_01 (by omega)) ⟨by omega, by omega⟩ (RV.mk (by rfl) rfl)
theorem price_le {P : Nat → Nat} (hI : Inv P) {s : Nat} (hs : s < P 7) : P (8 + 3 * P (50 + 6 * s) + 1) * P (26 + 4 * P (50 + 6 * s + 1)) ≤ 54 ∧ price P s ≤ 54 := by
  have h := hI.s hs
  have h1 := hI.c h.1
  have h2 := hI.m h.2.1
  have h3 : P (8 + 3 * P (50 + 6 * s) + 1) * P (26 + 4 * P (50 + 6 * s + 1)) ≤ 6 * 9 := Nat.mul_le_mul h1.2.2.2.1 h2.2.1
  refine ⟨h3, ?_⟩
  unfold price
  split <;> omega
set_option maxHeartbeats 200000 in
set_option maxRecDepth 100000 in
theorem k_priceOf {M : PH} {a : Nat} {P : Nat → Nat} (hL : LodgeAt M a P) (hI : Inv P) {s : Nat} (hs : s < P 7) : Run iX2_priceOf [.ref a, .int (nI s)] M 0 0 (RV (.int (nI (price P s))) (fun M1 => M1 = M)) := by
  obtain ⟨fc, fm, fs, hG, hr⟩ := id hL
  have hb := hI.b
  have hs9 := hI.s hs
  obtain ⟨hs1, hs2, -⟩ := id hs9
  have q1 := price_le hI hs
  refine Run.of (l0 := [some (.ref a), some (.int (nI s)), none]) (by decide +kernel) (Nat.le_of_ble_eq_true rfl) (by rfl) (fun Γ G C => ?_)
  refine pw_aload_n (q := 1) (j := 0) C dX2_priceOf_0 rfl rfl rfl ?_
  refine pw_getf (q := 4) C dX2_priceOf_1 fX2_14 hG.1 (by rfl) rfl ?_
  refine pw_aload_n (q := 5) (j := 0) C dX2_priceOf_4 rfl rfl rfl ?_
  refine pw_getf (q := 8) C dX2_priceOf_5 fX2_23 hG.1 (by rfl) rfl ?_
  refine pw_iload_n (q := 9) (j := 1) C dX2_priceOf_8 rfl rfl rfl ?_
  refine pw_iconst_n (q := 10) C 0 dX2_priceOf_9 (by decide +kernel) rfl ?_
  refine pw_rd (q := 13) (cr_v (j := iX8_get) C dX2_priceOf_10 lX2_58 mX8_get (ro_mk (by decide) (by decide)) hG.2.2.2.1 rfl (g_s0 hG hr (by first | assumption | omega)) rfl rfl (Nat.le_of_ble_eq_true rfl) ⟨by omega, by omega⟩) rfl ?_
  refine pw_iconst_n (q := 14) C 1 dX2_priceOf_13 (by decide +kernel) rfl ?_
  refine pw_rd (q := 17) (cr_v (j := iX8_get) C dX2_priceOf_14 lX2_58 mX8_get (ro_mk (by decide) (by decide)) hG.2.1.1 rfl (g_c hG hr (by first | assumption | omega) (by omega)) rfl rfl (Nat.le_of_ble_eq_true rfl) ⟨by omega, by omega⟩) rfl ?_
  refine pw_aload_n (q := 18) (j := 0) C dX2_priceOf_17 rfl rfl rfl ?_
  refine pw_getf (q := 21) C dX2_priceOf_18 fX2_20 hG.1 (by rfl) rfl ?_
  refine pw_aload_n (q := 22) (j := 0) C dX2_priceOf_21 rfl rfl rfl ?_
  refine pw_getf (q := 25) C dX2_priceOf_22 fX2_23 hG.1 (by rfl) rfl ?_
  refine pw_iload_n (q := 26) (j := 1) C dX2_priceOf_25 rfl rfl rfl ?_
  refine pw_iconst_n (q := 27) C 1 dX2_priceOf_26 (by decide +kernel) rfl ?_
  refine pw_rd (q := 30) (cr_v (j := iX8_get) C dX2_priceOf_27 lX2_58 mX8_get (ro_mk (by decide) (by decide)) hG.2.2.2.1 rfl (g_s hG hr (by first | assumption | omega) (by omega)) rfl rfl (Nat.le_of_ble_eq_true rfl) ⟨by omega, by omega⟩) rfl ?_
  refine pw_iconst_n (q := 31) C 0 dX2_priceOf_30 (by decide +kernel) rfl ?_
  refine pw_rd (q := 34) (cr_v (j := iX8_get) C dX2_priceOf_31 lX2_58 mX8_get (ro_mk (by decide) (by decide)) hG.2.2.1.1 rfl (g_m0 hG hr (by first | assumption | omega)) rfl rfl (Nat.le_of_ble_eq_true rfl) ⟨by omega, by omega⟩) rfl ?_
  refine pw_imul_n (q := 35) C dX2_priceOf_34 rfl ?_
  refine pw_istore_n (q := 36) (j := 2) C dX2_priceOf_35 rfl rfl (by decide) rfl ?_
  refine pw_aload_n (q := 37) (j := 0) C dX2_priceOf_36 rfl rfl rfl ?_
  refine pw_getf (q := 40) C dX2_priceOf_37 fX2_23 hG.1 (by rfl) rfl ?_
  refine pw_iload_n (q := 41) (j := 1) C dX2_priceOf_40 rfl rfl rfl ?_
  refine pw_iconst_n (q := 42) C 4 dX2_priceOf_41 (by decide +kernel) rfl ?_
  refine pw_rd (q := 45) (cr_v (j := iX8_get) C dX2_priceOf_42 lX2_58 mX8_get (ro_mk (by decide) (by decide)) hG.2.2.2.1 rfl (g_s hG hr (by first | assumption | omega) (by omega)) rfl rfl (Nat.le_of_ble_eq_true rfl) ⟨by omega, by omega⟩) rfl ?_
  refine pw_if_le_n (q := 48) 54 C dX2_priceOf_45 (by decide) rfl (by omega) (fun g45 => ?_) (fun g45 => ?_)
  · refine pw_iload_n (q := 55) (j := 2) C dX2_priceOf_54 rfl rfl rfl ?_
    exact pw_iret C dX2_priceOf_55 rfl ⟨by omega, by omega⟩ (RV.mk (vnI (by unfold price; rw [if_neg (by omega)])) rfl)
  · refine pw_iload_n (q := 49) (j := 2) C dX2_priceOf_48 rfl rfl rfl ?_
    refine pw_iconst_n (q := 50) C 2 dX2_priceOf_49 (by decide +kernel) rfl ?_
    refine pw_idiv_n (q := 51) C dX2_priceOf_50 (by omega) (by omega) (by omega) rfl ?_
    refine pw_goto (q := 0) 55 C dX2_priceOf_51 (by decide) ?_
    exact pw_iret C dX2_priceOf_55 rfl ⟨by omega, by omega⟩ (RV.mk (vnI (by unfold price; rw [if_pos (by omega)])) rfl)
set_option maxHeartbeats 200000 in
set_option maxRecDepth 100000 in
theorem k_workTo {M : PH} {a : Nat} {P : Nat → Nat} (hL : LodgeAt M a P) (hI : Inv P) {c : Nat} (hc : c < P 5) : Run iX2_workToRecut [.ref a, .int (nI c)] M 0 0 (RV (.int (nI ((P (8 + 3 * c + 1) + 1) / 2))) (fun M1 => M1 = M)) := by
  obtain ⟨fc, fm, fs, hG, hr⟩ := id hL
  have hb := hI.b
  have q2 := hI.c hc
  refine Run.of (l0 := [some (.ref a), some (.int (nI c))]) (by decide +kernel) (Nat.le_of_ble_eq_true rfl) (by rfl) (fun Γ G C => ?_)
  refine pw_aload_n (q := 1) (j := 0) C dX2_workToRecut_0 rfl rfl rfl ?_
  refine pw_getf (q := 4) C dX2_workToRecut_1 fX2_14 hG.1 (by rfl) rfl ?_
  refine pw_iload_n (q := 5) (j := 1) C dX2_workToRecut_4 rfl rfl rfl ?_
  refine pw_iconst_n (q := 6) C 1 dX2_workToRecut_5 (by decide +kernel) rfl ?_
  refine pw_rd (q := 9) (cr_v (j := iX8_get) C dX2_workToRecut_6 lX2_58 mX8_get (ro_mk (by decide) (by decide)) hG.2.1.1 rfl (g_c hG hr (by first | assumption | omega) (by omega)) rfl rfl (Nat.le_of_ble_eq_true rfl) ⟨by omega, by omega⟩) rfl ?_
  refine pw_iconst_n (q := 10) C 1 dX2_workToRecut_9 (by decide +kernel) rfl ?_
  refine pw_iadd_n (q := 11) C dX2_workToRecut_10 rfl ?_
  refine pw_iconst_n (q := 12) C 2 dX2_workToRecut_11 (by decide +kernel) rfl ?_
  refine pw_idiv_n (q := 13) C dX2_workToRecut_12 (by omega) (by omega) (by omega) rfl ?_
  exact pw_iret C dX2_workToRecut_13 rfl ⟨by omega, by omega⟩ (RV.mk (by rfl) rfl)
set_option maxHeartbeats 200000 in
set_option maxRecDepth 100000 in
theorem k_isSmaller {M : PH} {a : Nat} {P : Nat → Nat} (hL : LodgeAt M a P) (hI : Inv P) {c d : Nat} (hc : c < P 5) (hd : d < P 5) : Run iX2_isSmaller [.ref a, .int (nI c), .int (nI d)] M 0 0 (RV (.int (nI (bN (P (8 + 3 * c) < P (8 + 3 * d))))) (fun M1 => M1 = M)) := by
  obtain ⟨fc, fm, fs, hG, hr⟩ := id hL
  have hb := hI.b
  have q1 := hI.c hc
  have q2 := hI.c hd
  refine Run.of (l0 := [some (.ref a), some (.int (nI c)), some (.int (nI d))]) (by decide +kernel) (Nat.le_of_ble_eq_true rfl) (by rfl) (fun Γ G C => ?_)
  refine pw_aload_n (q := 1) (j := 0) C dX2_isSmaller_0 rfl rfl rfl ?_
  refine pw_getf (q := 4) C dX2_isSmaller_1 fX2_14 hG.1 (by rfl) rfl ?_
  refine pw_iload_n (q := 5) (j := 1) C dX2_isSmaller_4 rfl rfl rfl ?_
  refine pw_iconst_n (q := 6) C 0 dX2_isSmaller_5 (by decide +kernel) rfl ?_
  refine pw_rd (q := 9) (cr_v (j := iX8_get) C dX2_isSmaller_6 lX2_58 mX8_get (ro_mk (by decide) (by decide)) hG.2.1.1 rfl (g_c0 hG hr (by first | assumption | omega)) rfl rfl (Nat.le_of_ble_eq_true rfl) ⟨by omega, by omega⟩) rfl ?_
  refine pw_aload_n (q := 10) (j := 0) C dX2_isSmaller_9 rfl rfl rfl ?_
  refine pw_getf (q := 13) C dX2_isSmaller_10 fX2_14 hG.1 (by rfl) rfl ?_
  refine pw_iload_n (q := 14) (j := 2) C dX2_isSmaller_13 rfl rfl rfl ?_
  refine pw_iconst_n (q := 15) C 0 dX2_isSmaller_14 (by decide +kernel) rfl ?_
  refine pw_rd (q := 18) (cr_v (j := iX8_get) C dX2_isSmaller_15 lX2_58 mX8_get (ro_mk (by decide) (by decide)) hG.2.1.1 rfl (g_c0 hG hr (by first | assumption | omega)) rfl rfl (Nat.le_of_ble_eq_true rfl) ⟨by omega, by omega⟩) rfl ?_
  refine pw_icmp_ge_n (q := 21) 25 C dX2_isSmaller_18 (by decide) rfl (by omega) (by omega) (fun g18 => ?_) (fun g18 => ?_)
  · refine pw_iconst_n (q := 26) C 0 dX2_isSmaller_25 (by decide +kernel) rfl ?_
    exact pw_zret C dX2_isSmaller_26 rfl (by first | decide +kernel | exact nar_bN _ | exact nar_01 (by omega)) ⟨by omega, by omega⟩ (RV.mk (v0 (by omega)) rfl)
  · refine pw_iconst_n (q := 22) C 1 dX2_isSmaller_21 (by decide +kernel) rfl ?_
    refine pw_goto (q := 0) 26 C dX2_isSmaller_22 (by decide) ?_
    exact pw_zret C dX2_isSmaller_26 rfl (by first | decide +kernel | exact nar_bN _ | exact nar_01 (by omega)) ⟨by omega, by omega⟩ (RV.mk (v1 (by omega)) rfl)
set_option maxHeartbeats 200000 in
set_option maxRecDepth 100000 in
theorem k_mayRecut_in {M : PH} {a : Nat} {P : Nat → Nat} (hL : LodgeAt M a P) (hI : Inv P) {m s c : Nat} (hm : m < P 6) (hs : s < P 7) (hc : c < P 5) : Run iX2_mayRecut [.ref a, .int (nI m), .int (nI s), .int (nI c)] M 0 0 (RV (.int (nI (bN (canRecut P m s c)))) (fun M1 => M1 = M)) := by
  obtain ⟨fc, fm, fs, hG, hr⟩ := id hL
  have hb := hI.b
  have hs9 := hI.s hs
  obtain ⟨hs1, hs2, -⟩ := id hs9
  have q1 := hI.m hm
  have q2 := hI.c hc
  refine Run.of (l0 := [some (.ref a), some (.int (nI m)), some (.int (nI s)), some (.int (nI c))]) (by decide +kernel) (Nat.le_of_ble_eq_true rfl) (by rfl) (fun Γ G C => ?_)
  refine pw_aload_n (q := 1) (j := 0) C dX2_mayRecut_0 rfl rfl rfl ?_
  refine pw_getf (q := 4) C dX2_mayRecut_1 fX2_20 hG.1 (by rfl) rfl ?_
  refine pw_iload_n (q := 5) (j := 1) C dX2_mayRecut_4 rfl rfl rfl ?_
  refine pw_rd (q := 8) (cr_v (j := iX8_has) C dX2_mayRecut_5 lX2_77 mX8_has (ro_mk (by decide) (by decide)) hG.2.2.1.1 rfl (k_has_in hG.2.2.1 (by first | assumption | omega)) rfl rfl (Nat.le_of_ble_eq_true rfl) ⟨by omega, by omega⟩) rfl ?_
  refine pw_if_eq_n (q := 11) 84 C dX2_mayRecut_8 (by decide) rfl (by omega) (fun g8 => absurd g8 (by omega)) (fun g8 => ?_)
  refine pw_aload_n (q := 12) (j := 0) C dX2_mayRecut_11 rfl rfl rfl ?_
  refine pw_getf (q := 15) C dX2_mayRecut_12 fX2_23 hG.1 (by rfl) rfl ?_
  refine pw_iload_n (q := 16) (j := 2) C dX2_mayRecut_15 rfl rfl rfl ?_
  refine pw_rd (q := 19) (cr_v (j := iX8_has) C dX2_mayRecut_16 lX2_77 mX8_has (ro_mk (by decide) (by decide)) hG.2.2.2.1 rfl (k_has_in hG.2.2.2 (by first | assumption | omega)) rfl rfl (Nat.le_of_ble_eq_true rfl) ⟨by omega, by omega⟩) rfl ?_
  refine pw_if_eq_n (q := 22) 84 C dX2_mayRecut_19 (by decide) rfl (by omega) (fun g19 => absurd g19 (by omega)) (fun g19 => ?_)
  refine pw_aload_n (q := 23) (j := 0) C dX2_mayRecut_22 rfl rfl rfl ?_
  refine pw_getf (q := 26) C dX2_mayRecut_23 fX2_14 hG.1 (by rfl) rfl ?_
  refine pw_iload_n (q := 27) (j := 3) C dX2_mayRecut_26 rfl rfl rfl ?_
  refine pw_rd (q := 30) (cr_v (j := iX8_has) C dX2_mayRecut_27 lX2_77 mX8_has (ro_mk (by decide) (by decide)) hG.2.1.1 rfl (k_has_in hG.2.1 (by first | assumption | omega)) rfl rfl (Nat.le_of_ble_eq_true rfl) ⟨by omega, by omega⟩) rfl ?_
  refine pw_if_eq_n (q := 33) 84 C dX2_mayRecut_30 (by decide) rfl (by omega) (fun g30 => absurd g30 (by omega)) (fun g30 => ?_)
  refine pw_aload_n (q := 34) (j := 0) C dX2_mayRecut_33 rfl rfl rfl ?_
  refine pw_getf (q := 37) C dX2_mayRecut_34 fX2_23 hG.1 (by rfl) rfl ?_
  refine pw_iload_n (q := 38) (j := 2) C dX2_mayRecut_37 rfl rfl rfl ?_
  refine pw_iconst_n (q := 39) C 3 dX2_mayRecut_38 (by decide +kernel) rfl ?_
  refine pw_rd (q := 42) (cr_v (j := iX8_get) C dX2_mayRecut_39 lX2_58 mX8_get (ro_mk (by decide) (by decide)) hG.2.2.2.1 rfl (g_s hG hr (by first | assumption | omega) (by omega)) rfl rfl (Nat.le_of_ble_eq_true rfl) ⟨by omega, by omega⟩) rfl ?_
  refine pw_iconst_n (q := 43) C 2 dX2_mayRecut_42 (by decide +kernel) rfl ?_
  refine pw_icmp_ne_n (q := 46) 84 C dX2_mayRecut_43 (by decide) rfl (by omega) (by omega) (fun g43 => ?_) (fun g43 => ?_)
  · refine pw_iconst_n (q := 85) C 0 dX2_mayRecut_84 (by decide +kernel) rfl ?_
    exact pw_zret C dX2_mayRecut_85 rfl (by first | decide +kernel | exact nar_bN _ | exact nar_01 (by omega)) ⟨by omega, by omega⟩ (RV.mk (v0 (fun q => g43 q.1)) rfl)
  · refine pw_aload_n (q := 47) (j := 0) C dX2_mayRecut_46 rfl rfl rfl ?_
    refine pw_iload_n (q := 48) (j := 3) C dX2_mayRecut_47 rfl rfl rfl ?_
    refine pw_aload_n (q := 49) (j := 0) C dX2_mayRecut_48 rfl rfl rfl ?_
    refine pw_getf (q := 52) C dX2_mayRecut_49 fX2_23 hG.1 (by rfl) rfl ?_
    refine pw_iload_n (q := 53) (j := 2) C dX2_mayRecut_52 rfl rfl rfl ?_
    refine pw_iconst_n (q := 54) C 0 dX2_mayRecut_53 (by decide +kernel) rfl ?_
    refine pw_rd (q := 57) (cr_v (j := iX8_get) C dX2_mayRecut_54 lX2_58 mX8_get (ro_mk (by decide) (by decide)) hG.2.2.2.1 rfl (g_s0 hG hr (by first | assumption | omega)) rfl rfl (Nat.le_of_ble_eq_true rfl) ⟨by omega, by omega⟩) rfl ?_
    refine pw_rd (q := 60) (cr_v (j := iX2_isSmaller) C dX2_mayRecut_57 lX2_100 mX2_isSmaller (ro_mk (by decide) (by decide)) hG.1 rfl (k_isSmaller hL hI (by first | assumption | omega) (by first | assumption | omega)) rfl rfl (Nat.le_of_ble_eq_true rfl) ⟨by omega, by omega⟩) rfl ?_
    refine pw_if_eq_b (q := 63) 84 C dX2_mayRecut_60 (by decide) rfl (fun g60 => ?_) (fun g60 => ?_)
    · refine pw_iconst_n (q := 85) C 0 dX2_mayRecut_84 (by decide +kernel) rfl ?_
      exact pw_zret C dX2_mayRecut_85 rfl (by first | decide +kernel | exact nar_bN _ | exact nar_01 (by omega)) ⟨by omega, by omega⟩ (RV.mk (v0 (fun q => g60 q.2.1)) rfl)
    · refine pw_aload_n (q := 64) (j := 0) C dX2_mayRecut_63 rfl rfl rfl ?_
      refine pw_getf (q := 67) C dX2_mayRecut_64 fX2_20 hG.1 (by rfl) rfl ?_
      refine pw_iload_n (q := 68) (j := 1) C dX2_mayRecut_67 rfl rfl rfl ?_
      refine pw_iconst_n (q := 69) C 2 dX2_mayRecut_68 (by decide +kernel) rfl ?_
      refine pw_rd (q := 72) (cr_v (j := iX8_get) C dX2_mayRecut_69 lX2_58 mX8_get (ro_mk (by decide) (by decide)) hG.2.2.1.1 rfl (g_m hG hr (by first | assumption | omega) (by omega)) rfl rfl (Nat.le_of_ble_eq_true rfl) ⟨by omega, by omega⟩) rfl ?_
      refine pw_aload_n (q := 73) (j := 0) C dX2_mayRecut_72 rfl rfl rfl ?_
      refine pw_iload_n (q := 74) (j := 3) C dX2_mayRecut_73 rfl rfl rfl ?_
      refine pw_rd (q := 77) (cr_v (j := iX2_workToRecut) C dX2_mayRecut_74 lX2_103 mX2_workToRecut (ro_mk (by decide) (by decide)) hG.1 rfl (k_workTo hL hI (by first | assumption | omega)) rfl rfl (Nat.le_of_ble_eq_true rfl) ⟨by omega, by omega⟩) rfl ?_
      refine pw_icmp_lt_n (q := 80) 84 C dX2_mayRecut_77 (by decide) rfl (by omega) (by omega) (fun g77 => ?_) (fun g77 => ?_)
      · refine pw_iconst_n (q := 85) C 0 dX2_mayRecut_84 (by decide +kernel) rfl ?_
        exact pw_zret C dX2_mayRecut_85 rfl (by first | decide +kernel | exact nar_bN _ | exact nar_01 (by omega)) ⟨by omega, by omega⟩ (RV.mk (v0 (fun q => absurd q.2.2 (by omega))) rfl)
      · refine pw_iconst_n (q := 81) C 1 dX2_mayRecut_80 (by decide +kernel) rfl ?_
        refine pw_goto (q := 0) 85 C dX2_mayRecut_81 (by decide) ?_
        exact pw_zret C dX2_mayRecut_85 rfl (by first | decide +kernel | exact nar_bN _ | exact nar_01 (by omega)) ⟨by omega, by omega⟩ (RV.mk (v1 ⟨g43, g60, by omega⟩) rfl)
set_option maxHeartbeats 200000 in
set_option maxRecDepth 100000 in
theorem k_mayRecut_badm {M : PH} {a : Nat} {P : Nat → Nat} (hL : LodgeAt M a P) (hI : Inv P) {m s c : Int32} (hbad : badR m (P 6)) : Run iX2_mayRecut [.ref a, .int m, .int s, .int c] M 0 0 (RV (.int (nI 0)) (fun M1 => M1 = M)) := by
  obtain ⟨fc, fm, fs, hG, hr⟩ := id hL
  have hb := hI.b
  refine Run.of (l0 := [some (.ref a), some (.int m), some (.int s), some (.int c)]) (by decide +kernel) (Nat.le_of_ble_eq_true rfl) (by rfl) (fun Γ G C => ?_)
  refine pw_aload_n (q := 1) (j := 0) C dX2_mayRecut_0 rfl rfl rfl ?_
  refine pw_getf (q := 4) C dX2_mayRecut_1 fX2_20 hG.1 (by rfl) rfl ?_
  refine pw_iload_n (q := 5) (j := 1) C dX2_mayRecut_4 rfl rfl rfl ?_
  refine pw_rd (q := 8) (cr_v (j := iX8_has) C dX2_mayRecut_5 lX2_77 mX8_has (ro_mk (by decide) (by decide)) hG.2.2.1.1 rfl (k_has_bad hG.2.2.1 hbad) rfl rfl (Nat.le_of_ble_eq_true rfl) ⟨by omega, by omega⟩) rfl ?_
  refine pw_if_eq_n (q := 11) 84 C dX2_mayRecut_8 (by decide) rfl (by omega) (fun g8 => ?_) (fun g8 => absurd g8 (by omega))
  refine pw_iconst_n (q := 85) C 0 dX2_mayRecut_84 (by decide +kernel) rfl ?_
  exact pw_zret C dX2_mayRecut_85 rfl (by first | decide +kernel | exact nar_bN _ | exact nar_01 (by omega)) ⟨by omega, by omega⟩ (RV.mk (by rfl) rfl)
set_option maxHeartbeats 200000 in
set_option maxRecDepth 100000 in
theorem k_mayRecut_bads {M : PH} {a : Nat} {P : Nat → Nat} (hL : LodgeAt M a P) (hI : Inv P) {m : Nat} {s c : Int32} (hm : m < P 6) (hbad : badR s (P 7)) : Run iX2_mayRecut [.ref a, .int (nI m), .int s, .int c] M 0 0 (RV (.int (nI 0)) (fun M1 => M1 = M)) := by
  obtain ⟨fc, fm, fs, hG, hr⟩ := id hL
  have hb := hI.b
  refine Run.of (l0 := [some (.ref a), some (.int (nI m)), some (.int s), some (.int c)]) (by decide +kernel) (Nat.le_of_ble_eq_true rfl) (by rfl) (fun Γ G C => ?_)
  refine pw_aload_n (q := 1) (j := 0) C dX2_mayRecut_0 rfl rfl rfl ?_
  refine pw_getf (q := 4) C dX2_mayRecut_1 fX2_20 hG.1 (by rfl) rfl ?_
  refine pw_iload_n (q := 5) (j := 1) C dX2_mayRecut_4 rfl rfl rfl ?_
  refine pw_rd (q := 8) (cr_v (j := iX8_has) C dX2_mayRecut_5 lX2_77 mX8_has (ro_mk (by decide) (by decide)) hG.2.2.1.1 rfl (k_has_in hG.2.2.1 (by first | assumption | omega)) rfl rfl (Nat.le_of_ble_eq_true rfl) ⟨by omega, by omega⟩) rfl ?_
  refine pw_if_eq_n (q := 11) 84 C dX2_mayRecut_8 (by decide) rfl (by omega) (fun g8 => absurd g8 (by omega)) (fun g8 => ?_)
  refine pw_aload_n (q := 12) (j := 0) C dX2_mayRecut_11 rfl rfl rfl ?_
  refine pw_getf (q := 15) C dX2_mayRecut_12 fX2_23 hG.1 (by rfl) rfl ?_
  refine pw_iload_n (q := 16) (j := 2) C dX2_mayRecut_15 rfl rfl rfl ?_
  refine pw_rd (q := 19) (cr_v (j := iX8_has) C dX2_mayRecut_16 lX2_77 mX8_has (ro_mk (by decide) (by decide)) hG.2.2.2.1 rfl (k_has_bad hG.2.2.2 hbad) rfl rfl (Nat.le_of_ble_eq_true rfl) ⟨by omega, by omega⟩) rfl ?_
  refine pw_if_eq_n (q := 22) 84 C dX2_mayRecut_19 (by decide) rfl (by omega) (fun g19 => ?_) (fun g19 => absurd g19 (by omega))
  refine pw_iconst_n (q := 85) C 0 dX2_mayRecut_84 (by decide +kernel) rfl ?_
  exact pw_zret C dX2_mayRecut_85 rfl (by first | decide +kernel | exact nar_bN _ | exact nar_01 (by omega)) ⟨by omega, by omega⟩ (RV.mk (by rfl) rfl)
set_option maxHeartbeats 200000 in
set_option maxRecDepth 100000 in
theorem k_mayRecut_badc {M : PH} {a : Nat} {P : Nat → Nat} (hL : LodgeAt M a P) (hI : Inv P) {m s : Nat} {c : Int32} (hm : m < P 6) (hs : s < P 7) (hbad : badR c (P 5)) : Run iX2_mayRecut [.ref a, .int (nI m), .int (nI s), .int c] M 0 0 (RV (.int (nI 0)) (fun M1 => M1 = M)) := by
  obtain ⟨fc, fm, fs, hG, hr⟩ := id hL
  have hb := hI.b
  refine Run.of (l0 := [some (.ref a), some (.int (nI m)), some (.int (nI s)), some (.int c)]) (by decide +kernel) (Nat.le_of_ble_eq_true rfl) (by rfl) (fun Γ G C => ?_)
  refine pw_aload_n (q := 1) (j := 0) C dX2_mayRecut_0 rfl rfl rfl ?_
  refine pw_getf (q := 4) C dX2_mayRecut_1 fX2_20 hG.1 (by rfl) rfl ?_
  refine pw_iload_n (q := 5) (j := 1) C dX2_mayRecut_4 rfl rfl rfl ?_
  refine pw_rd (q := 8) (cr_v (j := iX8_has) C dX2_mayRecut_5 lX2_77 mX8_has (ro_mk (by decide) (by decide)) hG.2.2.1.1 rfl (k_has_in hG.2.2.1 (by first | assumption | omega)) rfl rfl (Nat.le_of_ble_eq_true rfl) ⟨by omega, by omega⟩) rfl ?_
  refine pw_if_eq_n (q := 11) 84 C dX2_mayRecut_8 (by decide) rfl (by omega) (fun g8 => absurd g8 (by omega)) (fun g8 => ?_)
  refine pw_aload_n (q := 12) (j := 0) C dX2_mayRecut_11 rfl rfl rfl ?_
  refine pw_getf (q := 15) C dX2_mayRecut_12 fX2_23 hG.1 (by rfl) rfl ?_
  refine pw_iload_n (q := 16) (j := 2) C dX2_mayRecut_15 rfl rfl rfl ?_
  refine pw_rd (q := 19) (cr_v (j := iX8_has) C dX2_mayRecut_16 lX2_77 mX8_has (ro_mk (by decide) (by decide)) hG.2.2.2.1 rfl (k_has_in hG.2.2.2 (by first | assumption | omega)) rfl rfl (Nat.le_of_ble_eq_true rfl) ⟨by omega, by omega⟩) rfl ?_
  refine pw_if_eq_n (q := 22) 84 C dX2_mayRecut_19 (by decide) rfl (by omega) (fun g19 => absurd g19 (by omega)) (fun g19 => ?_)
  refine pw_aload_n (q := 23) (j := 0) C dX2_mayRecut_22 rfl rfl rfl ?_
  refine pw_getf (q := 26) C dX2_mayRecut_23 fX2_14 hG.1 (by rfl) rfl ?_
  refine pw_iload_n (q := 27) (j := 3) C dX2_mayRecut_26 rfl rfl rfl ?_
  refine pw_rd (q := 30) (cr_v (j := iX8_has) C dX2_mayRecut_27 lX2_77 mX8_has (ro_mk (by decide) (by decide)) hG.2.1.1 rfl (k_has_bad hG.2.1 hbad) rfl rfl (Nat.le_of_ble_eq_true rfl) ⟨by omega, by omega⟩) rfl ?_
  refine pw_if_eq_n (q := 33) 84 C dX2_mayRecut_30 (by decide) rfl (by omega) (fun g30 => ?_) (fun g30 => absurd g30 (by omega))
  refine pw_iconst_n (q := 85) C 0 dX2_mayRecut_84 (by decide +kernel) rfl ?_
  exact pw_zret C dX2_mayRecut_85 rfl (by first | decide +kernel | exact nar_bN _ | exact nar_01 (by omega)) ⟨by omega, by omega⟩ (RV.mk (by rfl) rfl)
theorem optI_ne {k : Nat} (h : k < 2147483648) : ¬ nI k = -9 := by
  intro q
  have h1 := nI_toInt h
  rw [q] at h1
  have h2 : (-9 : Int32).toInt = -9 := by decide +kernel
  omega
/-- of the courses below n that are smaller than that of the stone and lack stones, the greatest, the lowest of them -/
def rcut (P : Nat → Nat) (own : Nat) : Nat → Option Nat
  | 0 => none
  | n + 1 => if P (8 + 3 * n) < P (8 + 3 * own) ∧ 0 < lacks P n ∧ (∀ b, rcut P own n = some b → P (8 + 3 * b) < P (8 + 3 * n)) then some n else rcut P own n
theorem rcut_lt {P : Nat → Nat} {own : Nat} : ∀ {n b : Nat}, rcut P own n = some b → b < n
  | 0, b, h => by cases h
  | n + 1, b, h => by
    unfold rcut at h
    split at h
    · cases h; omega
    · have := rcut_lt h; omega
theorem rcut_yes {P : Nat → Nat} {own n : Nat} (h1 : P (8 + 3 * n) < P (8 + 3 * own)) (h2 : 0 < lacks P n) (h3 : ∀ b, rcut P own n = some b → P (8 + 3 * b) < P (8 + 3 * n)) : rcut P own (n + 1) = some n := by rw [rcut, if_pos ⟨h1, h2, h3⟩]
theorem rcut_no {P : Nat → Nat} {own n : Nat} (h : ¬ (P (8 + 3 * n) < P (8 + 3 * own) ∧ 0 < lacks P n ∧ ∀ b, rcut P own n = some b → P (8 + 3 * b) < P (8 + 3 * n))) : rcut P own (n + 1) = rcut P own n := by rw [rcut, if_neg h]
def recutC (P : Nat → Nat) (s : Nat) : Option Nat := if P (50 + 6 * s + 3) = 2 then rcut P (P (50 + 6 * s)) (P 5) else none
set_option maxHeartbeats 200000 in
set_option maxRecDepth 100000 in
theorem k_recutFor_in {M : PH} {a : Nat} {P : Nat → Nat} (hL : LodgeAt M a P) (hI : Inv P) {s : Nat} (hs : s < P 7) : Run iX2_courseForRecut [.ref a, .int (nI s)] M 0 0 (RV (.int (optI (recutC P s))) (fun M1 => M1 = M)) := by
  obtain ⟨fc, fm, fs, hG, hr⟩ := id hL
  have hb := hI.b
  have hs9 := hI.s hs
  obtain ⟨hs1, hs2, -⟩ := id hs9
  refine Run.of (l0 := [some (.ref a), some (.int (nI s)), none, none, none]) (by decide +kernel) (Nat.le_of_ble_eq_true rfl) (by rfl) (fun Γ G C => ?_)
  have loop : ∀ (d c : Nat), c + d = P 5 → P (50 + 6 * s + 3) = 2 → PW Γ G (ZJ Γ G 0 0 (RV (.int (optI (recutC P s))) (fun M1 => M1 = M))) 32 [some (.ref a), some (.int (nI s)), some (.int (nI (P (50 + 6 * s)))), some (.int (optI (rcut P (P (50 + 6 * s)) c))), some (.int (nI c))] [] M 0 0 := by
    intro d
    induction d with
    | zero =>
      intro c hd
      intro hst
      refine pw_iload (q := 34) C dX2_courseForRecut_32 rfl rfl ?_
      refine pw_aload_n (q := 35) (j := 0) C dX2_courseForRecut_34 rfl rfl rfl ?_
      refine pw_getf (q := 38) C dX2_courseForRecut_35 fX2_14 hG.1 (by rfl) rfl ?_
      refine pw_rd (q := 41) (cr_v (j := iX8_size) C dX2_courseForRecut_38 lX2_50 mX8_size (ro_mk (by decide) (by decide)) hG.2.1.1 rfl (k_size hG.2.1) rfl rfl (Nat.le_of_ble_eq_true rfl) ⟨by omega, by omega⟩) rfl ?_
      refine pw_icmp_ge_n (q := 44) 88 C dX2_courseForRecut_41 (by decide) rfl (by omega) (by omega) (fun g41 => ?_) (fun g41 => absurd g41 (by omega))
      refine pw_iload_n (q := 89) (j := 3) C dX2_courseForRecut_88 rfl rfl rfl ?_
      exact pw_iret C dX2_courseForRecut_89 rfl ⟨by omega, by omega⟩ (RV.mk (vint (by unfold recutC; rw [if_pos hst, show c = P 5 by omega])) rfl)
    | succ d ih =>
      intro c hd
      intro hst
      have q4 := hI.c (show c < P 5 by omega)
      have q5 : lacks P c ≤ 9 := Nat.le_trans (Nat.sub_le _ _) q4.2.2.2.2.2
      cases hb9 : rcut P (P (50 + 6 * s)) c with
      | none =>
        refine pw_iload (q := 34) C dX2_courseForRecut_32 rfl rfl ?_
        refine pw_aload_n (q := 35) (j := 0) C dX2_courseForRecut_34 rfl rfl rfl ?_
        refine pw_getf (q := 38) C dX2_courseForRecut_35 fX2_14 hG.1 (by rfl) rfl ?_
        refine pw_rd (q := 41) (cr_v (j := iX8_size) C dX2_courseForRecut_38 lX2_50 mX8_size (ro_mk (by decide) (by decide)) hG.2.1.1 rfl (k_size hG.2.1) rfl rfl (Nat.le_of_ble_eq_true rfl) ⟨by omega, by omega⟩) rfl ?_
        refine pw_icmp_ge_n (q := 44) 88 C dX2_courseForRecut_41 (by decide) rfl (by omega) (by omega) (fun g41 => absurd g41 (by omega)) (fun g41 => ?_)
        refine pw_aload_n (q := 45) (j := 0) C dX2_courseForRecut_44 rfl rfl rfl ?_
        refine pw_iload (q := 47) C dX2_courseForRecut_45 rfl rfl ?_
        refine pw_iload_n (q := 48) (j := 2) C dX2_courseForRecut_47 rfl rfl rfl ?_
        refine pw_rd (q := 51) (cr_v (j := iX2_isSmaller) C dX2_courseForRecut_48 lX2_100 mX2_isSmaller (ro_mk (by decide) (by decide)) hG.1 rfl (k_isSmaller hL hI (by first | assumption | omega) (by first | assumption | omega)) rfl rfl (Nat.le_of_ble_eq_true rfl) ⟨by omega, by omega⟩) rfl ?_
        refine pw_if_eq_b (q := 54) 82 C dX2_courseForRecut_51 (by decide) rfl (fun g51 => ?_) (fun g51 => ?_)
        · refine pw_iinc_n (q := 85) C 1 dX2_courseForRecut_82 rfl (by decide +kernel) rfl (by decide) rfl ?_
          refine pw_goto (q := 0) 32 C dX2_courseForRecut_85 (by decide) ?_
          have e9 := ih (c + 1) (by omega) hst
          rw [rcut_no (fun q => g51 q.1), hb9] at e9
          exact e9
        · refine pw_aload_n (q := 55) (j := 0) C dX2_courseForRecut_54 rfl rfl rfl ?_
          refine pw_iload (q := 57) C dX2_courseForRecut_55 rfl rfl ?_
          refine pw_rd (q := 60) (cr_v (j := iX2_lacking) C dX2_courseForRecut_57 lX2_115 mX2_lacking (ro_mk (by decide) (by decide)) hG.1 rfl (k_lacking hL hI (by first | assumption | omega)) rfl rfl (Nat.le_of_ble_eq_true rfl) ⟨by omega, by omega⟩) rfl ?_
          refine pw_if_le_n (q := 63) 82 C dX2_courseForRecut_60 (by decide) rfl (by omega) (fun g60 => ?_) (fun g60 => ?_)
          · refine pw_iinc_n (q := 85) C 1 dX2_courseForRecut_82 rfl (by decide +kernel) rfl (by decide) rfl ?_
            refine pw_goto (q := 0) 32 C dX2_courseForRecut_85 (by decide) ?_
            have e9 := ih (c + 1) (by omega) hst
            rw [rcut_no (fun q => absurd q.2.1 (by omega)), hb9] at e9
            exact e9
          · refine pw_iload_n (q := 64) (j := 3) C dX2_courseForRecut_63 rfl rfl rfl ?_
            refine pw_bipush (q := 66) (v := (-9)) C dX2_courseForRecut_64 (by decide +kernel) rfl ?_
            refine pw_icmp_eq (q := 69) 79 C dX2_courseForRecut_66 (by decide) rfl (fun g66 => ?_) (fun g66 => absurd g66 (not_not_intro rfl))
            refine pw_iload (q := 81) C dX2_courseForRecut_79 rfl rfl ?_
            refine pw_istore_n (q := 82) (j := 3) C dX2_courseForRecut_81 rfl rfl (by decide) rfl ?_
            refine pw_iinc_n (q := 85) C 1 dX2_courseForRecut_82 rfl (by decide +kernel) rfl (by decide) rfl ?_
            refine pw_goto (q := 0) 32 C dX2_courseForRecut_85 (by decide) ?_
            have e9 := ih (c + 1) (by omega) hst
            rw [rcut_yes g51 (by omega) (fun b q => by rw [hb9] at q; cases q)] at e9
            exact e9
      | some b =>
        have hbl := rcut_lt hb9
        refine pw_iload (q := 34) C dX2_courseForRecut_32 rfl rfl ?_
        refine pw_aload_n (q := 35) (j := 0) C dX2_courseForRecut_34 rfl rfl rfl ?_
        refine pw_getf (q := 38) C dX2_courseForRecut_35 fX2_14 hG.1 (by rfl) rfl ?_
        refine pw_rd (q := 41) (cr_v (j := iX8_size) C dX2_courseForRecut_38 lX2_50 mX8_size (ro_mk (by decide) (by decide)) hG.2.1.1 rfl (k_size hG.2.1) rfl rfl (Nat.le_of_ble_eq_true rfl) ⟨by omega, by omega⟩) rfl ?_
        refine pw_icmp_ge_n (q := 44) 88 C dX2_courseForRecut_41 (by decide) rfl (by omega) (by omega) (fun g41 => absurd g41 (by omega)) (fun g41 => ?_)
        refine pw_aload_n (q := 45) (j := 0) C dX2_courseForRecut_44 rfl rfl rfl ?_
        refine pw_iload (q := 47) C dX2_courseForRecut_45 rfl rfl ?_
        refine pw_iload_n (q := 48) (j := 2) C dX2_courseForRecut_47 rfl rfl rfl ?_
        refine pw_rd (q := 51) (cr_v (j := iX2_isSmaller) C dX2_courseForRecut_48 lX2_100 mX2_isSmaller (ro_mk (by decide) (by decide)) hG.1 rfl (k_isSmaller hL hI (by first | assumption | omega) (by first | assumption | omega)) rfl rfl (Nat.le_of_ble_eq_true rfl) ⟨by omega, by omega⟩) rfl ?_
        refine pw_if_eq_b (q := 54) 82 C dX2_courseForRecut_51 (by decide) rfl (fun g51 => ?_) (fun g51 => ?_)
        · refine pw_iinc_n (q := 85) C 1 dX2_courseForRecut_82 rfl (by decide +kernel) rfl (by decide) rfl ?_
          refine pw_goto (q := 0) 32 C dX2_courseForRecut_85 (by decide) ?_
          have e9 := ih (c + 1) (by omega) hst
          rw [rcut_no (fun q => g51 q.1), hb9] at e9
          exact e9
        · refine pw_aload_n (q := 55) (j := 0) C dX2_courseForRecut_54 rfl rfl rfl ?_
          refine pw_iload (q := 57) C dX2_courseForRecut_55 rfl rfl ?_
          refine pw_rd (q := 60) (cr_v (j := iX2_lacking) C dX2_courseForRecut_57 lX2_115 mX2_lacking (ro_mk (by decide) (by decide)) hG.1 rfl (k_lacking hL hI (by first | assumption | omega)) rfl rfl (Nat.le_of_ble_eq_true rfl) ⟨by omega, by omega⟩) rfl ?_
          refine pw_if_le_n (q := 63) 82 C dX2_courseForRecut_60 (by decide) rfl (by omega) (fun g60 => ?_) (fun g60 => ?_)
          · refine pw_iinc_n (q := 85) C 1 dX2_courseForRecut_82 rfl (by decide +kernel) rfl (by decide) rfl ?_
            refine pw_goto (q := 0) 32 C dX2_courseForRecut_85 (by decide) ?_
            have e9 := ih (c + 1) (by omega) hst
            rw [rcut_no (fun q => absurd q.2.1 (by omega)), hb9] at e9
            exact e9
          · refine pw_iload_n (q := 64) (j := 3) C dX2_courseForRecut_63 rfl rfl rfl ?_
            refine pw_bipush (q := 66) (v := (-9)) C dX2_courseForRecut_64 (by decide +kernel) rfl ?_
            refine pw_icmp_eq (q := 69) 79 C dX2_courseForRecut_66 (by decide) rfl (fun g66 => absurd g66 (optI_ne (by omega))) (fun g66 => ?_)
            refine pw_aload_n (q := 70) (j := 0) C dX2_courseForRecut_69 rfl rfl rfl ?_
            refine pw_iload_n (q := 71) (j := 3) C dX2_courseForRecut_70 rfl rfl rfl ?_
            refine pw_iload (q := 73) C dX2_courseForRecut_71 rfl rfl ?_
            refine pw_rd (q := 76) (cr_v (j := iX2_isSmaller) C dX2_courseForRecut_73 lX2_100 mX2_isSmaller (ro_mk (by decide) (by decide)) hG.1 rfl (k_isSmaller hL hI (by first | assumption | omega) (by first | assumption | omega)) rfl rfl (Nat.le_of_ble_eq_true rfl) ⟨by omega, by omega⟩) rfl ?_
            refine pw_if_eq_b (q := 79) 82 C dX2_courseForRecut_76 (by decide) rfl (fun g76 => ?_) (fun g76 => ?_)
            · refine pw_iinc_n (q := 85) C 1 dX2_courseForRecut_82 rfl (by decide +kernel) rfl (by decide) rfl ?_
              refine pw_goto (q := 0) 32 C dX2_courseForRecut_85 (by decide) ?_
              have e9 := ih (c + 1) (by omega) hst
              rw [rcut_no (fun q => g76 (q.2.2 b hb9)), hb9] at e9
              exact e9
            · refine pw_iload (q := 81) C dX2_courseForRecut_79 rfl rfl ?_
              refine pw_istore_n (q := 82) (j := 3) C dX2_courseForRecut_81 rfl rfl (by decide) rfl ?_
              refine pw_iinc_n (q := 85) C 1 dX2_courseForRecut_82 rfl (by decide +kernel) rfl (by decide) rfl ?_
              refine pw_goto (q := 0) 32 C dX2_courseForRecut_85 (by decide) ?_
              have e9 := ih (c + 1) (by omega) hst
              rw [rcut_yes g51 (by omega) (fun b2 q => by rw [hb9] at q; cases q; exact g76)] at e9
              exact e9
  refine pw_aload_n (q := 1) (j := 0) C dX2_courseForRecut_0 rfl rfl rfl ?_
  refine pw_getf (q := 4) C dX2_courseForRecut_1 fX2_23 hG.1 (by rfl) rfl ?_
  refine pw_iload_n (q := 5) (j := 1) C dX2_courseForRecut_4 rfl rfl rfl ?_
  refine pw_iconst_n (q := 6) C 3 dX2_courseForRecut_5 (by decide +kernel) rfl ?_
  refine pw_rd (q := 9) (cr_v (j := iX8_get) C dX2_courseForRecut_6 lX2_58 mX8_get (ro_mk (by decide) (by decide)) hG.2.2.2.1 rfl (g_s hG hr (by first | assumption | omega) (by omega)) rfl rfl (Nat.le_of_ble_eq_true rfl) ⟨by omega, by omega⟩) rfl ?_
  refine pw_iconst_n (q := 10) C 2 dX2_courseForRecut_9 (by decide +kernel) rfl ?_
  refine pw_icmp_eq_n (q := 13) 16 C dX2_courseForRecut_10 (by decide) rfl (by omega) (by omega) (fun g10 => ?_) (fun g10 => ?_)
  · refine pw_aload_n (q := 17) (j := 0) C dX2_courseForRecut_16 rfl rfl rfl ?_
    refine pw_getf (q := 20) C dX2_courseForRecut_17 fX2_23 hG.1 (by rfl) rfl ?_
    refine pw_iload_n (q := 21) (j := 1) C dX2_courseForRecut_20 rfl rfl rfl ?_
    refine pw_iconst_n (q := 22) C 0 dX2_courseForRecut_21 (by decide +kernel) rfl ?_
    refine pw_rd (q := 25) (cr_v (j := iX8_get) C dX2_courseForRecut_22 lX2_58 mX8_get (ro_mk (by decide) (by decide)) hG.2.2.2.1 rfl (g_s0 hG hr (by first | assumption | omega)) rfl rfl (Nat.le_of_ble_eq_true rfl) ⟨by omega, by omega⟩) rfl ?_
    refine pw_istore_n (q := 26) (j := 2) C dX2_courseForRecut_25 rfl rfl (by decide) rfl ?_
    refine pw_bipush (q := 28) (v := (-9)) C dX2_courseForRecut_26 (by decide +kernel) rfl ?_
    refine pw_istore_n (q := 29) (j := 3) C dX2_courseForRecut_28 rfl rfl (by decide) rfl ?_
    refine pw_iconst_n (q := 30) C 0 dX2_courseForRecut_29 (by decide +kernel) rfl ?_
    refine pw_istore (q := 32) C dX2_courseForRecut_30 rfl (by decide) rfl ?_
    exact loop (P 5) 0 (by omega) g10
  · refine pw_bipush (q := 15) (v := (-9)) C dX2_courseForRecut_13 (by decide +kernel) rfl ?_
    exact pw_iret C dX2_courseForRecut_15 rfl ⟨by omega, by omega⟩ (RV.mk (vint (by unfold recutC; rw [if_neg g10]; rfl)) rfl)
set_option maxHeartbeats 200000 in
set_option maxRecDepth 100000 in
theorem k_recutFor_bad {M : PH} {a : Nat} {P : Nat → Nat} (hL : LodgeAt M a P) (hI : Inv P) {s : Int32} (hbad : badR s (P 7)) : Run iX2_courseForRecut [.ref a, .int s] M 0 0 (RV (.int (-9)) (fun M1 => M1 = M)) := by
  obtain ⟨fc, fm, fs, hG, hr⟩ := id hL
  have hb := hI.b
  refine Run.of (l0 := [some (.ref a), some (.int s), none, none, none]) (by decide +kernel) (Nat.le_of_ble_eq_true rfl) (by rfl) (fun Γ G C => ?_)
  refine pw_aload_n (q := 1) (j := 0) C dX2_courseForRecut_0 rfl rfl rfl ?_
  refine pw_getf (q := 4) C dX2_courseForRecut_1 fX2_23 hG.1 (by rfl) rfl ?_
  refine pw_iload_n (q := 5) (j := 1) C dX2_courseForRecut_4 rfl rfl rfl ?_
  refine pw_iconst_n (q := 6) C 3 dX2_courseForRecut_5 (by decide +kernel) rfl ?_
  refine pw_rd (q := 9) (cr_v (j := iX8_get) C dX2_courseForRecut_6 lX2_58 mX8_get (ro_mk (by decide) (by decide)) hG.2.2.2.1 rfl (k_get_bad hG.2.2.2 hbad) rfl rfl (Nat.le_of_ble_eq_true rfl) ⟨by omega, by omega⟩) rfl ?_
  refine pw_iconst_n (q := 10) C 2 dX2_courseForRecut_9 (by decide +kernel) rfl ?_
  refine pw_icmp_eq_n (q := 13) 16 C dX2_courseForRecut_10 (by decide) rfl (by omega) (by omega) (fun g10 => absurd g10 (by omega)) (fun g10 => ?_)
  refine pw_bipush (q := 15) (v := (-9)) C dX2_courseForRecut_13 (by decide +kernel) rfl ?_
  exact pw_iret C dX2_courseForRecut_15 rfl ⟨by omega, by omega⟩ (RV.mk (by rfl) rfl)
/-- of the masons below n with work enough for a stone of c, the cheapest, the lowest of them -/
def cheapN (P : Nat → Nat) (c : Nat) : Nat → Option Nat
  | 0 => none
  | n + 1 => if P (8 + 3 * c + 1) ≤ P (26 + 4 * n + 2) ∧ (∀ b, cheapN P c n = some b → P (26 + 4 * n) < P (26 + 4 * b)) then some n else cheapN P c n
theorem cheapN_lt {P : Nat → Nat} {c : Nat} : ∀ {n b : Nat}, cheapN P c n = some b → b < n
  | 0, b, h => by cases h
  | n + 1, b, h => by
    unfold cheapN at h
    split at h
    · cases h; omega
    · have := cheapN_lt h; omega
theorem cheapN_yes {P : Nat → Nat} {c n : Nat} (h1 : P (8 + 3 * c + 1) ≤ P (26 + 4 * n + 2)) (h3 : ∀ b, cheapN P c n = some b → P (26 + 4 * n) < P (26 + 4 * b)) : cheapN P c (n + 1) = some n := by rw [cheapN, if_pos ⟨h1, h3⟩]
theorem cheapN_no {P : Nat → Nat} {c n : Nat} (h : ¬ (P (8 + 3 * c + 1) ≤ P (26 + 4 * n + 2) ∧ ∀ b, cheapN P c n = some b → P (26 + 4 * n) < P (26 + 4 * b))) : cheapN P c (n + 1) = cheapN P c n := by rw [cheapN, if_neg h]
/-- the smallest rate below n, 9 at most -/
def minR (P : Nat → Nat) : Nat → Nat
  | 0 => 9
  | n + 1 => min (minR P n) (P (26 + 4 * n))
theorem minR_le (P : Nat → Nat) : ∀ n, minR P n ≤ 9
  | 0 => Nat.le_refl 9
  | n + 1 => Nat.le_trans (Nat.min_le_left _ _) (minR_le P n)
def lackF (P : Nat → Nat) : Nat := sumN (fun c => lacks P c * P (8 + 3 * c + 1)) (P 5)
theorem sumN_le {f : Nat → Nat} {b : Nat} : ∀ {n : Nat}, (∀ k, k < n → f k ≤ b) → sumN f n ≤ n * b
  | 0, _ => by simp [sumN]
  | n + 1, h => by
    have h1 := sumN_le (n := n) (fun k hk => h k (Nat.lt_succ_of_lt hk))
    have h2 := h n (Nat.lt_succ_self n)
    rw [sumN, Nat.succ_mul]
    omega
theorem lackF_le {P : Nat → Nat} (hI : Inv P) {n : Nat} (hn : n ≤ P 5) : sumN (fun c => lacks P c * P (8 + 3 * c + 1)) n ≤ 324 := by
  have hb := hI.b
  have h1 := sumN_le (f := fun c => lacks P c * P (8 + 3 * c + 1)) (b := 9 * 6) (n := n) (fun k hk => by
    have h := hI.c (show k < P 5 by omega)
    exact Nat.mul_le_mul (Nat.le_trans (Nat.sub_le _ _) h.2.2.2.2.2) h.2.2.2.1)
  have h2 : n * (9 * 6) ≤ 6 * (9 * 6) := Nat.mul_le_mul_right _ (by omega)
  omega
def cost (P : Nat → Nat) : Int32 := if 0 < lackF P ∧ P 6 = 0 then -9 else nI (lackF P * minR P (P 6))
def openC (P : Nat → Nat) (c : Nat) : Nat := P (8 + 3 * c + 2) - cntC P c 3
def canSetN (P : Nat → Nat) : Nat := if P 2 ≠ 0 then 0 else sumN (fun c => min (openC P c) (cntC P c 1)) (min (fst (fun c => cntC P c 1 < openC P c) (P 5) + 1) (P 5))
def earnF (P : Nat → Nat) (b s : Nat) : Nat := if P (50 + 6 * s + 3) = 0 ∧ P (50 + 6 * s + 2) ≤ b then price P s else 0
def earn (P : Nat → Nat) (b : Nat) : Nat := sumN (earnF P b) (P 7)
def badM (P : Nat → Nat) (m : Nat) : Nat := cntM P m 2 + cntM P m 4
/-- the worst mason below n, and how bad -/
def worstN (P : Nat → Nat) : Nat → Option Nat × Nat
  | 0 => (none, 0)
  | n + 1 => if (worstN P n).2 < badM P n then (some n, badM P n) else worstN P n
theorem worstN_yes {P : Nat → Nat} {n : Nat} (h : (worstN P n).2 < badM P n) : worstN P (n + 1) = (some n, badM P n) := by rw [worstN, if_pos h]
theorem worstN_no {P : Nat → Nat} {n : Nat} (h : ¬ (worstN P n).2 < badM P n) : worstN P (n + 1) = worstN P n := by rw [worstN, if_neg h]
theorem badM_le {P : Nat → Nat} (hI : Inv P) (m : Nat) : badM P m ≤ 48 := by
  have h1 := cntM_le hI m 2
  have h2 := cntM_le hI m 4
  unfold badM
  omega
theorem worstN_le {P : Nat → Nat} (hI : Inv P) : ∀ n, (worstN P n).2 ≤ 48
  | 0 => by simp [worstN]
  | n + 1 => by
    unfold worstN
    split
    · exact badM_le hI n
    · exact worstN_le hI n
set_option maxHeartbeats 200000 in
set_option maxRecDepth 100000 in
theorem k_cheapest {M : PH} {a : Nat} {P : Nat → Nat} (hL : LodgeAt M a P) (hI : Inv P) {c : Nat} (hc : c < P 5) : Run iX2_cheapestFor [.ref a, .int (nI c)] M 0 0 (RV (.int (optI (cheapN P c (P 6)))) (fun M1 => M1 = M)) := by
  obtain ⟨fc, fm, fs, hG, hr⟩ := id hL
  have hb := hI.b
  refine Run.of (l0 := [some (.ref a), some (.int (nI c)), none, none]) (by decide +kernel) (Nat.le_of_ble_eq_true rfl) (by rfl) (fun Γ G C => ?_)
  have loop : ∀ (d m : Nat), m + d = P 6 → PW Γ G (ZJ Γ G 0 0 (RV (.int (optI (cheapN P c (P 6)))) (fun M1 => M1 = M))) 5 [some (.ref a), some (.int (nI c)), some (.int (optI (cheapN P c m))), some (.int (nI m))] [] M 0 0 := by
    intro d
    induction d with
    | zero =>
      intro m hd
      refine pw_iload_n (q := 6) (j := 3) C dX2_cheapestFor_5 rfl rfl rfl ?_
      refine pw_aload_n (q := 7) (j := 0) C dX2_cheapestFor_6 rfl rfl rfl ?_
      refine pw_getf (q := 10) C dX2_cheapestFor_7 fX2_20 hG.1 (by rfl) rfl ?_
      refine pw_rd (q := 13) (cr_v (j := iX8_size) C dX2_cheapestFor_10 lX2_50 mX8_size (ro_mk (by decide) (by decide)) hG.2.2.1.1 rfl (k_size hG.2.2.1) rfl rfl (Nat.le_of_ble_eq_true rfl) ⟨by omega, by omega⟩) rfl ?_
      refine pw_icmp_ge_n (q := 16) 60 C dX2_cheapestFor_13 (by decide) rfl (by omega) (by omega) (fun g13 => ?_) (fun g13 => absurd g13 (by omega))
      refine pw_iload_n (q := 61) (j := 2) C dX2_cheapestFor_60 rfl rfl rfl ?_
      exact pw_iret C dX2_cheapestFor_61 rfl ⟨by omega, by omega⟩ (RV.mk (vint (by rw [show m = P 6 by omega])) rfl)
    | succ d ih =>
      intro m hd
      have q4 := hI.m (show m < P 6 by omega)
      cases hb9 : cheapN P c m with
      | none =>
        refine pw_iload_n (q := 6) (j := 3) C dX2_cheapestFor_5 rfl rfl rfl ?_
        refine pw_aload_n (q := 7) (j := 0) C dX2_cheapestFor_6 rfl rfl rfl ?_
        refine pw_getf (q := 10) C dX2_cheapestFor_7 fX2_20 hG.1 (by rfl) rfl ?_
        refine pw_rd (q := 13) (cr_v (j := iX8_size) C dX2_cheapestFor_10 lX2_50 mX8_size (ro_mk (by decide) (by decide)) hG.2.2.1.1 rfl (k_size hG.2.2.1) rfl rfl (Nat.le_of_ble_eq_true rfl) ⟨by omega, by omega⟩) rfl ?_
        refine pw_icmp_ge_n (q := 16) 60 C dX2_cheapestFor_13 (by decide) rfl (by omega) (by omega) (fun g13 => absurd g13 (by omega)) (fun g13 => ?_)
        refine pw_aload_n (q := 17) (j := 0) C dX2_cheapestFor_16 rfl rfl rfl ?_
        refine pw_iload_n (q := 18) (j := 3) C dX2_cheapestFor_17 rfl rfl rfl ?_
        refine pw_iload_n (q := 19) (j := 1) C dX2_cheapestFor_18 rfl rfl rfl ?_
        refine pw_rd (q := 22) (cr_v (j := iX2_hasWorkToCut) C dX2_cheapestFor_19 lX2_81 mX2_hasWorkToCut (ro_mk (by decide) (by decide)) hG.1 rfl (k_hasWork hL hI (by first | assumption | omega) (by first | assumption | omega)) rfl rfl (Nat.le_of_ble_eq_true rfl) ⟨by omega, by omega⟩) rfl ?_
        refine pw_if_eq_b (q := 25) 54 C dX2_cheapestFor_22 (by decide) rfl (fun g22 => ?_) (fun g22 => ?_)
        · refine pw_iinc_n (q := 57) C 1 dX2_cheapestFor_54 rfl (by decide +kernel) rfl (by decide) rfl ?_
          refine pw_goto (q := 0) 5 C dX2_cheapestFor_57 (by decide) ?_
          have e9 := ih (m + 1) (by omega)
          rw [cheapN_no (fun q => g22 q.1), hb9] at e9
          exact e9
        · refine pw_iload_n (q := 26) (j := 2) C dX2_cheapestFor_25 rfl rfl rfl ?_
          refine pw_bipush (q := 28) (v := (-9)) C dX2_cheapestFor_26 (by decide +kernel) rfl ?_
          refine pw_icmp_eq (q := 31) 52 C dX2_cheapestFor_28 (by decide) rfl (fun g28 => ?_) (fun g28 => absurd g28 (not_not_intro rfl))
          refine pw_iload_n (q := 53) (j := 3) C dX2_cheapestFor_52 rfl rfl rfl ?_
          refine pw_istore_n (q := 54) (j := 2) C dX2_cheapestFor_53 rfl rfl (by decide) rfl ?_
          refine pw_iinc_n (q := 57) C 1 dX2_cheapestFor_54 rfl (by decide +kernel) rfl (by decide) rfl ?_
          refine pw_goto (q := 0) 5 C dX2_cheapestFor_57 (by decide) ?_
          have e9 := ih (m + 1) (by omega)
          rw [cheapN_yes g22 (fun b q => by rw [hb9] at q; cases q)] at e9
          exact e9
      | some b =>
        have hbl := cheapN_lt hb9
        have q5 := hI.m (show b < P 6 by omega)
        refine pw_iload_n (q := 6) (j := 3) C dX2_cheapestFor_5 rfl rfl rfl ?_
        refine pw_aload_n (q := 7) (j := 0) C dX2_cheapestFor_6 rfl rfl rfl ?_
        refine pw_getf (q := 10) C dX2_cheapestFor_7 fX2_20 hG.1 (by rfl) rfl ?_
        refine pw_rd (q := 13) (cr_v (j := iX8_size) C dX2_cheapestFor_10 lX2_50 mX8_size (ro_mk (by decide) (by decide)) hG.2.2.1.1 rfl (k_size hG.2.2.1) rfl rfl (Nat.le_of_ble_eq_true rfl) ⟨by omega, by omega⟩) rfl ?_
        refine pw_icmp_ge_n (q := 16) 60 C dX2_cheapestFor_13 (by decide) rfl (by omega) (by omega) (fun g13 => absurd g13 (by omega)) (fun g13 => ?_)
        refine pw_aload_n (q := 17) (j := 0) C dX2_cheapestFor_16 rfl rfl rfl ?_
        refine pw_iload_n (q := 18) (j := 3) C dX2_cheapestFor_17 rfl rfl rfl ?_
        refine pw_iload_n (q := 19) (j := 1) C dX2_cheapestFor_18 rfl rfl rfl ?_
        refine pw_rd (q := 22) (cr_v (j := iX2_hasWorkToCut) C dX2_cheapestFor_19 lX2_81 mX2_hasWorkToCut (ro_mk (by decide) (by decide)) hG.1 rfl (k_hasWork hL hI (by first | assumption | omega) (by first | assumption | omega)) rfl rfl (Nat.le_of_ble_eq_true rfl) ⟨by omega, by omega⟩) rfl ?_
        refine pw_if_eq_b (q := 25) 54 C dX2_cheapestFor_22 (by decide) rfl (fun g22 => ?_) (fun g22 => ?_)
        · refine pw_iinc_n (q := 57) C 1 dX2_cheapestFor_54 rfl (by decide +kernel) rfl (by decide) rfl ?_
          refine pw_goto (q := 0) 5 C dX2_cheapestFor_57 (by decide) ?_
          have e9 := ih (m + 1) (by omega)
          rw [cheapN_no (fun q => g22 q.1), hb9] at e9
          exact e9
        · refine pw_iload_n (q := 26) (j := 2) C dX2_cheapestFor_25 rfl rfl rfl ?_
          refine pw_bipush (q := 28) (v := (-9)) C dX2_cheapestFor_26 (by decide +kernel) rfl ?_
          refine pw_icmp_eq (q := 31) 52 C dX2_cheapestFor_28 (by decide) rfl (fun g28 => absurd g28 (optI_ne (by omega))) (fun g28 => ?_)
          refine pw_aload_n (q := 32) (j := 0) C dX2_cheapestFor_31 rfl rfl rfl ?_
          refine pw_getf (q := 35) C dX2_cheapestFor_32 fX2_20 hG.1 (by rfl) rfl ?_
          refine pw_iload_n (q := 36) (j := 3) C dX2_cheapestFor_35 rfl rfl rfl ?_
          refine pw_iconst_n (q := 37) C 0 dX2_cheapestFor_36 (by decide +kernel) rfl ?_
          refine pw_rd (q := 40) (cr_v (j := iX8_get) C dX2_cheapestFor_37 lX2_58 mX8_get (ro_mk (by decide) (by decide)) hG.2.2.1.1 rfl (g_m0 hG hr (by first | assumption | omega)) rfl rfl (Nat.le_of_ble_eq_true rfl) ⟨by omega, by omega⟩) rfl ?_
          refine pw_aload_n (q := 41) (j := 0) C dX2_cheapestFor_40 rfl rfl rfl ?_
          refine pw_getf (q := 44) C dX2_cheapestFor_41 fX2_20 hG.1 (by rfl) rfl ?_
          refine pw_iload_n (q := 45) (j := 2) C dX2_cheapestFor_44 rfl rfl rfl ?_
          refine pw_iconst_n (q := 46) C 0 dX2_cheapestFor_45 (by decide +kernel) rfl ?_
          refine pw_rd (q := 49) (cr_v (j := iX8_get) C dX2_cheapestFor_46 lX2_58 mX8_get (ro_mk (by decide) (by decide)) hG.2.2.1.1 rfl (g_m0 hG hr (by first | assumption | omega)) rfl rfl (Nat.le_of_ble_eq_true rfl) ⟨by omega, by omega⟩) rfl ?_
          refine pw_icmp_ge_n (q := 52) 54 C dX2_cheapestFor_49 (by decide) rfl (by omega) (by omega) (fun g49 => ?_) (fun g49 => ?_)
          · refine pw_iinc_n (q := 57) C 1 dX2_cheapestFor_54 rfl (by decide +kernel) rfl (by decide) rfl ?_
            refine pw_goto (q := 0) 5 C dX2_cheapestFor_57 (by decide) ?_
            have e9 := ih (m + 1) (by omega)
            rw [cheapN_no (fun q => absurd (q.2 b hb9) (by omega)), hb9] at e9
            exact e9
          · refine pw_iload_n (q := 53) (j := 3) C dX2_cheapestFor_52 rfl rfl rfl ?_
            refine pw_istore_n (q := 54) (j := 2) C dX2_cheapestFor_53 rfl rfl (by decide) rfl ?_
            refine pw_iinc_n (q := 57) C 1 dX2_cheapestFor_54 rfl (by decide +kernel) rfl (by decide) rfl ?_
            refine pw_goto (q := 0) 5 C dX2_cheapestFor_57 (by decide) ?_
            have e9 := ih (m + 1) (by omega)
            rw [cheapN_yes g22 (fun b2 q => by rw [hb9] at q; cases q; omega)] at e9
            exact e9
  refine pw_bipush (q := 2) (v := (-9)) C dX2_cheapestFor_0 (by decide +kernel) rfl ?_
  refine pw_istore_n (q := 3) (j := 2) C dX2_cheapestFor_2 rfl rfl (by decide) rfl ?_
  refine pw_iconst_n (q := 4) C 0 dX2_cheapestFor_3 (by decide +kernel) rfl ?_
  refine pw_istore_n (q := 5) (j := 3) C dX2_cheapestFor_4 rfl rfl (by decide) rfl ?_
  exact loop (P 6) 0 (by omega)
set_option maxHeartbeats 200000 in
set_option maxRecDepth 100000 in
theorem k_smallest {M : PH} {a : Nat} {P : Nat → Nat} (hL : LodgeAt M a P) (hI : Inv P)  : Run iX2_smallestRate [.ref a] M 0 0 (RV (.int (nI (minR P (P 6)))) (fun M1 => M1 = M)) := by
  obtain ⟨fc, fm, fs, hG, hr⟩ := id hL
  have hb := hI.b
  refine Run.of (l0 := [some (.ref a), none, none]) (by decide +kernel) (Nat.le_of_ble_eq_true rfl) (by rfl) (fun Γ G C => ?_)
  have loop : ∀ (d m : Nat), m + d = P 6 → PW Γ G (ZJ Γ G 0 0 (RV (.int (nI (minR P (P 6)))) (fun M1 => M1 = M))) 5 [some (.ref a), some (.int (nI (minR P m))), some (.int (nI m))] [] M 0 0 := by
    intro d
    induction d with
    | zero =>
      intro m hd
      refine pw_iload_n (q := 6) (j := 2) C dX2_smallestRate_5 rfl rfl rfl ?_
      refine pw_aload_n (q := 7) (j := 0) C dX2_smallestRate_6 rfl rfl rfl ?_
      refine pw_getf (q := 10) C dX2_smallestRate_7 fX2_20 hG.1 (by rfl) rfl ?_
      refine pw_rd (q := 13) (cr_v (j := iX8_size) C dX2_smallestRate_10 lX2_50 mX8_size (ro_mk (by decide) (by decide)) hG.2.2.1.1 rfl (k_size hG.2.2.1) rfl rfl (Nat.le_of_ble_eq_true rfl) ⟨by omega, by omega⟩) rfl ?_
      refine pw_icmp_ge_n (q := 16) 36 C dX2_smallestRate_13 (by decide) rfl (by omega) (by omega) (fun g13 => ?_) (fun g13 => absurd g13 (by omega))
      refine pw_iload_n (q := 37) (j := 1) C dX2_smallestRate_36 rfl rfl rfl ?_
      exact pw_iret C dX2_smallestRate_37 rfl ⟨by omega, by omega⟩ (RV.mk (vnI (by rw [show m = P 6 by omega])) rfl)
    | succ d ih =>
      intro m hd
      have q4 := hI.m (show m < P 6 by omega)
      have q5 := minR_le P m
      refine pw_iload_n (q := 6) (j := 2) C dX2_smallestRate_5 rfl rfl rfl ?_
      refine pw_aload_n (q := 7) (j := 0) C dX2_smallestRate_6 rfl rfl rfl ?_
      refine pw_getf (q := 10) C dX2_smallestRate_7 fX2_20 hG.1 (by rfl) rfl ?_
      refine pw_rd (q := 13) (cr_v (j := iX8_size) C dX2_smallestRate_10 lX2_50 mX8_size (ro_mk (by decide) (by decide)) hG.2.2.1.1 rfl (k_size hG.2.2.1) rfl rfl (Nat.le_of_ble_eq_true rfl) ⟨by omega, by omega⟩) rfl ?_
      refine pw_icmp_ge_n (q := 16) 36 C dX2_smallestRate_13 (by decide) rfl (by omega) (by omega) (fun g13 => absurd g13 (by omega)) (fun g13 => ?_)
      refine pw_iload_n (q := 17) (j := 1) C dX2_smallestRate_16 rfl rfl rfl ?_
      refine pw_aload_n (q := 18) (j := 0) C dX2_smallestRate_17 rfl rfl rfl ?_
      refine pw_getf (q := 21) C dX2_smallestRate_18 fX2_20 hG.1 (by rfl) rfl ?_
      refine pw_iload_n (q := 22) (j := 2) C dX2_smallestRate_21 rfl rfl rfl ?_
      refine pw_iconst_n (q := 23) C 0 dX2_smallestRate_22 (by decide +kernel) rfl ?_
      refine pw_rd (q := 26) (cr_v (j := iX8_get) C dX2_smallestRate_23 lX2_58 mX8_get (ro_mk (by decide) (by decide)) hG.2.2.1.1 rfl (g_m0 hG hr (by first | assumption | omega)) rfl rfl (Nat.le_of_ble_eq_true rfl) ⟨by omega, by omega⟩) rfl ?_
      refine pw_min_n (q := 29) C dX2_smallestRate_26 lX2_118 mMmin.1 mMmin.2.1 mMmin.2.2 ⟨by decide, Nat.le_of_ble_eq_true rfl⟩ ⟨by omega, by omega⟩ (by omega) (by omega) rfl ?_
      refine pw_istore_n (q := 30) (j := 1) C dX2_smallestRate_29 rfl rfl (by decide) rfl ?_
      refine pw_iinc_n (q := 33) C 1 dX2_smallestRate_30 rfl (by decide +kernel) rfl (by decide) rfl ?_
      refine pw_goto (q := 0) 5 C dX2_smallestRate_33 (by decide) ?_
      exact ih (m + 1) (by omega)
  refine pw_bipush_n (q := 2) C 9 dX2_smallestRate_0 (by decide +kernel) rfl ?_
  refine pw_istore_n (q := 3) (j := 1) C dX2_smallestRate_2 rfl rfl (by decide) rfl ?_
  refine pw_iconst_n (q := 4) C 0 dX2_smallestRate_3 (by decide +kernel) rfl ?_
  refine pw_istore_n (q := 5) (j := 2) C dX2_smallestRate_4 rfl rfl (by decide) rfl ?_
  exact loop (P 6) 0 (by omega)
set_option maxHeartbeats 200000 in
set_option maxRecDepth 100000 in
theorem k_cost {M : PH} {a : Nat} {P : Nat → Nat} (hL : LodgeAt M a P) (hI : Inv P)  : Run iX2_costOfLacking [.ref a] M 0 0 (RV (.int (cost P)) (fun M1 => M1 = M)) := by
  obtain ⟨fc, fm, fs, hG, hr⟩ := id hL
  have hb := hI.b
  refine Run.of (l0 := [some (.ref a), none, none]) (by decide +kernel) (Nat.le_of_ble_eq_true rfl) (by rfl) (fun Γ G C => ?_)
  have loop : ∀ (d c : Nat), c + d = P 5 → PW Γ G (ZJ Γ G 0 0 (RV (.int (cost P)) (fun M1 => M1 = M))) 4 [some (.ref a), some (.int (nI (sumN (fun c => lacks P c * P (8 + 3 * c + 1)) c))), some (.int (nI c))] [] M 0 0 := by
    intro d
    induction d with
    | zero =>
      intro c hd
      refine pw_iload_n (q := 5) (j := 2) C dX2_costOfLacking_4 rfl rfl rfl ?_
      refine pw_aload_n (q := 6) (j := 0) C dX2_costOfLacking_5 rfl rfl rfl ?_
      refine pw_getf (q := 9) C dX2_costOfLacking_6 fX2_14 hG.1 (by rfl) rfl ?_
      refine pw_rd (q := 12) (cr_v (j := iX8_size) C dX2_costOfLacking_9 lX2_50 mX8_size (ro_mk (by decide) (by decide)) hG.2.1.1 rfl (k_size hG.2.1) rfl rfl (Nat.le_of_ble_eq_true rfl) ⟨by omega, by omega⟩) rfl ?_
      refine pw_icmp_ge_n (q := 15) 39 C dX2_costOfLacking_12 (by decide) rfl (by omega) (by omega) (fun g12 => ?_) (fun g12 => absurd g12 (by omega))
      have q7 : sumN (fun c => lacks P c * P (8 + 3 * c + 1)) c = lackF P := by rw [show c = P 5 by omega]; rfl
      have q8 : lackF P ≤ 324 := lackF_le hI (Nat.le_refl _)
      rw [q7]
      refine pw_iload_n (q := 40) (j := 1) C dX2_costOfLacking_39 rfl rfl rfl ?_
      refine pw_if_le_n (q := 43) 56 C dX2_costOfLacking_40 (by decide) rfl (by omega) (fun g40 => ?_) (fun g40 => ?_)
      · refine pw_iload_n (q := 57) (j := 1) C dX2_costOfLacking_56 rfl rfl rfl ?_
        refine pw_aload_n (q := 58) (j := 0) C dX2_costOfLacking_57 rfl rfl rfl ?_
        refine pw_rd (q := 61) (cr_v (j := iX2_smallestRate) C dX2_costOfLacking_58 lX2_121 mX2_smallestRate (ro_mk (by decide) (by decide)) hG.1 rfl (k_smallest hL hI) rfl rfl (Nat.le_of_ble_eq_true rfl) ⟨by omega, by omega⟩) rfl ?_
        refine pw_imul_n (q := 62) C dX2_costOfLacking_61 rfl ?_
        exact pw_iret C dX2_costOfLacking_62 rfl ⟨by omega, by omega⟩ (RV.mk (vint (by unfold cost; rw [if_neg (by omega)])) rfl)
      · refine pw_aload_n (q := 44) (j := 0) C dX2_costOfLacking_43 rfl rfl rfl ?_
        refine pw_getf (q := 47) C dX2_costOfLacking_44 fX2_20 hG.1 (by rfl) rfl ?_
        refine pw_rd (q := 50) (cr_v (j := iX8_size) C dX2_costOfLacking_47 lX2_50 mX8_size (ro_mk (by decide) (by decide)) hG.2.2.1.1 rfl (k_size hG.2.2.1) rfl rfl (Nat.le_of_ble_eq_true rfl) ⟨by omega, by omega⟩) rfl ?_
        refine pw_if_ne_n (q := 53) 56 C dX2_costOfLacking_50 (by decide) rfl (by omega) (fun g50 => ?_) (fun g50 => ?_)
        · refine pw_iload_n (q := 57) (j := 1) C dX2_costOfLacking_56 rfl rfl rfl ?_
          refine pw_aload_n (q := 58) (j := 0) C dX2_costOfLacking_57 rfl rfl rfl ?_
          refine pw_rd (q := 61) (cr_v (j := iX2_smallestRate) C dX2_costOfLacking_58 lX2_121 mX2_smallestRate (ro_mk (by decide) (by decide)) hG.1 rfl (k_smallest hL hI) rfl rfl (Nat.le_of_ble_eq_true rfl) ⟨by omega, by omega⟩) rfl ?_
          refine pw_imul_n (q := 62) C dX2_costOfLacking_61 rfl ?_
          exact pw_iret C dX2_costOfLacking_62 rfl ⟨by omega, by omega⟩ (RV.mk (vint (by unfold cost; rw [if_neg (by omega)])) rfl)
        · refine pw_bipush (q := 55) (v := (-9)) C dX2_costOfLacking_53 (by decide +kernel) rfl ?_
          exact pw_iret C dX2_costOfLacking_55 rfl ⟨by omega, by omega⟩ (RV.mk (vint (by unfold cost; rw [if_pos (by omega)])) rfl)
    | succ d ih =>
      intro c hd
      have q4 := hI.c (show c < P 5 by omega)
      refine pw_iload_n (q := 5) (j := 2) C dX2_costOfLacking_4 rfl rfl rfl ?_
      refine pw_aload_n (q := 6) (j := 0) C dX2_costOfLacking_5 rfl rfl rfl ?_
      refine pw_getf (q := 9) C dX2_costOfLacking_6 fX2_14 hG.1 (by rfl) rfl ?_
      refine pw_rd (q := 12) (cr_v (j := iX8_size) C dX2_costOfLacking_9 lX2_50 mX8_size (ro_mk (by decide) (by decide)) hG.2.1.1 rfl (k_size hG.2.1) rfl rfl (Nat.le_of_ble_eq_true rfl) ⟨by omega, by omega⟩) rfl ?_
      refine pw_icmp_ge_n (q := 15) 39 C dX2_costOfLacking_12 (by decide) rfl (by omega) (by omega) (fun g12 => absurd g12 (by omega)) (fun g12 => ?_)
      refine pw_iload_n (q := 16) (j := 1) C dX2_costOfLacking_15 rfl rfl rfl ?_
      refine pw_aload_n (q := 17) (j := 0) C dX2_costOfLacking_16 rfl rfl rfl ?_
      refine pw_iload_n (q := 18) (j := 2) C dX2_costOfLacking_17 rfl rfl rfl ?_
      refine pw_rd (q := 21) (cr_v (j := iX2_lacking) C dX2_costOfLacking_18 lX2_115 mX2_lacking (ro_mk (by decide) (by decide)) hG.1 rfl (k_lacking hL hI (by first | assumption | omega)) rfl rfl (Nat.le_of_ble_eq_true rfl) ⟨by omega, by omega⟩) rfl ?_
      refine pw_aload_n (q := 22) (j := 0) C dX2_costOfLacking_21 rfl rfl rfl ?_
      refine pw_getf (q := 25) C dX2_costOfLacking_22 fX2_14 hG.1 (by rfl) rfl ?_
      refine pw_iload_n (q := 26) (j := 2) C dX2_costOfLacking_25 rfl rfl rfl ?_
      refine pw_iconst_n (q := 27) C 1 dX2_costOfLacking_26 (by decide +kernel) rfl ?_
      refine pw_rd (q := 30) (cr_v (j := iX8_get) C dX2_costOfLacking_27 lX2_58 mX8_get (ro_mk (by decide) (by decide)) hG.2.1.1 rfl (g_c hG hr (by first | assumption | omega) (by omega)) rfl rfl (Nat.le_of_ble_eq_true rfl) ⟨by omega, by omega⟩) rfl ?_
      refine pw_imul_n (q := 31) C dX2_costOfLacking_30 rfl ?_
      refine pw_iadd_n (q := 32) C dX2_costOfLacking_31 rfl ?_
      refine pw_istore_n (q := 33) (j := 1) C dX2_costOfLacking_32 rfl rfl (by decide) rfl ?_
      refine pw_iinc_n (q := 36) C 1 dX2_costOfLacking_33 rfl (by decide +kernel) rfl (by decide) rfl ?_
      refine pw_goto (q := 0) 4 C dX2_costOfLacking_36 (by decide) ?_
      exact ih (c + 1) (by omega)
  refine pw_iconst_n (q := 1) C 0 dX2_costOfLacking_0 (by decide +kernel) rfl ?_
  refine pw_istore_n (q := 2) (j := 1) C dX2_costOfLacking_1 rfl rfl (by decide) rfl ?_
  refine pw_iconst_n (q := 3) C 0 dX2_costOfLacking_2 (by decide +kernel) rfl ?_
  refine pw_istore_n (q := 4) (j := 2) C dX2_costOfLacking_3 rfl rfl (by decide) rfl ?_
  exact loop (P 5) 0 (by omega)
set_option maxHeartbeats 200000 in
set_option maxRecDepth 100000 in
theorem k_settable {M : PH} {a : Nat} {P : Nat → Nat} (hL : LodgeAt M a P) (hI : Inv P)  : Run iX2_settable [.ref a] M 0 0 (RV (.int (nI (canSetN P))) (fun M1 => M1 = M)) := by
  obtain ⟨fc, fm, fs, hG, hr⟩ := id hL
  have hb := hI.b
  refine Run.of (l0 := [some (.ref a), none, none, none, none]) (by decide +kernel) (Nat.le_of_ble_eq_true rfl) (by rfl) (fun Γ G C => ?_)
  have loop : ∀ (d c : Nat) (x3 x4 : Option Value), c + d = P 5 → P 2 = 0 → (∀ j, j < c → ¬ cntC P j 1 < openC P j) → PW Γ G (ZJ Γ G 0 0 (RV (.int (nI (canSetN P))) (fun M1 => M1 = M))) 13 [some (.ref a), some (.int (nI (sumN (fun c => min (openC P c) (cntC P c 1)) c))), some (.int (nI c)), x3, x4] [] M 0 0 := by
    intro d
    induction d with
    | zero =>
      intro c x3 x4 hd
      intro hfr hno
      refine pw_iload_n (q := 14) (j := 2) C dX2_settable_13 rfl rfl rfl ?_
      refine pw_aload_n (q := 15) (j := 0) C dX2_settable_14 rfl rfl rfl ?_
      refine pw_getf (q := 18) C dX2_settable_15 fX2_14 hG.1 (by rfl) rfl ?_
      refine pw_rd (q := 21) (cr_v (j := iX8_size) C dX2_settable_18 lX2_50 mX8_size (ro_mk (by decide) (by decide)) hG.2.1.1 rfl (k_size hG.2.1) rfl rfl (Nat.le_of_ble_eq_true rfl) ⟨by omega, by omega⟩) rfl ?_
      refine pw_icmp_ge_n (q := 24) 82 C dX2_settable_21 (by decide) rfl (by omega) (by omega) (fun g21 => ?_) (fun g21 => absurd g21 (by omega))
      refine pw_iload_n (q := 83) (j := 1) C dX2_settable_82 rfl rfl rfl ?_
      exact pw_iret C dX2_settable_83 rfl ⟨by omega, by omega⟩ (RV.mk (vnI (by unfold canSetN; rw [if_neg (not_not_intro hfr), fst_none (fun j hj => hno j (by omega)), show min (P 5 + 1) (P 5) = c by omega])) rfl)
    | succ d ih =>
      intro c x3 x4 hd
      intro hfr hno
      have q4 := hI.c (show c < P 5 by omega)
      have q5 := (hI.w c (by omega)).1
      have q6 := cntC_le hI c 1
      have q7 := cntC_le hI c 3
      refine pw_iload_n (q := 14) (j := 2) C dX2_settable_13 rfl rfl rfl ?_
      refine pw_aload_n (q := 15) (j := 0) C dX2_settable_14 rfl rfl rfl ?_
      refine pw_getf (q := 18) C dX2_settable_15 fX2_14 hG.1 (by rfl) rfl ?_
      refine pw_rd (q := 21) (cr_v (j := iX8_size) C dX2_settable_18 lX2_50 mX8_size (ro_mk (by decide) (by decide)) hG.2.1.1 rfl (k_size hG.2.1) rfl rfl (Nat.le_of_ble_eq_true rfl) ⟨by omega, by omega⟩) rfl ?_
      refine pw_icmp_ge_n (q := 24) 82 C dX2_settable_21 (by decide) rfl (by omega) (by omega) (fun g21 => absurd g21 (by omega)) (fun g21 => ?_)
      refine pw_aload_n (q := 25) (j := 0) C dX2_settable_24 rfl rfl rfl ?_
      refine pw_getf (q := 28) C dX2_settable_25 fX2_14 hG.1 (by rfl) rfl ?_
      refine pw_iload_n (q := 29) (j := 2) C dX2_settable_28 rfl rfl rfl ?_
      refine pw_iconst_n (q := 30) C 2 dX2_settable_29 (by decide +kernel) rfl ?_
      refine pw_rd (q := 33) (cr_v (j := iX8_get) C dX2_settable_30 lX2_58 mX8_get (ro_mk (by decide) (by decide)) hG.2.1.1 rfl (g_c hG hr (by first | assumption | omega) (by omega)) rfl rfl (Nat.le_of_ble_eq_true rfl) ⟨by omega, by omega⟩) rfl ?_
      refine pw_aload_n (q := 34) (j := 0) C dX2_settable_33 rfl rfl rfl ?_
      refine pw_getf (q := 37) C dX2_settable_34 fX2_23 hG.1 (by rfl) rfl ?_
      refine pw_iconst_n (q := 38) C 0 dX2_settable_37 (by decide +kernel) rfl ?_
      refine pw_iload_n (q := 39) (j := 2) C dX2_settable_38 rfl rfl rfl ?_
      refine pw_iconst_n (q := 40) C 3 dX2_settable_39 (by decide +kernel) rfl ?_
      refine pw_iconst_n (q := 41) C 3 dX2_settable_40 (by decide +kernel) rfl ?_
      refine pw_rd (q := 44) (cr_v (j := iX8_countBoth) C dX2_settable_41 lX2_54 mX8_countBoth (ro_mk (by decide) (by decide)) hG.2.2.2.1 rfl (g_cC hG hr hI (by omega) (by omega)) rfl rfl (Nat.le_of_ble_eq_true rfl) ⟨by omega, by omega⟩) rfl ?_
      refine pw_isub_n (q := 45) C dX2_settable_44 q5 rfl ?_
      refine pw_istore_n (q := 46) (j := 3) C dX2_settable_45 rfl rfl (by decide) rfl ?_
      refine pw_aload_n (q := 47) (j := 0) C dX2_settable_46 rfl rfl rfl ?_
      refine pw_getf (q := 50) C dX2_settable_47 fX2_23 hG.1 (by rfl) rfl ?_
      refine pw_iconst_n (q := 51) C 0 dX2_settable_50 (by decide +kernel) rfl ?_
      refine pw_iload_n (q := 52) (j := 2) C dX2_settable_51 rfl rfl rfl ?_
      refine pw_iconst_n (q := 53) C 3 dX2_settable_52 (by decide +kernel) rfl ?_
      refine pw_iconst_n (q := 54) C 1 dX2_settable_53 (by decide +kernel) rfl ?_
      refine pw_rd (q := 57) (cr_v (j := iX8_countBoth) C dX2_settable_54 lX2_54 mX8_countBoth (ro_mk (by decide) (by decide)) hG.2.2.2.1 rfl (g_cC hG hr hI (by omega) (by omega)) rfl rfl (Nat.le_of_ble_eq_true rfl) ⟨by omega, by omega⟩) rfl ?_
      refine pw_istore (q := 59) C dX2_settable_57 rfl (by decide) rfl ?_
      refine pw_iload_n (q := 60) (j := 1) C dX2_settable_59 rfl rfl rfl ?_
      refine pw_iload_n (q := 61) (j := 3) C dX2_settable_60 rfl rfl rfl ?_
      refine pw_iload (q := 63) C dX2_settable_61 rfl rfl ?_
      refine pw_min_n (q := 66) C dX2_settable_63 lX2_118 mMmin.1 mMmin.2.1 mMmin.2.2 ⟨by decide, Nat.le_of_ble_eq_true rfl⟩ ⟨by omega, by omega⟩ (by omega) (by omega) rfl ?_
      refine pw_iadd_n (q := 67) C dX2_settable_66 rfl ?_
      refine pw_istore_n (q := 68) (j := 1) C dX2_settable_67 rfl rfl (by decide) rfl ?_
      refine pw_iload (q := 70) C dX2_settable_68 rfl rfl ?_
      refine pw_iload_n (q := 71) (j := 3) C dX2_settable_70 rfl rfl rfl ?_
      refine pw_icmp_ge_n (q := 74) 76 C dX2_settable_71 (by decide) rfl (by omega) (by omega) (fun g71 => ?_) (fun g71 => ?_)
      · refine pw_iinc_n (q := 79) C 1 dX2_settable_76 rfl (by decide +kernel) rfl (by decide) rfl ?_
        refine pw_goto (q := 0) 13 C dX2_settable_79 (by decide) ?_
        exact ih (c + 1) _ _ (by omega) hfr (fun j hj => by
          by_cases h9 : j = c
          · subst h9; unfold openC; omega
          · exact hno j (by omega))
      · refine pw_iload_n (q := 75) (j := 1) C dX2_settable_74 rfl rfl rfl ?_
        exact pw_iret C dX2_settable_75 rfl ⟨by omega, by omega⟩ (RV.mk (vnI (by unfold canSetN; rw [if_neg (not_not_intro hfr), fst_eq (k := c) (by omega) (by unfold openC; omega) hno, show min (c + 1) (P 5) = c + 1 by omega]; rfl)) rfl)
  refine pw_aload_n (q := 1) (j := 0) C dX2_settable_0 rfl rfl rfl ?_
  refine pw_getf (q := 4) C dX2_settable_1 fX2_36 hG.1 (by rfl) rfl ?_
  refine pw_if_eq_n (q := 7) 9 C dX2_settable_4 (by decide) rfl (by omega) (fun g4 => ?_) (fun g4 => ?_)
  · refine pw_iconst_n (q := 10) C 0 dX2_settable_9 (by decide +kernel) rfl ?_
    refine pw_istore_n (q := 11) (j := 1) C dX2_settable_10 rfl rfl (by decide) rfl ?_
    refine pw_iconst_n (q := 12) C 0 dX2_settable_11 (by decide +kernel) rfl ?_
    refine pw_istore_n (q := 13) (j := 2) C dX2_settable_12 rfl rfl (by decide) rfl ?_
    exact loop (P 5) 0 _ _ (by omega) g4 (fun j hj => absurd hj (Nat.not_lt_zero j))
  · refine pw_iconst_n (q := 8) C 0 dX2_settable_7 (by decide +kernel) rfl ?_
    exact pw_iret C dX2_settable_8 rfl ⟨by omega, by omega⟩ (RV.mk (vnI (by unfold canSetN; rw [if_pos g4])) rfl)
set_option maxHeartbeats 200000 in
set_option maxRecDepth 100000 in
theorem k_earnings {M : PH} {a : Nat} {P : Nat → Nat} (hL : LodgeAt M a P) (hI : Inv P) {b : Nat} (hbd : b < 2147483648) : Run iX2_earnings [.ref a, .int (nI b)] M 0 0 (RV (.int (nI (earn P b))) (fun M1 => M1 = M)) := by
  obtain ⟨fc, fm, fs, hG, hr⟩ := id hL
  have hb := hI.b
  refine Run.of (l0 := [some (.ref a), some (.int (nI b)), none, none]) (by decide +kernel) (Nat.le_of_ble_eq_true rfl) (by rfl) (fun Γ G C => ?_)
  have loop : ∀ (d s : Nat), s + d = P 7 → PW Γ G (ZJ Γ G 0 0 (RV (.int (nI (earn P b))) (fun M1 => M1 = M))) 4 [some (.ref a), some (.int (nI b)), some (.int (nI (sumN (earnF P b) s))), some (.int (nI s))] [] M 0 0 := by
    intro d
    induction d with
    | zero =>
      intro s hd
      refine pw_iload_n (q := 5) (j := 3) C dX2_earnings_4 rfl rfl rfl ?_
      refine pw_aload_n (q := 6) (j := 0) C dX2_earnings_5 rfl rfl rfl ?_
      refine pw_getf (q := 9) C dX2_earnings_6 fX2_23 hG.1 (by rfl) rfl ?_
      refine pw_rd (q := 12) (cr_v (j := iX8_size) C dX2_earnings_9 lX2_50 mX8_size (ro_mk (by decide) (by decide)) hG.2.2.2.1 rfl (k_size hG.2.2.2) rfl rfl (Nat.le_of_ble_eq_true rfl) ⟨by omega, by omega⟩) rfl ?_
      refine pw_icmp_ge_n (q := 15) 54 C dX2_earnings_12 (by decide) rfl (by omega) (by omega) (fun g12 => ?_) (fun g12 => absurd g12 (by omega))
      refine pw_iload_n (q := 55) (j := 2) C dX2_earnings_54 rfl rfl rfl ?_
      exact pw_iret C dX2_earnings_55 rfl ⟨by omega, by omega⟩ (RV.mk (vnI (by rw [show s = P 7 by omega]; rfl)) rfl)
    | succ d ih =>
      intro s hd
      have q4 := hI.s (show s < P 7 by omega)
      refine pw_iload_n (q := 5) (j := 3) C dX2_earnings_4 rfl rfl rfl ?_
      refine pw_aload_n (q := 6) (j := 0) C dX2_earnings_5 rfl rfl rfl ?_
      refine pw_getf (q := 9) C dX2_earnings_6 fX2_23 hG.1 (by rfl) rfl ?_
      refine pw_rd (q := 12) (cr_v (j := iX8_size) C dX2_earnings_9 lX2_50 mX8_size (ro_mk (by decide) (by decide)) hG.2.2.2.1 rfl (k_size hG.2.2.2) rfl rfl (Nat.le_of_ble_eq_true rfl) ⟨by omega, by omega⟩) rfl ?_
      refine pw_icmp_ge_n (q := 15) 54 C dX2_earnings_12 (by decide) rfl (by omega) (by omega) (fun g12 => absurd g12 (by omega)) (fun g12 => ?_)
      refine pw_aload_n (q := 16) (j := 0) C dX2_earnings_15 rfl rfl rfl ?_
      refine pw_getf (q := 19) C dX2_earnings_16 fX2_23 hG.1 (by rfl) rfl ?_
      refine pw_iload_n (q := 20) (j := 3) C dX2_earnings_19 rfl rfl rfl ?_
      refine pw_iconst_n (q := 21) C 3 dX2_earnings_20 (by decide +kernel) rfl ?_
      refine pw_rd (q := 24) (cr_v (j := iX8_get) C dX2_earnings_21 lX2_58 mX8_get (ro_mk (by decide) (by decide)) hG.2.2.2.1 rfl (g_s hG hr (by first | assumption | omega) (by omega)) rfl rfl (Nat.le_of_ble_eq_true rfl) ⟨by omega, by omega⟩) rfl ?_
      refine pw_if_ne_n (q := 27) 48 C dX2_earnings_24 (by decide) rfl (by omega) (fun g24 => ?_) (fun g24 => ?_)
      · refine pw_iinc_n (q := 51) C 1 dX2_earnings_48 rfl (by decide +kernel) rfl (by decide) rfl ?_
        refine pw_goto (q := 0) 4 C dX2_earnings_51 (by decide) ?_
        have e9 := ih (s + 1) (by omega)
        rw [sumN, show earnF P b s = 0 from if_neg (fun q => g24 q.1), Nat.add_zero] at e9
        exact e9
      · refine pw_aload_n (q := 28) (j := 0) C dX2_earnings_27 rfl rfl rfl ?_
        refine pw_getf (q := 31) C dX2_earnings_28 fX2_23 hG.1 (by rfl) rfl ?_
        refine pw_iload_n (q := 32) (j := 3) C dX2_earnings_31 rfl rfl rfl ?_
        refine pw_iconst_n (q := 33) C 2 dX2_earnings_32 (by decide +kernel) rfl ?_
        refine pw_rd (q := 36) (cr_v (j := iX8_get) C dX2_earnings_33 lX2_58 mX8_get (ro_mk (by decide) (by decide)) hG.2.2.2.1 rfl (g_s hG hr (by first | assumption | omega) (by omega)) rfl rfl (Nat.le_of_ble_eq_true rfl) ⟨by omega, by omega⟩) rfl ?_
        refine pw_iload_n (q := 37) (j := 1) C dX2_earnings_36 rfl rfl rfl ?_
        refine pw_icmp_gt_n (q := 40) 48 C dX2_earnings_37 (by decide) rfl (by omega) (by omega) (fun g37 => ?_) (fun g37 => ?_)
        · refine pw_iinc_n (q := 51) C 1 dX2_earnings_48 rfl (by decide +kernel) rfl (by decide) rfl ?_
          refine pw_goto (q := 0) 4 C dX2_earnings_51 (by decide) ?_
          have e9 := ih (s + 1) (by omega)
          rw [sumN, show earnF P b s = 0 from if_neg (fun q => absurd q.2 (by omega)), Nat.add_zero] at e9
          exact e9
        · refine pw_iload_n (q := 41) (j := 2) C dX2_earnings_40 rfl rfl rfl ?_
          refine pw_aload_n (q := 42) (j := 0) C dX2_earnings_41 rfl rfl rfl ?_
          refine pw_iload_n (q := 43) (j := 3) C dX2_earnings_42 rfl rfl rfl ?_
          refine pw_rd (q := 46) (cr_v (j := iX2_priceOf) C dX2_earnings_43 lX2_96 mX2_priceOf (ro_mk (by decide) (by decide)) hG.1 rfl (k_priceOf hL hI (by first | assumption | omega)) rfl rfl (Nat.le_of_ble_eq_true rfl) ⟨by omega, by omega⟩) rfl ?_
          refine pw_iadd_n (q := 47) C dX2_earnings_46 rfl ?_
          refine pw_istore_n (q := 48) (j := 2) C dX2_earnings_47 rfl rfl (by decide) rfl ?_
          refine pw_iinc_n (q := 51) C 1 dX2_earnings_48 rfl (by decide +kernel) rfl (by decide) rfl ?_
          refine pw_goto (q := 0) 4 C dX2_earnings_51 (by decide) ?_
          have e9 := ih (s + 1) (by omega)
          rw [sumN, show earnF P b s = price P s from if_pos ⟨g24, by omega⟩] at e9
          exact e9
  refine pw_iconst_n (q := 1) C 0 dX2_earnings_0 (by decide +kernel) rfl ?_
  refine pw_istore_n (q := 2) (j := 2) C dX2_earnings_1 rfl rfl (by decide) rfl ?_
  refine pw_iconst_n (q := 3) C 0 dX2_earnings_2 (by decide +kernel) rfl ?_
  refine pw_istore_n (q := 4) (j := 3) C dX2_earnings_3 rfl rfl (by decide) rfl ?_
  exact loop (P 7) 0 (by omega)
