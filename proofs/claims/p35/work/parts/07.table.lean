/-! Table: rows of numbers. -/
def TabAt (M : PH) (t ar w lim R : Nat) (f : Nat → Int32) : Prop := M.2 t = some (.inr (5, [.ref ar, .int (nI w), .int (nI lim), .int (nI R)])) ∧ M.2 ar = some (.inl (0, w * lim, .inl f)) ∧ R ≤ lim ∧ w * lim < 1000 ∧ w < 1000 ∧ lim < 1000
theorem tab_idx {r c w lim : Nat} (hr : r < lim) (hc : c < w) : r * w + c < w * lim := by
  have h1 : (r + 1) * w ≤ lim * w := Nat.mul_le_mul_right w hr
  rw [Nat.succ_mul] at h1
  rw [Nat.mul_comm w lim]
  omega
def badR (r : Int32) (R : Nat) : Prop := r < 0 ∨ nI R ≤ r
set_option maxHeartbeats 200000 in
set_option maxRecDepth 100000 in
theorem k_size {M : PH} {t ar w lim R : Nat} {f : Nat → Int32} (hT : TabAt M t ar w lim R f) : Run iX8_size [.ref t] M 0 0 (RV (.int (nI R)) (fun M1 => M1 = M)) := by
  obtain ⟨h0, h1, hR, hs, hw, hlim⟩ := id hT
  refine Run.of (l0 := [some (.ref t)]) (by decide +kernel) (Nat.le_of_ble_eq_true rfl) (by rfl) (fun Γ G C => ?_)
  refine pw_aload_n (q := 1) (j := 0) C dX8_size_0 rfl rfl rfl ?_
  refine pw_getf (q := 4) C dX8_size_1 fX8_22 h0 (by rfl) rfl ?_
  exact pw_iret C dX8_size_4 rfl ⟨by omega, by omega⟩ (RV.mk (by rfl) rfl)
set_option maxHeartbeats 200000 in
set_option maxRecDepth 100000 in
theorem k_has_in {M : PH} {t ar w lim R : Nat} {f : Nat → Int32} (hT : TabAt M t ar w lim R f) {r : Nat} (hr : r < R) : Run iX8_has [.ref t, .int (nI r)] M 0 0 (RV (.int (nI 1)) (fun M1 => M1 = M)) := by
  obtain ⟨h0, h1, hR, hs, hw, hlim⟩ := id hT
  refine Run.of (l0 := [some (.ref t), some (.int (nI r))]) (by decide +kernel) (Nat.le_of_ble_eq_true rfl) (by rfl) (fun Γ G C => ?_)
  refine pw_iload_n (q := 1) (j := 1) C dX8_has_0 rfl rfl rfl ?_
  refine pw_if_lt (q := 4) 16 C dX8_has_1 (by decide) rfl (fun g1 => absurd g1 (nI_pos (by omega))) (fun g1 => ?_)
  refine pw_iload_n (q := 5) (j := 1) C dX8_has_4 rfl rfl rfl ?_
  refine pw_aload_n (q := 6) (j := 0) C dX8_has_5 rfl rfl rfl ?_
  refine pw_getf (q := 9) C dX8_has_6 fX8_22 h0 (by rfl) rfl ?_
  refine pw_icmp_ge_n (q := 12) 16 C dX8_has_9 (by decide) rfl (by omega) (by omega) (fun g9 => absurd g9 (by omega)) (fun g9 => ?_)
  refine pw_iconst_n (q := 13) C 1 dX8_has_12 (by decide +kernel) rfl ?_
  refine pw_goto (q := 0) 17 C dX8_has_13 (by decide) ?_
  exact pw_zret C dX8_has_17 rfl (by first | decide +kernel | exact nar_bN _ | exact nar_01 (by omega)) ⟨by omega, by omega⟩ (RV.mk (by rfl) rfl)
set_option maxHeartbeats 200000 in
set_option maxRecDepth 100000 in
theorem k_has_bad {M : PH} {t ar w lim R : Nat} {f : Nat → Int32} (hT : TabAt M t ar w lim R f) {r : Int32} (hr : badR r R) : Run iX8_has [.ref t, .int r] M 0 0 (RV (.int (nI 0)) (fun M1 => M1 = M)) := by
  obtain ⟨h0, h1, hR, hs, hw, hlim⟩ := id hT
  refine Run.of (l0 := [some (.ref t), some (.int r)]) (by decide +kernel) (Nat.le_of_ble_eq_true rfl) (by rfl) (fun Γ G C => ?_)
  refine pw_iload_n (q := 1) (j := 1) C dX8_has_0 rfl rfl rfl ?_
  refine pw_if_lt (q := 4) 16 C dX8_has_1 (by decide) rfl (fun g1 => ?_) (fun g1 => ?_)
  · refine pw_iconst_n (q := 17) C 0 dX8_has_16 (by decide +kernel) rfl ?_
    exact pw_zret C dX8_has_17 rfl (by first | decide +kernel | exact nar_bN _ | exact nar_01 (by omega)) ⟨by omega, by omega⟩ (RV.mk (by rfl) rfl)
  · refine pw_iload_n (q := 5) (j := 1) C dX8_has_4 rfl rfl rfl ?_
    refine pw_aload_n (q := 6) (j := 0) C dX8_has_5 rfl rfl rfl ?_
    refine pw_getf (q := 9) C dX8_has_6 fX8_22 h0 (by rfl) rfl ?_
    refine pw_icmp_ge (q := 12) 16 C dX8_has_9 (by decide) rfl (fun g9 => ?_) (fun g9 => absurd g9 (not_not_intro (hr.resolve_left g1)))
    refine pw_iconst_n (q := 17) C 0 dX8_has_16 (by decide +kernel) rfl ?_
    exact pw_zret C dX8_has_17 rfl (by first | decide +kernel | exact nar_bN _ | exact nar_01 (by omega)) ⟨by omega, by omega⟩ (RV.mk (by rfl) rfl)
set_option maxHeartbeats 200000 in
set_option maxRecDepth 100000 in
theorem k_hasRoom {M : PH} {t ar w lim R : Nat} {f : Nat → Int32} (hT : TabAt M t ar w lim R f) : Run iX8_hasRoom [.ref t] M 0 0 (RV (.int (nI (bN (R < lim)))) (fun M1 => M1 = M)) := by
  obtain ⟨h0, h1, hR, hs, hw, hlim⟩ := id hT
  refine Run.of (l0 := [some (.ref t)]) (by decide +kernel) (Nat.le_of_ble_eq_true rfl) (by rfl) (fun Γ G C => ?_)
  refine pw_aload_n (q := 1) (j := 0) C dX8_hasRoom_0 rfl rfl rfl ?_
  refine pw_getf (q := 4) C dX8_hasRoom_1 fX8_22 h0 (by rfl) rfl ?_
  refine pw_aload_n (q := 5) (j := 0) C dX8_hasRoom_4 rfl rfl rfl ?_
  refine pw_getf (q := 8) C dX8_hasRoom_5 fX8_19 h0 (by rfl) rfl ?_
  refine pw_icmp_ge_n (q := 11) 15 C dX8_hasRoom_8 (by decide) rfl (by omega) (by omega) (fun g8 => ?_) (fun g8 => ?_)
  · refine pw_iconst_n (q := 16) C 0 dX8_hasRoom_15 (by decide +kernel) rfl ?_
    exact pw_zret C dX8_hasRoom_16 rfl (by first | decide +kernel | exact nar_bN _ | exact nar_01 (by omega)) ⟨by omega, by omega⟩ (RV.mk (v0 (by omega)) rfl)
  · refine pw_iconst_n (q := 12) C 1 dX8_hasRoom_11 (by decide +kernel) rfl ?_
    refine pw_goto (q := 0) 16 C dX8_hasRoom_12 (by decide) ?_
    exact pw_zret C dX8_hasRoom_16 rfl (by first | decide +kernel | exact nar_bN _ | exact nar_01 (by omega)) ⟨by omega, by omega⟩ (RV.mk (v1 (by omega)) rfl)
set_option maxHeartbeats 200000 in
set_option maxRecDepth 100000 in
theorem k_removeAll {M : PH} {t ar w lim R : Nat} {f : Nat → Int32} (hT : TabAt M t ar w lim R f) : Run iX8_removeAll [.ref t] M 0 0 (RN (fun M1 => M1 = hput M t (.inr (5, [.ref ar, .int (nI w), .int (nI lim), .int (nI 0)])))) := by
  obtain ⟨h0, h1, hR, hs, hw, hlim⟩ := id hT
  refine Run.of (l0 := [some (.ref t)]) (by decide +kernel) (Nat.le_of_ble_eq_true rfl) (by rfl) (fun Γ G C => ?_)
  refine pw_aload_n (q := 1) (j := 0) C dX8_removeAll_0 rfl rfl rfl ?_
  refine pw_iconst_n (q := 2) C 0 dX8_removeAll_1 (by decide +kernel) rfl ?_
  refine pw_put (q := 5) C dX8_removeAll_2 fX8_22 h0 (by rfl) (by rfl) (Nat.le_of_ble_eq_true rfl) rfl ?_
  exact pw_vret C dX8_removeAll_5 rfl ⟨by omega, by omega⟩ (RN.mk rfl)
set_option maxHeartbeats 200000 in
set_option maxRecDepth 100000 in
theorem k_get_in {M : PH} {t ar w lim R : Nat} {f : Nat → Int32} (hT : TabAt M t ar w lim R f) {r c : Nat} (hr : r < R) (hc : c < w) : Run iX8_get [.ref t, .int (nI r), .int (nI c)] M 0 0 (RV (.int (f (r * w + c))) (fun M1 => M1 = M)) := by
  obtain ⟨h0, h1, hR, hs, hw, hlim⟩ := id hT
  have hidx : r * w + c < w * lim := tab_idx (by omega) hc
  refine Run.of (l0 := [some (.ref t), some (.int (nI r)), some (.int (nI c)), none]) (by decide +kernel) (Nat.le_of_ble_eq_true rfl) (by rfl) (fun Γ G C => ?_)
  refine pw_iload_n (q := 1) (j := 1) C dX8_get_0 rfl rfl rfl ?_
  refine pw_if_lt (q := 4) 24 C dX8_get_1 (by decide) rfl (fun g1 => absurd g1 (nI_pos (by omega))) (fun g1 => ?_)
  refine pw_iload_n (q := 5) (j := 1) C dX8_get_4 rfl rfl rfl ?_
  refine pw_aload_n (q := 6) (j := 0) C dX8_get_5 rfl rfl rfl ?_
  refine pw_getf (q := 9) C dX8_get_6 fX8_22 h0 (by rfl) rfl ?_
  refine pw_icmp_ge_n (q := 12) 24 C dX8_get_9 (by decide) rfl (by omega) (by omega) (fun g9 => absurd g9 (by omega)) (fun g9 => ?_)
  refine pw_iload_n (q := 13) (j := 2) C dX8_get_12 rfl rfl rfl ?_
  refine pw_if_lt (q := 16) 24 C dX8_get_13 (by decide) rfl (fun g13 => absurd g13 (nI_pos (by omega))) (fun g13 => ?_)
  refine pw_iload_n (q := 17) (j := 2) C dX8_get_16 rfl rfl rfl ?_
  refine pw_aload_n (q := 18) (j := 0) C dX8_get_17 rfl rfl rfl ?_
  refine pw_getf (q := 21) C dX8_get_18 fX8_15 h0 (by rfl) rfl ?_
  refine pw_icmp_lt_n (q := 24) 26 C dX8_get_21 (by decide) rfl (by omega) (by omega) (fun g21 => ?_) (fun g21 => absurd g21 (by omega))
  refine pw_iload_n (q := 27) (j := 1) C dX8_get_26 rfl rfl rfl ?_
  refine pw_aload_n (q := 28) (j := 0) C dX8_get_27 rfl rfl rfl ?_
  refine pw_getf (q := 31) C dX8_get_28 fX8_15 h0 (by rfl) rfl ?_
  refine pw_imul_n (q := 32) C dX8_get_31 rfl ?_
  refine pw_iload_n (q := 33) (j := 2) C dX8_get_32 rfl rfl rfl ?_
  refine pw_iadd_n (q := 34) C dX8_get_33 rfl ?_
  refine pw_istore_n (q := 35) (j := 3) C dX8_get_34 rfl rfl (by decide) rfl ?_
  refine pw_iload_n (q := 36) (j := 3) C dX8_get_35 rfl rfl rfl ?_
  refine pw_if_lt (q := 39) 57 C dX8_get_36 (by decide) rfl (fun g36 => absurd g36 (nI_pos (by omega))) (fun g36 => ?_)
  refine pw_iload_n (q := 40) (j := 3) C dX8_get_39 rfl rfl rfl ?_
  refine pw_aload_n (q := 41) (j := 0) C dX8_get_40 rfl rfl rfl ?_
  refine pw_getf (q := 44) C dX8_get_41 fX8_9 h0 (by rfl) rfl ?_
  refine pw_alen_n (q := 45) C dX8_get_44 h1 (by rfl) rfl ?_
  refine pw_icmp_ge_n (q := 48) 57 C dX8_get_45 (by decide) rfl (by omega) (by omega) (fun g45 => absurd g45 (by omega)) (fun g45 => ?_)
  refine pw_aload_n (q := 49) (j := 0) C dX8_get_48 rfl rfl rfl ?_
  refine pw_getf (q := 52) C dX8_get_49 fX8_9 h0 (by rfl) rfl ?_
  refine pw_iload_n (q := 53) (j := 3) C dX8_get_52 rfl rfl rfl ?_
  refine pw_iald_n (q := 54) C dX8_get_53 h1 (by omega) (by omega) rfl ?_
  refine pw_goto (q := 0) 58 C dX8_get_54 (by decide) ?_
  exact pw_iret C dX8_get_58 rfl ⟨by omega, by omega⟩ (RV.mk (by rfl) rfl)
set_option maxHeartbeats 200000 in
set_option maxRecDepth 100000 in
theorem k_get_bad {M : PH} {t ar w lim R : Nat} {f : Nat → Int32} (hT : TabAt M t ar w lim R f) {r c : Int32} (hr : badR r R) : Run iX8_get [.ref t, .int r, .int c] M 0 0 (RV (.int (nI 0)) (fun M1 => M1 = M)) := by
  obtain ⟨h0, h1, hR, hs, hw, hlim⟩ := id hT
  refine Run.of (l0 := [some (.ref t), some (.int r), some (.int c), none]) (by decide +kernel) (Nat.le_of_ble_eq_true rfl) (by rfl) (fun Γ G C => ?_)
  refine pw_iload_n (q := 1) (j := 1) C dX8_get_0 rfl rfl rfl ?_
  refine pw_if_lt (q := 4) 24 C dX8_get_1 (by decide) rfl (fun g1 => ?_) (fun g1 => ?_)
  · refine pw_iconst_n (q := 25) C 0 dX8_get_24 (by decide +kernel) rfl ?_
    exact pw_iret C dX8_get_25 rfl ⟨by omega, by omega⟩ (RV.mk (by rfl) rfl)
  · refine pw_iload_n (q := 5) (j := 1) C dX8_get_4 rfl rfl rfl ?_
    refine pw_aload_n (q := 6) (j := 0) C dX8_get_5 rfl rfl rfl ?_
    refine pw_getf (q := 9) C dX8_get_6 fX8_22 h0 (by rfl) rfl ?_
    refine pw_icmp_ge (q := 12) 24 C dX8_get_9 (by decide) rfl (fun g9 => ?_) (fun g9 => absurd g9 (not_not_intro (hr.resolve_left g1)))
    refine pw_iconst_n (q := 25) C 0 dX8_get_24 (by decide +kernel) rfl ?_
    exact pw_iret C dX8_get_25 rfl ⟨by omega, by omega⟩ (RV.mk (by rfl) rfl)
set_option maxHeartbeats 200000 in
set_option maxRecDepth 100000 in
theorem k_put_in {M : PH} {t ar w lim R : Nat} {f : Nat → Int32} (hT : TabAt M t ar w lim R f) {r c : Nat} (hr : r < R) (hc : c < w) (v : Int32) : Run iX8_put [.ref t, .int (nI r), .int (nI c), .int v] M 0 0 (RN (fun M1 => M1 = hput M ar (.inl (0, w * lim, .inl (upd f (r * w + c) v))))) := by
  obtain ⟨h0, h1, hR, hs, hw, hlim⟩ := id hT
  have hidx : r * w + c < w * lim := tab_idx (by omega) hc
  refine Run.of (l0 := [some (.ref t), some (.int (nI r)), some (.int (nI c)), some (.int v), none]) (by decide +kernel) (Nat.le_of_ble_eq_true rfl) (by rfl) (fun Γ G C => ?_)
  refine pw_iload_n (q := 1) (j := 1) C dX8_put_0 rfl rfl rfl ?_
  refine pw_if_lt (q := 4) 24 C dX8_put_1 (by decide) rfl (fun g1 => absurd g1 (nI_pos (by omega))) (fun g1 => ?_)
  refine pw_iload_n (q := 5) (j := 1) C dX8_put_4 rfl rfl rfl ?_
  refine pw_aload_n (q := 6) (j := 0) C dX8_put_5 rfl rfl rfl ?_
  refine pw_getf (q := 9) C dX8_put_6 fX8_22 h0 (by rfl) rfl ?_
  refine pw_icmp_ge_n (q := 12) 24 C dX8_put_9 (by decide) rfl (by omega) (by omega) (fun g9 => absurd g9 (by omega)) (fun g9 => ?_)
  refine pw_iload_n (q := 13) (j := 2) C dX8_put_12 rfl rfl rfl ?_
  refine pw_if_lt (q := 16) 24 C dX8_put_13 (by decide) rfl (fun g13 => absurd g13 (nI_pos (by omega))) (fun g13 => ?_)
  refine pw_iload_n (q := 17) (j := 2) C dX8_put_16 rfl rfl rfl ?_
  refine pw_aload_n (q := 18) (j := 0) C dX8_put_17 rfl rfl rfl ?_
  refine pw_getf (q := 21) C dX8_put_18 fX8_15 h0 (by rfl) rfl ?_
  refine pw_icmp_lt_n (q := 24) 25 C dX8_put_21 (by decide) rfl (by omega) (by omega) (fun g21 => ?_) (fun g21 => absurd g21 (by omega))
  refine pw_iload_n (q := 26) (j := 1) C dX8_put_25 rfl rfl rfl ?_
  refine pw_aload_n (q := 27) (j := 0) C dX8_put_26 rfl rfl rfl ?_
  refine pw_getf (q := 30) C dX8_put_27 fX8_15 h0 (by rfl) rfl ?_
  refine pw_imul_n (q := 31) C dX8_put_30 rfl ?_
  refine pw_iload_n (q := 32) (j := 2) C dX8_put_31 rfl rfl rfl ?_
  refine pw_iadd_n (q := 33) C dX8_put_32 rfl ?_
  refine pw_istore (q := 35) C dX8_put_33 rfl (by decide) rfl ?_
  refine pw_iload (q := 37) C dX8_put_35 rfl rfl ?_
  refine pw_if_lt (q := 40) 58 C dX8_put_37 (by decide) rfl (fun g37 => absurd g37 (nI_pos (by omega))) (fun g37 => ?_)
  refine pw_iload (q := 42) C dX8_put_40 rfl rfl ?_
  refine pw_aload_n (q := 43) (j := 0) C dX8_put_42 rfl rfl rfl ?_
  refine pw_getf (q := 46) C dX8_put_43 fX8_9 h0 (by rfl) rfl ?_
  refine pw_alen_n (q := 47) C dX8_put_46 h1 (by rfl) rfl ?_
  refine pw_icmp_ge_n (q := 50) 58 C dX8_put_47 (by decide) rfl (by omega) (by omega) (fun g47 => absurd g47 (by omega)) (fun g47 => ?_)
  refine pw_aload_n (q := 51) (j := 0) C dX8_put_50 rfl rfl rfl ?_
  refine pw_getf (q := 54) C dX8_put_51 fX8_9 h0 (by rfl) rfl ?_
  refine pw_iload (q := 56) C dX8_put_54 rfl rfl ?_
  refine pw_iload_n (q := 57) (j := 3) C dX8_put_56 rfl rfl rfl ?_
  refine pw_iast_n (q := 58) C dX8_put_57 h1 (by omega) (by omega) rfl ?_
  exact pw_vret C dX8_put_58 rfl ⟨by omega, by omega⟩ (RN.mk rfl)
set_option maxHeartbeats 200000 in
set_option maxRecDepth 100000 in
theorem k_increase_in {M : PH} {t ar w lim R : Nat} {f : Nat → Int32} (hT : TabAt M t ar w lim R f) {r c : Nat} (hr : r < R) (hc : c < w) (v : Int32) : Run iX8_increase [.ref t, .int (nI r), .int (nI c), .int v] M 0 0 (RN (fun M1 => M1 = hput M ar (.inl (0, w * lim, .inl (upd f (r * w + c) (f (r * w + c) + v)))))) := by
  obtain ⟨h0, h1, hR, hs, hw, hlim⟩ := id hT
  refine Run.of (l0 := [some (.ref t), some (.int (nI r)), some (.int (nI c)), some (.int v)]) (by decide +kernel) (Nat.le_of_ble_eq_true rfl) (by rfl) (fun Γ G C => ?_)
  refine pw_aload_n (q := 1) (j := 0) C dX8_increase_0 rfl rfl rfl ?_
  refine pw_iload_n (q := 2) (j := 1) C dX8_increase_1 rfl rfl rfl ?_
  refine pw_iload_n (q := 3) (j := 2) C dX8_increase_2 rfl rfl rfl ?_
  refine pw_aload_n (q := 4) (j := 0) C dX8_increase_3 rfl rfl rfl ?_
  refine pw_iload_n (q := 5) (j := 1) C dX8_increase_4 rfl rfl rfl ?_
  refine pw_iload_n (q := 6) (j := 2) C dX8_increase_5 rfl rfl rfl ?_
  refine pw_rd (q := 9) (cr_v (j := iX8_get) C dX8_increase_6 lX8_29 mX8_get (ro_mk (by decide) (by decide)) h0 rfl (k_get_in hT (by omega) hc) rfl rfl (Nat.le_of_ble_eq_true rfl) ⟨by omega, by omega⟩) rfl ?_
  refine pw_iload_n (q := 10) (j := 3) C dX8_increase_9 rfl rfl rfl ?_
  refine pw_iadd (q := 11) C dX8_increase_10 rfl ?_
  refine pw_void (q := 14) (cr_v (j := iX8_put) C dX8_increase_11 lX8_33 mX8_put (ro_mk (by decide) (by decide)) h0 rfl (k_put_in hT (by omega) hc _) rfl rfl (Nat.le_of_ble_eq_true rfl) ⟨by omega, by omega⟩) rfl (fun M11 e11 => ?_)
  subst e11
  exact pw_vret C dX8_increase_14 rfl ⟨by omega, by omega⟩ (RN.mk rfl)
set_option maxHeartbeats 200000 in
set_option maxRecDepth 100000 in
theorem k_addRow {M : PH} {t ar w lim R : Nat} {f : Nat → Int32} (hT : TabAt M t ar w lim R f) (hr : R < lim) : Run iX8_addRow [.ref t] M 0 0 (RV (.int (nI R)) (fun M1 => M1 = hput M t (.inr (5, [.ref ar, .int (nI w), .int (nI lim), .int (nI (R + 1))])))) := by
  obtain ⟨h0, h1, hR, hs, hw, hlim⟩ := id hT
  refine Run.of (l0 := [some (.ref t)]) (by decide +kernel) (Nat.le_of_ble_eq_true rfl) (by rfl) (fun Γ G C => ?_)
  refine pw_aload_n (q := 1) (j := 0) C dX8_addRow_0 rfl rfl rfl ?_
  refine pw_rd (q := 4) (cr_v (j := iX8_hasRoom) C dX8_addRow_1 lX8_25 mX8_hasRoom (ro_mk (by decide) (by decide)) h0 rfl (k_hasRoom hT) rfl rfl (Nat.le_of_ble_eq_true rfl) ⟨by omega, by omega⟩) rfl ?_
  refine pw_if_ne_b (q := 7) 10 C dX8_addRow_4 (by decide) rfl (fun g4 => ?_) (fun g4 => absurd g4 (fun q => q hr))
  refine pw_aload_n (q := 11) (j := 0) C dX8_addRow_10 rfl rfl rfl ?_
  refine pw_dup (q := 12) C dX8_addRow_11 rfl rfl ?_
  refine pw_getf (q := 15) C dX8_addRow_12 fX8_22 h0 (by rfl) rfl ?_
  refine pw_iconst_n (q := 16) C 1 dX8_addRow_15 (by decide +kernel) rfl ?_
  refine pw_iadd_n (q := 17) C dX8_addRow_16 rfl ?_
  refine pw_put (q := 20) C dX8_addRow_17 fX8_22 h0 (by rfl) (by rfl) (Nat.le_of_ble_eq_true rfl) rfl ?_
  have h0 := hput_at M t (.inr (5, [.ref ar, .int (nI w), .int (nI lim), .int (nI (R + 1))]))
  refine pw_aload_n (q := 21) (j := 0) C dX8_addRow_20 rfl rfl rfl ?_
  refine pw_getf (q := 24) C dX8_addRow_21 fX8_22 h0 (by rfl) rfl ?_
  refine pw_iconst_n (q := 25) C 1 dX8_addRow_24 (by decide +kernel) rfl ?_
  refine pw_isub_n (q := 26) C dX8_addRow_25 (by omega) rfl ?_
  exact pw_iret C dX8_addRow_26 rfl ⟨by omega, by omega⟩ (RV.mk (vnI (by omega)) rfl)
set_option maxHeartbeats 200000 in
set_option maxRecDepth 100000 in
theorem k_sum {M : PH} {t ar w lim R : Nat} {f : Nat → Int32} (hT : TabAt M t ar w lim R f) {c : Nat} (hc : c < w) (s : Nat → Nat) (hs9 : ∀ r, r < R → f (r * w + c) = nI (s r)) : Run iX8_sum [.ref t, .int (nI c)] M 0 0 (RV (.int (nI (sumN s R))) (fun M1 => M1 = M)) := by
  obtain ⟨h0, h1, hR, hs, hw, hlim⟩ := id hT
  refine Run.of (l0 := [some (.ref t), some (.int (nI c)), none, none]) (by decide +kernel) (Nat.le_of_ble_eq_true rfl) (by rfl) (fun Γ G C => ?_)
  have loop : ∀ (d r : Nat), r + d = R → PW Γ G (ZJ Γ G 0 0 (RV (.int (nI (sumN s R))) (fun M1 => M1 = M))) 4 [some (.ref t), some (.int (nI c)), some (.int (nI (sumN s r))), some (.int (nI r))] [] M 0 0 := by
    intro d
    induction d with
    | zero =>
      intro r hd
      refine pw_iload_n (q := 5) (j := 3) C dX8_sum_4 rfl rfl rfl ?_
      refine pw_aload_n (q := 6) (j := 0) C dX8_sum_5 rfl rfl rfl ?_
      refine pw_getf (q := 9) C dX8_sum_6 fX8_22 h0 (by rfl) rfl ?_
      refine pw_icmp_ge_n (q := 12) 27 C dX8_sum_9 (by decide) rfl (by omega) (by omega) (fun g9 => ?_) (fun g9 => absurd g9 (by omega))
      refine pw_iload_n (q := 28) (j := 2) C dX8_sum_27 rfl rfl rfl ?_
      exact pw_iret C dX8_sum_28 rfl ⟨by omega, by omega⟩ (RV.mk (vnI (by rw [show r = R by omega])) rfl)
    | succ d ih =>
      intro r hd
      refine pw_iload_n (q := 5) (j := 3) C dX8_sum_4 rfl rfl rfl ?_
      refine pw_aload_n (q := 6) (j := 0) C dX8_sum_5 rfl rfl rfl ?_
      refine pw_getf (q := 9) C dX8_sum_6 fX8_22 h0 (by rfl) rfl ?_
      refine pw_icmp_ge_n (q := 12) 27 C dX8_sum_9 (by decide) rfl (by omega) (by omega) (fun g9 => absurd g9 (by omega)) (fun g9 => ?_)
      refine pw_iload_n (q := 13) (j := 2) C dX8_sum_12 rfl rfl rfl ?_
      refine pw_aload_n (q := 14) (j := 0) C dX8_sum_13 rfl rfl rfl ?_
      refine pw_iload_n (q := 15) (j := 3) C dX8_sum_14 rfl rfl rfl ?_
      refine pw_iload_n (q := 16) (j := 1) C dX8_sum_15 rfl rfl rfl ?_
      refine pw_rd (q := 19) (cr_v (j := iX8_get) C dX8_sum_16 lX8_29 mX8_get (ro_mk (by decide) (by decide)) h0 rfl (k_get_in hT (by omega) hc) rfl rfl (Nat.le_of_ble_eq_true rfl) ⟨by omega, by omega⟩) rfl ?_
      rw [hs9 r (by omega)]
      refine pw_iadd_n (q := 20) C dX8_sum_19 rfl ?_
      refine pw_istore_n (q := 21) (j := 2) C dX8_sum_20 rfl rfl (by decide) rfl ?_
      refine pw_iinc_n (q := 24) C 1 dX8_sum_21 rfl (by decide +kernel) rfl (by decide) rfl ?_
      refine pw_goto (q := 0) 4 C dX8_sum_24 (by decide) ?_
      exact ih (r + 1) (by omega)
  refine pw_iconst_n (q := 1) C 0 dX8_sum_0 (by decide +kernel) rfl ?_
  refine pw_istore_n (q := 2) (j := 2) C dX8_sum_1 rfl rfl (by decide) rfl ?_
  refine pw_iconst_n (q := 3) C 0 dX8_sum_2 (by decide +kernel) rfl ?_
  refine pw_istore_n (q := 4) (j := 3) C dX8_sum_3 rfl rfl (by decide) rfl ?_
  exact loop R 0 (by omega)
set_option maxHeartbeats 200000 in
set_option maxRecDepth 100000 in
theorem k_count {M : PH} {t ar w lim R : Nat} {f : Nat → Int32} (hT : TabAt M t ar w lim R f) {c : Nat} (hc : c < w) (v : Int32) : Run iX8_count [.ref t, .int (nI c), .int v] M 0 0 (RV (.int (nI (cnt (fun r => f (r * w + c) = v) R))) (fun M1 => M1 = M)) := by
  obtain ⟨h0, h1, hR, hs, hw, hlim⟩ := id hT
  refine Run.of (l0 := [some (.ref t), some (.int (nI c)), some (.int v), none, none]) (by decide +kernel) (Nat.le_of_ble_eq_true rfl) (by rfl) (fun Γ G C => ?_)
  have loop : ∀ (d r : Nat), r + d = R → PW Γ G (ZJ Γ G 0 0 (RV (.int (nI (cnt (fun r => f (r * w + c) = v) R))) (fun M1 => M1 = M))) 5 [some (.ref t), some (.int (nI c)), some (.int v), some (.int (nI (cnt (fun r => f (r * w + c) = v) r))), some (.int (nI r))] [] M 0 0 := by
    intro d
    induction d with
    | zero =>
      intro r hd
      refine pw_iload (q := 7) C dX8_count_5 rfl rfl ?_
      refine pw_aload_n (q := 8) (j := 0) C dX8_count_7 rfl rfl rfl ?_
      refine pw_getf (q := 11) C dX8_count_8 fX8_22 h0 (by rfl) rfl ?_
      refine pw_icmp_ge_n (q := 14) 34 C dX8_count_11 (by decide) rfl (by omega) (by omega) (fun g11 => ?_) (fun g11 => absurd g11 (by omega))
      refine pw_iload_n (q := 35) (j := 3) C dX8_count_34 rfl rfl rfl ?_
      exact pw_iret C dX8_count_35 rfl ⟨by omega, by omega⟩ (RV.mk (vnI (by rw [show r = R by omega])) rfl)
    | succ d ih =>
      intro r hd
      refine pw_iload (q := 7) C dX8_count_5 rfl rfl ?_
      refine pw_aload_n (q := 8) (j := 0) C dX8_count_7 rfl rfl rfl ?_
      refine pw_getf (q := 11) C dX8_count_8 fX8_22 h0 (by rfl) rfl ?_
      refine pw_icmp_ge_n (q := 14) 34 C dX8_count_11 (by decide) rfl (by omega) (by omega) (fun g11 => absurd g11 (by omega)) (fun g11 => ?_)
      refine pw_aload_n (q := 15) (j := 0) C dX8_count_14 rfl rfl rfl ?_
      refine pw_iload (q := 17) C dX8_count_15 rfl rfl ?_
      refine pw_iload_n (q := 18) (j := 1) C dX8_count_17 rfl rfl rfl ?_
      refine pw_rd (q := 21) (cr_v (j := iX8_get) C dX8_count_18 lX8_29 mX8_get (ro_mk (by decide) (by decide)) h0 rfl (k_get_in hT (by omega) hc) rfl rfl (Nat.le_of_ble_eq_true rfl) ⟨by omega, by omega⟩) rfl ?_
      refine pw_iload_n (q := 22) (j := 2) C dX8_count_21 rfl rfl rfl ?_
      refine pw_icmp_ne (q := 25) 28 C dX8_count_22 (by decide) rfl (fun g22 => ?_) (fun g22 => ?_)
      · refine pw_iinc_n (q := 31) C 1 dX8_count_28 rfl (by decide +kernel) rfl (by decide) rfl ?_
        refine pw_goto (q := 0) 5 C dX8_count_31 (by decide) ?_
        have e9 := ih (r + 1) (by omega)
        rw [cnt_no g22] at e9
        exact e9
      · refine pw_iinc_n (q := 28) C 1 dX8_count_25 rfl (by decide +kernel) rfl (by decide) rfl ?_
        refine pw_iinc_n (q := 31) C 1 dX8_count_28 rfl (by decide +kernel) rfl (by decide) rfl ?_
        refine pw_goto (q := 0) 5 C dX8_count_31 (by decide) ?_
        have e9 := ih (r + 1) (by omega)
        rw [cnt_yes g22] at e9
        exact e9
  refine pw_iconst_n (q := 1) C 0 dX8_count_0 (by decide +kernel) rfl ?_
  refine pw_istore_n (q := 2) (j := 3) C dX8_count_1 rfl rfl (by decide) rfl ?_
  refine pw_iconst_n (q := 3) C 0 dX8_count_2 (by decide +kernel) rfl ?_
  refine pw_istore (q := 5) C dX8_count_3 rfl (by decide) rfl ?_
  exact loop R 0 (by omega)
set_option maxHeartbeats 200000 in
set_option maxRecDepth 100000 in
theorem k_countBoth {M : PH} {t ar w lim R : Nat} {f : Nat → Int32} (hT : TabAt M t ar w lim R f) {c c2 : Nat} (hc : c < w) (hc2 : c2 < w) (v v2 : Int32) : Run iX8_countBoth [.ref t, .int (nI c), .int v, .int (nI c2), .int v2] M 0 0 (RV (.int (nI (cnt (fun r => f (r * w + c) = v ∧ f (r * w + c2) = v2) R))) (fun M1 => M1 = M)) := by
  obtain ⟨h0, h1, hR, hs, hw, hlim⟩ := id hT
  refine Run.of (l0 := [some (.ref t), some (.int (nI c)), some (.int v), some (.int (nI c2)), some (.int v2), none, none]) (by decide +kernel) (Nat.le_of_ble_eq_true rfl) (by rfl) (fun Γ G C => ?_)
  have loop : ∀ (d r : Nat), r + d = R → PW Γ G (ZJ Γ G 0 0 (RV (.int (nI (cnt (fun r => f (r * w + c) = v ∧ f (r * w + c2) = v2) R))) (fun M1 => M1 = M))) 6 [some (.ref t), some (.int (nI c)), some (.int v), some (.int (nI c2)), some (.int v2), some (.int (nI (cnt (fun r => f (r * w + c) = v ∧ f (r * w + c2) = v2) r))), some (.int (nI r))] [] M 0 0 := by
    intro d
    induction d with
    | zero =>
      intro r hd
      refine pw_iload (q := 8) C dX8_countBoth_6 rfl rfl ?_
      refine pw_aload_n (q := 9) (j := 0) C dX8_countBoth_8 rfl rfl rfl ?_
      refine pw_getf (q := 12) C dX8_countBoth_9 fX8_22 h0 (by rfl) rfl ?_
      refine pw_icmp_ge_n (q := 15) 47 C dX8_countBoth_12 (by decide) rfl (by omega) (by omega) (fun g12 => ?_) (fun g12 => absurd g12 (by omega))
      refine pw_iload (q := 49) C dX8_countBoth_47 rfl rfl ?_
      exact pw_iret C dX8_countBoth_49 rfl ⟨by omega, by omega⟩ (RV.mk (vnI (by rw [show r = R by omega])) rfl)
    | succ d ih =>
      intro r hd
      refine pw_iload (q := 8) C dX8_countBoth_6 rfl rfl ?_
      refine pw_aload_n (q := 9) (j := 0) C dX8_countBoth_8 rfl rfl rfl ?_
      refine pw_getf (q := 12) C dX8_countBoth_9 fX8_22 h0 (by rfl) rfl ?_
      refine pw_icmp_ge_n (q := 15) 47 C dX8_countBoth_12 (by decide) rfl (by omega) (by omega) (fun g12 => absurd g12 (by omega)) (fun g12 => ?_)
      refine pw_aload_n (q := 16) (j := 0) C dX8_countBoth_15 rfl rfl rfl ?_
      refine pw_iload (q := 18) C dX8_countBoth_16 rfl rfl ?_
      refine pw_iload_n (q := 19) (j := 1) C dX8_countBoth_18 rfl rfl rfl ?_
      refine pw_rd (q := 22) (cr_v (j := iX8_get) C dX8_countBoth_19 lX8_29 mX8_get (ro_mk (by decide) (by decide)) h0 rfl (k_get_in hT (by omega) hc) rfl rfl (Nat.le_of_ble_eq_true rfl) ⟨by omega, by omega⟩) rfl ?_
      refine pw_iload_n (q := 23) (j := 2) C dX8_countBoth_22 rfl rfl rfl ?_
      refine pw_icmp_ne (q := 26) 41 C dX8_countBoth_23 (by decide) rfl (fun g23 => ?_) (fun g23 => ?_)
      · refine pw_iinc_n (q := 44) C 1 dX8_countBoth_41 rfl (by decide +kernel) rfl (by decide) rfl ?_
        refine pw_goto (q := 0) 6 C dX8_countBoth_44 (by decide) ?_
        have e9 := ih (r + 1) (by omega)
        rw [cnt_no (fun q => g23 q.1)] at e9
        exact e9
      · refine pw_aload_n (q := 27) (j := 0) C dX8_countBoth_26 rfl rfl rfl ?_
        refine pw_iload (q := 29) C dX8_countBoth_27 rfl rfl ?_
        refine pw_iload_n (q := 30) (j := 3) C dX8_countBoth_29 rfl rfl rfl ?_
        refine pw_rd (q := 33) (cr_v (j := iX8_get) C dX8_countBoth_30 lX8_29 mX8_get (ro_mk (by decide) (by decide)) h0 rfl (k_get_in hT (by omega) hc2) rfl rfl (Nat.le_of_ble_eq_true rfl) ⟨by omega, by omega⟩) rfl ?_
        refine pw_iload (q := 35) C dX8_countBoth_33 rfl rfl ?_
        refine pw_icmp_ne (q := 38) 41 C dX8_countBoth_35 (by decide) rfl (fun g35 => ?_) (fun g35 => ?_)
        · refine pw_iinc_n (q := 44) C 1 dX8_countBoth_41 rfl (by decide +kernel) rfl (by decide) rfl ?_
          refine pw_goto (q := 0) 6 C dX8_countBoth_44 (by decide) ?_
          have e9 := ih (r + 1) (by omega)
          rw [cnt_no (fun q => g35 q.2)] at e9
          exact e9
        · refine pw_iinc_n (q := 41) C 1 dX8_countBoth_38 rfl (by decide +kernel) rfl (by decide) rfl ?_
          refine pw_iinc_n (q := 44) C 1 dX8_countBoth_41 rfl (by decide +kernel) rfl (by decide) rfl ?_
          refine pw_goto (q := 0) 6 C dX8_countBoth_44 (by decide) ?_
          have e9 := ih (r + 1) (by omega)
          rw [cnt_yes ⟨g23, g35⟩] at e9
          exact e9
  refine pw_iconst_n (q := 1) C 0 dX8_countBoth_0 (by decide +kernel) rfl ?_
  refine pw_istore (q := 3) C dX8_countBoth_1 rfl (by decide) rfl ?_
  refine pw_iconst_n (q := 4) C 0 dX8_countBoth_3 (by decide +kernel) rfl ?_
  refine pw_istore (q := 6) C dX8_countBoth_4 rfl (by decide) rfl ?_
  exact loop R 0 (by omega)
/-- the first below n, or n -/
def fst (p : Nat → Prop) [DecidablePred p] : Nat → Nat
  | 0 => 0
  | n + 1 => if fst p n < n then fst p n else if p n then n else n + 1
theorem fst_le (p : Nat → Prop) [DecidablePred p] : ∀ n, fst p n ≤ n
  | 0 => Nat.le_refl 0
  | n + 1 => by
    unfold fst
    split
    · omega
    · split <;> omega
theorem fst_no {p : Nat → Prop} [DecidablePred p] : ∀ {n k : Nat}, k < fst p n → ¬ p k
  | 0, k, h => absurd h (Nat.not_lt_zero k)
  | n + 1, k, h => by
    unfold fst at h
    split at h
    · exact fst_no h
    · rename_i h1
      have h2 : fst p n = n := Nat.le_antisymm (fst_le p n) (Nat.not_lt.mp h1)
      split at h
      · exact fst_no (n := n) (by omega)
      · rename_i h3
        by_cases hk : k = n
        · subst hk; exact h3
        · exact fst_no (n := n) (by omega)
theorem fst_yes {p : Nat → Prop} [DecidablePred p] : ∀ {n : Nat}, fst p n < n → p (fst p n)
  | 0, h => absurd h (Nat.not_lt_zero _)
  | n + 1, h => by
    by_cases h1 : fst p n < n
    · have e : fst p (n + 1) = fst p n := by rw [fst, if_pos h1]
      rw [e]; exact fst_yes h1
    · by_cases h2 : p n
      · have e : fst p (n + 1) = n := by rw [fst, if_neg h1, if_pos h2]
        rw [e]; exact h2
      · have e : fst p (n + 1) = n + 1 := by rw [fst, if_neg h1, if_neg h2]
        omega
theorem fst_eq {p : Nat → Prop} [DecidablePred p] {n k : Nat} (hk : k < n) (hp : p k) (hno : ∀ j, j < k → ¬ p j) : fst p n = k := by
  have h1 : ¬ k < fst p n := fun h => fst_no h hp
  by_cases h2 : fst p n < n
  · by_cases h3 : fst p n = k
    · exact h3
    · exact absurd (fst_yes h2) (hno _ (by omega))
  · omega
theorem fst_none {p : Nat → Prop} [DecidablePred p] {n : Nat} (hno : ∀ j, j < n → ¬ p j) : fst p n = n := by
  have h1 := fst_le p n
  by_cases h2 : fst p n < n
  · exact absurd (fst_yes h2) (hno _ h2)
  · omega
theorem fst_cong {p q : Nat → Prop} [DecidablePred p] [DecidablePred q] {n : Nat} (h : ∀ k, k < n → (p k ↔ q k)) : fst p n = fst q n := by
  by_cases h2 : fst q n < n
  · exact fst_eq h2 ((h _ h2).mpr (fst_yes h2)) (fun j hj => mt (h j (by omega)).mp (fst_no hj))
  · have h3 : fst q n = n := Nat.le_antisymm (fst_le q n) (Nat.not_lt.mp h2)
    rw [h3]
    exact fst_none (fun j hj => mt (h j hj).mp (fst_no (by rw [h3]; exact hj)))
def orNone (k n : Nat) : Int32 := if k < n then nI k else -9
set_option maxHeartbeats 200000 in
set_option maxRecDepth 100000 in
theorem k_firstWith {M : PH} {t ar w lim R : Nat} {f : Nat → Int32} (hT : TabAt M t ar w lim R f) {c : Nat} (hc : c < w) (v : Int32) : Run iX8_firstWith [.ref t, .int (nI c), .int v] M 0 0 (RV (.int (orNone (fst (fun r => f (r * w + c) = v) R) R)) (fun M1 => M1 = M)) := by
  obtain ⟨h0, h1, hR, hs, hw, hlim⟩ := id hT
  refine Run.of (l0 := [some (.ref t), some (.int (nI c)), some (.int v), none]) (by decide +kernel) (Nat.le_of_ble_eq_true rfl) (by rfl) (fun Γ G C => ?_)
  have loop : ∀ (d r : Nat), r + d = R → (∀ j, j < r → ¬ f (j * w + c) = v) → PW Γ G (ZJ Γ G 0 0 (RV (.int (orNone (fst (fun r => f (r * w + c) = v) R) R)) (fun M1 => M1 = M))) 2 [some (.ref t), some (.int (nI c)), some (.int v), some (.int (nI r))] [] M 0 0 := by
    intro d
    induction d with
    | zero =>
      intro r hd
      intro hno
      refine pw_iload_n (q := 3) (j := 3) C dX8_firstWith_2 rfl rfl rfl ?_
      refine pw_aload_n (q := 4) (j := 0) C dX8_firstWith_3 rfl rfl rfl ?_
      refine pw_getf (q := 7) C dX8_firstWith_4 fX8_22 h0 (by rfl) rfl ?_
      refine pw_icmp_ge_n (q := 10) 28 C dX8_firstWith_7 (by decide) rfl (by omega) (by omega) (fun g7 => ?_) (fun g7 => absurd g7 (by omega))
      refine pw_bipush (q := 30) (v := (-9)) C dX8_firstWith_28 (by decide +kernel) rfl ?_
      exact pw_iret C dX8_firstWith_30 rfl ⟨by omega, by omega⟩ (RV.mk (vint (by rw [fst_none (fun j hj => hno j (by omega))]; exact (if_neg (Nat.lt_irrefl R)).symm)) rfl)
    | succ d ih =>
      intro r hd
      intro hno
      refine pw_iload_n (q := 3) (j := 3) C dX8_firstWith_2 rfl rfl rfl ?_
      refine pw_aload_n (q := 4) (j := 0) C dX8_firstWith_3 rfl rfl rfl ?_
      refine pw_getf (q := 7) C dX8_firstWith_4 fX8_22 h0 (by rfl) rfl ?_
      refine pw_icmp_ge_n (q := 10) 28 C dX8_firstWith_7 (by decide) rfl (by omega) (by omega) (fun g7 => absurd g7 (by omega)) (fun g7 => ?_)
      refine pw_aload_n (q := 11) (j := 0) C dX8_firstWith_10 rfl rfl rfl ?_
      refine pw_iload_n (q := 12) (j := 3) C dX8_firstWith_11 rfl rfl rfl ?_
      refine pw_iload_n (q := 13) (j := 1) C dX8_firstWith_12 rfl rfl rfl ?_
      refine pw_rd (q := 16) (cr_v (j := iX8_get) C dX8_firstWith_13 lX8_29 mX8_get (ro_mk (by decide) (by decide)) h0 rfl (k_get_in hT (by omega) hc) rfl rfl (Nat.le_of_ble_eq_true rfl) ⟨by omega, by omega⟩) rfl ?_
      refine pw_iload_n (q := 17) (j := 2) C dX8_firstWith_16 rfl rfl rfl ?_
      refine pw_icmp_ne (q := 20) 22 C dX8_firstWith_17 (by decide) rfl (fun g17 => ?_) (fun g17 => ?_)
      · refine pw_iinc_n (q := 25) C 1 dX8_firstWith_22 rfl (by decide +kernel) rfl (by decide) rfl ?_
        refine pw_goto (q := 0) 2 C dX8_firstWith_25 (by decide) ?_
        exact ih (r + 1) (by omega) (fun j hj => by
          by_cases h9 : j = r
          · subst h9; exact g17
          · exact hno j (by omega))
      · refine pw_iload_n (q := 21) (j := 3) C dX8_firstWith_20 rfl rfl rfl ?_
        exact pw_iret C dX8_firstWith_21 rfl ⟨by omega, by omega⟩ (RV.mk (vint (by rw [fst_eq (by omega) g17 hno]; exact (if_pos (by omega)).symm)) rfl)
  refine pw_iconst_n (q := 1) C 0 dX8_firstWith_0 (by decide +kernel) rfl ?_
  refine pw_istore_n (q := 2) (j := 3) C dX8_firstWith_1 rfl rfl (by decide) rfl ?_
  exact loop R 0 (by omega) (fun j hj => absurd hj (Nat.not_lt_zero j))
set_option maxHeartbeats 200000 in
set_option maxRecDepth 100000 in
theorem k_copyFrom {M : PH} {t ar w lim R : Nat} {f : Nat → Int32} (hT : TabAt M t ar w lim R f) {t2 ar2 R2 : Nat} {f2 : Nat → Int32} (hT2 : TabAt M t2 ar2 w lim R2 f2) (ht : t ≠ ar) (ht2 : t2 ≠ ar) (har : ar ≠ ar2) : Run iX8_copyFrom [.ref t, .ref t2] M 0 0 (RN (fun M1 => M1 = hput (hput M ar (.inl (0, w * lim, .inl (fill f2 f (w * lim))))) t (.inr (5, [.ref ar, .int (nI w), .int (nI lim), .int (nI R2)])))) := by
  obtain ⟨h0, h1, hR, hs, hw, hlim⟩ := id hT
  obtain ⟨h2, h3, -⟩ := id hT2
  refine Run.of (l0 := [some (.ref t), some (.ref t2), none]) (by decide +kernel) (Nat.le_of_ble_eq_true rfl) (by rfl) (fun Γ G C => ?_)
  have loop : ∀ (d i : Nat), i + d = w * lim → PW Γ G (ZJ Γ G 0 0 (RN (fun M1 => M1 = hput (hput M ar (.inl (0, w * lim, .inl (fill f2 f (w * lim))))) t (.inr (5, [.ref ar, .int (nI w), .int (nI lim), .int (nI R2)]))))) 2 [some (.ref t), some (.ref t2), some (.int (nI i))] [] (hput M ar (.inl (0, w * lim, .inl (fill f2 f i)))) 0 0 := by
    intro d
    induction d with
    | zero =>
      intro i hd
      have h0 := (hput_ne (x := (.inl (0, w * lim, .inl (fill f2 f i)))) ht).trans h0
      have h2 := (hput_ne (x := (.inl (0, w * lim, .inl (fill f2 f i)))) ht2).trans h2
      have h3 := (hput_ne (x := (.inl (0, w * lim, .inl (fill f2 f i)))) (Ne.symm har)).trans h3
      have h1 := hput_at M ar (.inl (0, w * lim, .inl (fill f2 f i)))
      refine pw_iload_n (q := 3) (j := 2) C dX8_copyFrom_2 rfl rfl rfl ?_
      refine pw_aload_n (q := 4) (j := 0) C dX8_copyFrom_3 rfl rfl rfl ?_
      refine pw_getf (q := 7) C dX8_copyFrom_4 fX8_9 h0 (by rfl) rfl ?_
      refine pw_alen_n (q := 8) C dX8_copyFrom_7 h1 (by rfl) rfl ?_
      refine pw_icmp_ge_n (q := 11) 38 C dX8_copyFrom_8 (by decide) rfl (by omega) (by omega) (fun g8 => ?_) (fun g8 => absurd g8 (by omega))
      refine pw_aload_n (q := 39) (j := 0) C dX8_copyFrom_38 rfl rfl rfl ?_
      refine pw_aload_n (q := 40) (j := 1) C dX8_copyFrom_39 rfl rfl rfl ?_
      refine pw_getf (q := 43) C dX8_copyFrom_40 fX8_22 h2 (by rfl) rfl ?_
      refine pw_put (q := 46) C dX8_copyFrom_43 fX8_22 h0 (by rfl) (by rfl) (Nat.le_of_ble_eq_true rfl) rfl ?_
      exact pw_vret C dX8_copyFrom_46 rfl ⟨by omega, by omega⟩ (RN.mk (by rw [show i = w * lim by omega]; rfl))
    | succ d ih =>
      intro i hd
      have h0 := (hput_ne (x := (.inl (0, w * lim, .inl (fill f2 f i)))) ht).trans h0
      have h2 := (hput_ne (x := (.inl (0, w * lim, .inl (fill f2 f i)))) ht2).trans h2
      have h3 := (hput_ne (x := (.inl (0, w * lim, .inl (fill f2 f i)))) (Ne.symm har)).trans h3
      have h1 := hput_at M ar (.inl (0, w * lim, .inl (fill f2 f i)))
      refine pw_iload_n (q := 3) (j := 2) C dX8_copyFrom_2 rfl rfl rfl ?_
      refine pw_aload_n (q := 4) (j := 0) C dX8_copyFrom_3 rfl rfl rfl ?_
      refine pw_getf (q := 7) C dX8_copyFrom_4 fX8_9 h0 (by rfl) rfl ?_
      refine pw_alen_n (q := 8) C dX8_copyFrom_7 h1 (by rfl) rfl ?_
      refine pw_icmp_ge_n (q := 11) 38 C dX8_copyFrom_8 (by decide) rfl (by omega) (by omega) (fun g8 => absurd g8 (by omega)) (fun g8 => ?_)
      refine pw_iload_n (q := 12) (j := 2) C dX8_copyFrom_11 rfl rfl rfl ?_
      refine pw_aload_n (q := 13) (j := 1) C dX8_copyFrom_12 rfl rfl rfl ?_
      refine pw_getf (q := 16) C dX8_copyFrom_13 fX8_9 h2 (by rfl) rfl ?_
      refine pw_alen_n (q := 17) C dX8_copyFrom_16 h3 (by rfl) rfl ?_
      refine pw_icmp_ge_n (q := 20) 38 C dX8_copyFrom_17 (by decide) rfl (by omega) (by omega) (fun g17 => absurd g17 (by omega)) (fun g17 => ?_)
      refine pw_aload_n (q := 21) (j := 0) C dX8_copyFrom_20 rfl rfl rfl ?_
      refine pw_getf (q := 24) C dX8_copyFrom_21 fX8_9 h0 (by rfl) rfl ?_
      refine pw_iload_n (q := 25) (j := 2) C dX8_copyFrom_24 rfl rfl rfl ?_
      refine pw_aload_n (q := 26) (j := 1) C dX8_copyFrom_25 rfl rfl rfl ?_
      refine pw_getf (q := 29) C dX8_copyFrom_26 fX8_9 h2 (by rfl) rfl ?_
      refine pw_iload_n (q := 30) (j := 2) C dX8_copyFrom_29 rfl rfl rfl ?_
      refine pw_iald_n (q := 31) C dX8_copyFrom_30 h3 (by omega) (by omega) rfl ?_
      refine pw_iast_n (q := 32) C dX8_copyFrom_31 h1 (by omega) (by omega) rfl ?_
      rw [hput2, fill_succ]
      refine pw_iinc_n (q := 35) C 1 dX8_copyFrom_32 rfl (by decide +kernel) rfl (by decide) rfl ?_
      refine pw_goto (q := 0) 2 C dX8_copyFrom_35 (by decide) ?_
      exact ih (i + 1) (by omega)
  refine pw_iconst_n (q := 1) C 0 dX8_copyFrom_0 (by decide +kernel) rfl ?_
  refine pw_istore_n (q := 2) (j := 2) C dX8_copyFrom_1 rfl rfl (by decide) rfl ?_
  have e9 := loop (w * lim) 0 (by omega)
  rw [fill_0, hput_same h1] at e9
  exact e9
set_option maxHeartbeats 200000 in
set_option maxRecDepth 100000 in
theorem k_Table_init {M : PH} {t ar w lim : Nat} {f : Nat → Int32} (h0 : M.2 t = some (.inr (5, [.null, .int 0, .int 0, .int 0]))) : Run iX8_init [.ref t, .ref ar, .int (nI w), .int (nI lim)] M 0 0 (RN (fun M1 => M1 = hput M t (.inr (5, [.ref ar, .int (nI w), .int (nI lim), .int (nI 0)])))) := by
  refine Run.of (l0 := [some (.ref t), some (.ref ar), some (.int (nI w)), some (.int (nI lim))]) (by decide +kernel) (Nat.le_of_ble_eq_true rfl) (by rfl) (fun Γ G C => ?_)
  refine pw_aload_n (q := 1) (j := 0) C dX8_init_0 rfl rfl rfl ?_
  refine pw_objInit (rest := []) (q := 4) C dX8_init_1 lX8_3 mObj.1 mObj.2 ⟨by decide, Nat.le_of_ble_eq_true rfl⟩ rfl ?_
  refine pw_aload_n (q := 5) (j := 0) C dX8_init_4 rfl rfl rfl ?_
  refine pw_aload_n (q := 6) (j := 1) C dX8_init_5 rfl rfl rfl ?_
  refine pw_putF (q := 9) C dX8_init_6 rfl fX8_9 rfl h0 (by rfl) (by rfl) (Nat.le_of_ble_eq_true rfl) rfl ?_
  have h0 := hput_at M t (.inr (5, [.ref ar, .int 0, .int 0, .int 0]))
  refine pw_aload_n (q := 10) (j := 0) C dX8_init_9 rfl rfl rfl ?_
  refine pw_iload_n (q := 11) (j := 2) C dX8_init_10 rfl rfl rfl ?_
  refine pw_putF (q := 14) C dX8_init_11 rfl fX8_15 rfl h0 (by rfl) (by rfl) (Nat.le_of_ble_eq_true rfl) rfl ?_
  rw [hput2]
  have h0 := hput_at M t (.inr (5, [.ref ar, .int (nI w), .int 0, .int 0]))
  refine pw_aload_n (q := 15) (j := 0) C dX8_init_14 rfl rfl rfl ?_
  refine pw_iload_n (q := 16) (j := 3) C dX8_init_15 rfl rfl rfl ?_
  refine pw_putF (q := 19) C dX8_init_16 rfl fX8_19 rfl h0 (by rfl) (by rfl) (Nat.le_of_ble_eq_true rfl) rfl ?_
  rw [hput2]
  exact pw_vret C dX8_init_19 rfl ⟨by omega, by omega⟩ (RN.mk (by rw [nI_0]; rfl))
