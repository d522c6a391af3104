/-! The reference: pages changed. -/
set_option maxHeartbeats 200000 in
set_option maxRecDepth 100000 in
theorem m_layStone {M : PH} {r : Nat} {P : Nat → Nat} (hM : PgAt M r P) (h24 : P 7 < 24) {m c f : Nat} : Run iX11_layStone [.ref r, .int (nI m), .int (nI c), .int (nI f)] M 0 0 (RV (.int (nI (P 7))) (fun M1 => M1 = hput M r (.inl (0, 194, .inl (pg (newStoneP P m c f)))))) := by
  refine Run.of (l0 := [some (.ref r), some (.int (nI m)), some (.int (nI c)), some (.int (nI f)), none]) (by decide +kernel) (Nat.le_of_ble_eq_true rfl) (by rfl) (fun Γ G C => ?_)
  refine pw_bipush_n (q := 2) C 50 dX11_layStone_0 (by decide +kernel) rfl ?_
  refine pw_bipush_n (q := 4) C 6 dX11_layStone_2 (by decide +kernel) rfl ?_
  refine pw_aload_n (q := 5) (j := 0) C dX11_layStone_4 rfl rfl rfl ?_
  refine pw_bipush_n (q := 7) C 7 dX11_layStone_5 (by decide +kernel) rfl ?_
  refine pw_ipg (q := 8) C dX11_layStone_7 (by first | exact hM | exact hput_at _ _ _) (by omega) (by omega) rfl ?_
  refine pw_imul_n (q := 9) C dX11_layStone_8 rfl ?_
  refine pw_iadd_n (q := 10) C dX11_layStone_9 rfl ?_
  refine pw_istore (q := 12) C dX11_layStone_10 rfl (by decide) rfl ?_
  refine pw_aload_n (q := 13) (j := 0) C dX11_layStone_12 rfl rfl rfl ?_
  refine pw_iload (q := 15) C dX11_layStone_13 rfl rfl ?_
  refine pw_iload_n (q := 16) (j := 2) C dX11_layStone_15 rfl rfl rfl ?_
  refine pw_ipgst (q := 17) C dX11_layStone_16 (by first | exact hM | exact hput_at _ _ _) (by omega) (by omega) rfl ?_
  refine pw_aload_n (q := 18) (j := 0) C dX11_layStone_17 rfl rfl rfl ?_
  refine pw_iload (q := 20) C dX11_layStone_18 rfl rfl ?_
  refine pw_iconst_n (q := 21) C 1 dX11_layStone_20 (by decide +kernel) rfl ?_
  refine pw_iadd_n (q := 22) C dX11_layStone_21 rfl ?_
  refine pw_iload_n (q := 23) (j := 1) C dX11_layStone_22 rfl rfl rfl ?_
  refine pw_ipgst (q := 24) C dX11_layStone_23 (by first | exact hM | exact hput_at _ _ _) (by omega) (by omega) rfl ?_
  refine pw_aload_n (q := 25) (j := 0) C dX11_layStone_24 rfl rfl rfl ?_
  refine pw_iload (q := 27) C dX11_layStone_25 rfl rfl ?_
  refine pw_iconst_n (q := 28) C 2 dX11_layStone_27 (by decide +kernel) rfl ?_
  refine pw_iadd_n (q := 29) C dX11_layStone_28 rfl ?_
  refine pw_iload_n (q := 30) (j := 3) C dX11_layStone_29 rfl rfl rfl ?_
  refine pw_ipgst (q := 31) C dX11_layStone_30 (by first | exact hM | exact hput_at _ _ _) (by omega) (by omega) rfl ?_
  refine pw_aload_n (q := 32) (j := 0) C dX11_layStone_31 rfl rfl rfl ?_
  refine pw_iload (q := 34) C dX11_layStone_32 rfl rfl ?_
  refine pw_iconst_n (q := 35) C 3 dX11_layStone_34 (by decide +kernel) rfl ?_
  refine pw_iadd_n (q := 36) C dX11_layStone_35 rfl ?_
  refine pw_iconst_n (q := 37) C 0 dX11_layStone_36 (by decide +kernel) rfl ?_
  refine pw_ipgst (q := 38) C dX11_layStone_37 (by first | exact hM | exact hput_at _ _ _) (by omega) (by omega) rfl ?_
  refine pw_aload_n (q := 39) (j := 0) C dX11_layStone_38 rfl rfl rfl ?_
  refine pw_iload (q := 41) C dX11_layStone_39 rfl rfl ?_
  refine pw_iconst_n (q := 42) C 4 dX11_layStone_41 (by decide +kernel) rfl ?_
  refine pw_iadd_n (q := 43) C dX11_layStone_42 rfl ?_
  refine pw_iconst_n (q := 44) C 0 dX11_layStone_43 (by decide +kernel) rfl ?_
  refine pw_ipgst (q := 45) C dX11_layStone_44 (by first | exact hM | exact hput_at _ _ _) (by omega) (by omega) rfl ?_
  refine pw_aload_n (q := 46) (j := 0) C dX11_layStone_45 rfl rfl rfl ?_
  refine pw_iload (q := 48) C dX11_layStone_46 rfl rfl ?_
  refine pw_iconst_n (q := 49) C 5 dX11_layStone_48 (by decide +kernel) rfl ?_
  refine pw_iadd_n (q := 50) C dX11_layStone_49 rfl ?_
  refine pw_iload_n (q := 51) (j := 1) C dX11_layStone_50 rfl rfl rfl ?_
  refine pw_ipgst (q := 52) C dX11_layStone_51 (by first | exact hM | exact hput_at _ _ _) (by omega) (by omega) rfl ?_
  refine pw_aload_n (q := 53) (j := 0) C dX11_layStone_52 rfl rfl rfl ?_
  refine pw_bipush_n (q := 55) C 7 dX11_layStone_53 (by decide +kernel) rfl ?_
  refine pw_dup2 (q := 56) C dX11_layStone_55 rfl rfl rfl ?_
  refine pw_ipg (q := 57) C dX11_layStone_56 (by first | exact hM | exact hput_at _ _ _) (by omega) (by omega) rfl ?_
  rw [updN_ne (show 7 ≠ 50 + 6 * P 7 + 5 by omega), updN_ne (show 7 ≠ 50 + 6 * P 7 + 4 by omega), updN_ne (show 7 ≠ 50 + 6 * P 7 + 3 by omega), updN_ne (show 7 ≠ 50 + 6 * P 7 + 2 by omega), updN_ne (show 7 ≠ 50 + 6 * P 7 + 1 by omega), updN_ne (show 7 ≠ 50 + 6 * P 7 by omega)]
  refine pw_iconst_n (q := 58) C 1 dX11_layStone_57 (by decide +kernel) rfl ?_
  refine pw_iadd_n (q := 59) C dX11_layStone_58 rfl ?_
  refine pw_ipgst (q := 60) C dX11_layStone_59 (by first | exact hM | exact hput_at _ _ _) (by omega) (by omega) rfl ?_
  refine pw_aload_n (q := 61) (j := 0) C dX11_layStone_60 rfl rfl rfl ?_
  refine pw_bipush_n (q := 63) C 7 dX11_layStone_61 (by decide +kernel) rfl ?_
  refine pw_ipg (q := 64) C dX11_layStone_63 (by first | exact hM | exact hput_at _ _ _) (by omega) (by omega) rfl ?_
  rw [updN_at]
  refine pw_iconst_n (q := 65) C 1 dX11_layStone_64 (by decide +kernel) rfl ?_
  refine pw_isub_n (q := 66) C dX11_layStone_65 (by omega) rfl ?_
  exact pw_iret C dX11_layStone_66 rfl ⟨by omega, by omega⟩ (RV.mk (vnI (by omega)) (by simp only [hput2]; rfl))
set_option maxHeartbeats 200000 in
set_option maxRecDepth 100000 in
theorem m_cutOn {M : PH} {r : Nat} {P : Nat → Nat} (hM : PgAt M r P) (hI : Inv P) {m c f : Nat} (hm : m < P 6) (hc : c < P 5) (hw : canCut P m c) : Run iX11_cutOn [.ref r, .int (nI m), .int (nI c), .int (nI f)] M 0 0 (RV (.int (nI (P 7))) (fun M1 => M1 = hput M r (.inl (0, 194, .inl (pg (cutP P m c f)))))) := by
  have hb := hI.b
  have hw1 := hw.1
  have hw2 := hw.2
  have p7 : (updN P (26 + 4 * m + 2) (P (26 + 4 * m + 2) - P (8 + 3 * c + 1))) 7 = P 7 := updN_ne (by omega)
  refine Run.of (l0 := [some (.ref r), some (.int (nI m)), some (.int (nI c)), some (.int (nI f))]) (by decide +kernel) (Nat.le_of_ble_eq_true rfl) (by rfl) (fun Γ G C => ?_)
  refine pw_aload_n (q := 1) (j := 0) C dX11_cutOn_0 rfl rfl rfl ?_
  refine pw_bipush_n (q := 3) C 26 dX11_cutOn_1 (by decide +kernel) rfl ?_
  refine pw_iconst_n (q := 4) C 4 dX11_cutOn_3 (by decide +kernel) rfl ?_
  refine pw_iload_n (q := 5) (j := 1) C dX11_cutOn_4 rfl rfl rfl ?_
  refine pw_imul_n (q := 6) C dX11_cutOn_5 rfl ?_
  refine pw_iadd_n (q := 7) C dX11_cutOn_6 rfl ?_
  refine pw_iconst_n (q := 8) C 2 dX11_cutOn_7 (by decide +kernel) rfl ?_
  refine pw_iadd_n (q := 9) C dX11_cutOn_8 rfl ?_
  refine pw_dup2 (q := 10) C dX11_cutOn_9 rfl rfl rfl ?_
  refine pw_ipg (q := 11) C dX11_cutOn_10 (by first | exact hM | exact hput_at _ _ _) (by omega) (by omega) rfl ?_
  refine pw_aload_n (q := 12) (j := 0) C dX11_cutOn_11 rfl rfl rfl ?_
  refine pw_iload_n (q := 13) (j := 2) C dX11_cutOn_12 rfl rfl rfl ?_
  refine pw_rd (q := 16) (cr_s (j := iX11_facesOf) C dX11_cutOn_13 lX11_51 mX11_facesOf (ro_mk (by decide) (by decide))  (m_faces hM (by omega)) rfl rfl (Nat.le_of_ble_eq_true rfl) ⟨by omega, by omega⟩) rfl ?_
  refine pw_isub_n (q := 17) C dX11_cutOn_16 hw1 rfl ?_
  refine pw_ipgst (q := 18) C dX11_cutOn_17 (by first | exact hM | exact hput_at _ _ _) (by omega) (by omega) rfl ?_
  refine pw_aload_n (q := 19) (j := 0) C dX11_cutOn_18 rfl rfl rfl ?_
  refine pw_iload_n (q := 20) (j := 1) C dX11_cutOn_19 rfl rfl rfl ?_
  refine pw_iload_n (q := 21) (j := 2) C dX11_cutOn_20 rfl rfl rfl ?_
  refine pw_iload_n (q := 22) (j := 3) C dX11_cutOn_21 rfl rfl rfl ?_
  refine pw_val (q := 25) (cr_s (j := iX11_layStone) C dX11_cutOn_22 lX11_54 mX11_layStone (ro_mk (by decide) (by decide))  (m_layStone (hput_at _ _ _) (by rw [p7]; exact hw2)) rfl rfl (Nat.le_of_ble_eq_true rfl) ⟨by omega, by omega⟩) rfl (fun M22 e22 => ?_)
  subst e22
  exact pw_iret C dX11_cutOn_25 rfl ⟨by omega, by omega⟩ (RV.mk (vnI p7) (by rw [hput2]; rfl))
set_option maxHeartbeats 200000 in
set_option maxRecDepth 100000 in
theorem m_inspectOn {M : PH} {r : Nat} {P : Nat → Nat} (hM : PgAt M r P) (hI : Inv P) {s : Nat} (hs : s < P 7) : Run iX11_inspectOn [.ref r, .int (nI s)] M 0 0 (RV (.int (if P 0 < P (50 + 6 * s + 2) then -9 else nI (price P s))) (fun M1 => M1 = hput M r (.inl (0, 194, .inl (pg (inspectP P s)))))) := by
  have hb := hI.b
  have hs9 := hI.s hs
  obtain ⟨hs1, hs2, -⟩ := id hs9
  refine Run.of (l0 := [some (.ref r), some (.int (nI s)), none, none]) (by decide +kernel) (Nat.le_of_ble_eq_true rfl) (by rfl) (fun Γ G C => ?_)
  refine pw_bipush_n (q := 2) C 50 dX11_inspectOn_0 (by decide +kernel) rfl ?_
  refine pw_bipush_n (q := 4) C 6 dX11_inspectOn_2 (by decide +kernel) rfl ?_
  refine pw_iload_n (q := 5) (j := 1) C dX11_inspectOn_4 rfl rfl rfl ?_
  refine pw_imul_n (q := 6) C dX11_inspectOn_5 rfl ?_
  refine pw_iadd_n (q := 7) C dX11_inspectOn_6 rfl ?_
  refine pw_istore_n (q := 8) (j := 2) C dX11_inspectOn_7 rfl rfl (by decide) rfl ?_
  refine pw_aload_n (q := 9) (j := 0) C dX11_inspectOn_8 rfl rfl rfl ?_
  refine pw_iload_n (q := 10) (j := 2) C dX11_inspectOn_9 rfl rfl rfl ?_
  refine pw_iconst_n (q := 11) C 2 dX11_inspectOn_10 (by decide +kernel) rfl ?_
  refine pw_iadd_n (q := 12) C dX11_inspectOn_11 rfl ?_
  refine pw_ipg (q := 13) C dX11_inspectOn_12 (by first | exact hM | exact hput_at _ _ _) (by omega) (by omega) rfl ?_
  refine pw_aload_n (q := 14) (j := 0) C dX11_inspectOn_13 rfl rfl rfl ?_
  refine pw_iconst_n (q := 15) C 0 dX11_inspectOn_14 (by decide +kernel) rfl ?_
  refine pw_ipg (q := 16) C dX11_inspectOn_15 (by first | exact hM | exact hput_at _ _ _) (by omega) (by omega) rfl ?_
  refine pw_icmp_le_n (q := 19) 28 C dX11_inspectOn_16 (by decide) rfl (by omega) (by omega) (fun g16 => ?_) (fun g16 => ?_)
  · refine pw_aload_n (q := 29) (j := 0) C dX11_inspectOn_28 rfl rfl rfl ?_
    refine pw_iload_n (q := 30) (j := 1) C dX11_inspectOn_29 rfl rfl rfl ?_
    refine pw_rd (q := 33) (cr_s (j := iX11_priceOf) C dX11_inspectOn_30 lX11_58 mX11_priceOf (ro_mk (by decide) (by decide))  (m_price hM hI (by omega)) rfl rfl (Nat.le_of_ble_eq_true rfl) ⟨by omega, by omega⟩) rfl ?_
    refine pw_istore_n (q := 34) (j := 3) C dX11_inspectOn_33 rfl rfl (by decide) rfl ?_
    refine pw_aload_n (q := 35) (j := 0) C dX11_inspectOn_34 rfl rfl rfl ?_
    refine pw_iload_n (q := 36) (j := 2) C dX11_inspectOn_35 rfl rfl rfl ?_
    refine pw_iconst_n (q := 37) C 3 dX11_inspectOn_36 (by decide +kernel) rfl ?_
    refine pw_iadd_n (q := 38) C dX11_inspectOn_37 rfl ?_
    refine pw_iconst_n (q := 39) C 1 dX11_inspectOn_38 (by decide +kernel) rfl ?_
    refine pw_ipgst (q := 40) C dX11_inspectOn_39 (by first | exact hM | exact hput_at _ _ _) (by omega) (by omega) rfl ?_
    refine pw_aload_n (q := 41) (j := 0) C dX11_inspectOn_40 rfl rfl rfl ?_
    refine pw_bipush_n (q := 43) C 26 dX11_inspectOn_41 (by decide +kernel) rfl ?_
    refine pw_iconst_n (q := 44) C 4 dX11_inspectOn_43 (by decide +kernel) rfl ?_
    refine pw_aload_n (q := 45) (j := 0) C dX11_inspectOn_44 rfl rfl rfl ?_
    refine pw_iload_n (q := 46) (j := 2) C dX11_inspectOn_45 rfl rfl rfl ?_
    refine pw_iconst_n (q := 47) C 1 dX11_inspectOn_46 (by decide +kernel) rfl ?_
    refine pw_iadd_n (q := 48) C dX11_inspectOn_47 rfl ?_
    refine pw_ipg (q := 49) C dX11_inspectOn_48 (by first | exact hM | exact hput_at _ _ _) (by omega) (by omega) rfl ?_
    rw [updN_ne (show 50 + 6 * s + 1 ≠ 50 + 6 * s + 3 by omega)]
    refine pw_imul_n (q := 50) C dX11_inspectOn_49 rfl ?_
    refine pw_iadd_n (q := 51) C dX11_inspectOn_50 rfl ?_
    refine pw_iconst_n (q := 52) C 3 dX11_inspectOn_51 (by decide +kernel) rfl ?_
    refine pw_iadd_n (q := 53) C dX11_inspectOn_52 rfl ?_
    refine pw_dup2 (q := 54) C dX11_inspectOn_53 rfl rfl rfl ?_
    refine pw_ipg (q := 55) C dX11_inspectOn_54 (by first | exact hM | exact hput_at _ _ _) (by omega) (by omega) rfl ?_
    rw [updN_ne (show 26 + 4 * P (50 + 6 * s + 1) + 3 ≠ 50 + 6 * s + 3 by omega)]
    refine pw_iload_n (q := 56) (j := 3) C dX11_inspectOn_55 rfl rfl rfl ?_
    refine pw_iadd_n (q := 57) C dX11_inspectOn_56 rfl ?_
    refine pw_ipgst (q := 58) C dX11_inspectOn_57 (by first | exact hM | exact hput_at _ _ _) (by omega) (by omega) rfl ?_
    refine pw_iload_n (q := 59) (j := 3) C dX11_inspectOn_58 rfl rfl rfl ?_
    exact pw_iret C dX11_inspectOn_59 rfl ⟨by omega, by omega⟩ (RV.mk (vint (if_neg (by omega)).symm) (by unfold inspectP; rw [if_neg (show ¬ P 0 < P (50 + 6 * s + 2) by omega), hput2]; rfl))
  · refine pw_aload_n (q := 20) (j := 0) C dX11_inspectOn_19 rfl rfl rfl ?_
    refine pw_iload_n (q := 21) (j := 2) C dX11_inspectOn_20 rfl rfl rfl ?_
    refine pw_iconst_n (q := 22) C 3 dX11_inspectOn_21 (by decide +kernel) rfl ?_
    refine pw_iadd_n (q := 23) C dX11_inspectOn_22 rfl ?_
    refine pw_iconst_n (q := 24) C 2 dX11_inspectOn_23 (by decide +kernel) rfl ?_
    refine pw_ipgst (q := 25) C dX11_inspectOn_24 (by first | exact hM | exact hput_at _ _ _) (by omega) (by omega) rfl ?_
    refine pw_bipush (q := 27) (v := (-9)) C dX11_inspectOn_25 (by decide +kernel) rfl ?_
    exact pw_iret C dX11_inspectOn_27 rfl ⟨by omega, by omega⟩ (RV.mk (vint (if_pos (by omega)).symm) (by unfold inspectP; rw [if_pos (show P 0 < P (50 + 6 * s + 2) by omega)]; rfl))
theorem nI_sac {a b c : Nat} (h : b ≤ a + c) : nI a - nI b + nI c = nI (a + c - b) := by
  rw [← nI_sub h, ← nI_add, Int32.sub_eq_add_neg, Int32.sub_eq_add_neg, Int32.add_assoc, Int32.add_assoc, Int32.add_comm (-nI b)]
theorem neg_sac {a b c : Nat} (h : ¬ b ≤ a + c) (ha : a < 1000) (hb : b < 1000) (hc : c < 1000) : ¬ 0 ≤ nI a - nI b + nI c := by
  intro q
  have h1 := Int32.le_iff_toInt_le.mp q
  have h0 : (0 : Int32).toInt = 0 := by decide +kernel
  rw [Int32.toInt_add, Int32.toInt_sub, nI_toInt (by omega), nI_toInt (by omega), nI_toInt (by omega), h0] at h1
  rw [Int.bmod_eq_of_le (n := (a : Int) - b) (by omega) (by omega), Int.bmod_eq_of_le (by omega) (by omega)] at h1
  omega
set_option maxHeartbeats 200000 in
set_option maxRecDepth 100000 in
theorem m_recutOn {M : PH} {r : Nat} {P : Nat → Nat} (hM : PgAt M r P) (hI : Inv P) {m s c : Nat} (hm : m < P 6) (hs : s < P 7) (hc : c < P 5) (hw : canRecut P m s c) : Run iX11_recutOn [.ref r, .int (nI m), .int (nI s), .int (nI c)] M 0 0 (RV (.int (nI (recutF P s c))) (fun M1 => M1 = hput M r (.inl (0, 194, .inl (pg (recutP P m s c)))))) := by
  have hb := hI.b
  have hs9 := hI.s hs
  obtain ⟨hs1, hs2, -⟩ := id hs9
  have q1 := hI.c hc
  have q2 := hI.c hs1
  obtain ⟨hw1, hw2, hw3⟩ := hw
  refine Run.of (l0 := [some (.ref r), some (.int (nI m)), some (.int (nI s)), some (.int (nI c)), none, none]) (by decide +kernel) (Nat.le_of_ble_eq_true rfl) (by rfl) (fun Γ G C => ?_)
  refine pw_bipush_n (q := 2) C 50 dX11_recutOn_0 (by decide +kernel) rfl ?_
  refine pw_bipush_n (q := 4) C 6 dX11_recutOn_2 (by decide +kernel) rfl ?_
  refine pw_iload_n (q := 5) (j := 2) C dX11_recutOn_4 rfl rfl rfl ?_
  refine pw_imul_n (q := 6) C dX11_recutOn_5 rfl ?_
  refine pw_iadd_n (q := 7) C dX11_recutOn_6 rfl ?_
  refine pw_istore (q := 9) C dX11_recutOn_7 rfl (by decide) rfl ?_
  refine pw_aload_n (q := 10) (j := 0) C dX11_recutOn_9 rfl rfl rfl ?_
  refine pw_iload (q := 12) C dX11_recutOn_10 rfl rfl ?_
  refine pw_iconst_n (q := 13) C 2 dX11_recutOn_12 (by decide +kernel) rfl ?_
  refine pw_iadd_n (q := 14) C dX11_recutOn_13 rfl ?_
  refine pw_ipg (q := 15) C dX11_recutOn_14 (by first | exact hM | exact hput_at _ _ _) (by omega) (by omega) rfl ?_
  refine pw_aload_n (q := 16) (j := 0) C dX11_recutOn_15 rfl rfl rfl ?_
  refine pw_aload_n (q := 17) (j := 0) C dX11_recutOn_16 rfl rfl rfl ?_
  refine pw_iload (q := 19) C dX11_recutOn_17 rfl rfl ?_
  refine pw_ipg (q := 20) C dX11_recutOn_19 (by first | exact hM | exact hput_at _ _ _) (by omega) (by omega) rfl ?_
  refine pw_rd (q := 23) (cr_s (j := iX11_sizeOf) C dX11_recutOn_20 lX11_61 mX11_sizeOf (ro_mk (by decide) (by decide))  (m_size hM (by omega)) rfl rfl (Nat.le_of_ble_eq_true rfl) ⟨by omega, by omega⟩) rfl ?_
  refine pw_isub (q := 24) C dX11_recutOn_23 rfl ?_
  refine pw_aload_n (q := 25) (j := 0) C dX11_recutOn_24 rfl rfl rfl ?_
  refine pw_iload_n (q := 26) (j := 3) C dX11_recutOn_25 rfl rfl rfl ?_
  refine pw_rd (q := 29) (cr_s (j := iX11_sizeOf) C dX11_recutOn_26 lX11_61 mX11_sizeOf (ro_mk (by decide) (by decide))  (m_size hM (by omega)) rfl rfl (Nat.le_of_ble_eq_true rfl) ⟨by omega, by omega⟩) rfl ?_
  refine pw_iadd (q := 30) C dX11_recutOn_29 rfl ?_
  by_cases h3 : P (8 + 3 * P (50 + 6 * s)) ≤ P (50 + 6 * s + 2) + P (8 + 3 * c)
  · rw [nI_sac h3]
    refine pw_istore (q := 32) C dX11_recutOn_30 rfl (by decide) rfl ?_
    refine pw_aload_n (q := 33) (j := 0) C dX11_recutOn_32 rfl rfl rfl ?_
    refine pw_bipush_n (q := 35) C 26 dX11_recutOn_33 (by decide +kernel) rfl ?_
    refine pw_iconst_n (q := 36) C 4 dX11_recutOn_35 (by decide +kernel) rfl ?_
    refine pw_iload_n (q := 37) (j := 1) C dX11_recutOn_36 rfl rfl rfl ?_
    refine pw_imul_n (q := 38) C dX11_recutOn_37 rfl ?_
    refine pw_iadd_n (q := 39) C dX11_recutOn_38 rfl ?_
    refine pw_iconst_n (q := 40) C 2 dX11_recutOn_39 (by decide +kernel) rfl ?_
    refine pw_iadd_n (q := 41) C dX11_recutOn_40 rfl ?_
    refine pw_dup2 (q := 42) C dX11_recutOn_41 rfl rfl rfl ?_
    refine pw_ipg (q := 43) C dX11_recutOn_42 (by first | exact hM | exact hput_at _ _ _) (by omega) (by omega) rfl ?_
    refine pw_aload_n (q := 44) (j := 0) C dX11_recutOn_43 rfl rfl rfl ?_
    refine pw_iload_n (q := 45) (j := 3) C dX11_recutOn_44 rfl rfl rfl ?_
    refine pw_rd (q := 48) (cr_s (j := iX11_facesOf) C dX11_recutOn_45 lX11_51 mX11_facesOf (ro_mk (by decide) (by decide))  (m_faces hM (by omega)) rfl rfl (Nat.le_of_ble_eq_true rfl) ⟨by omega, by omega⟩) rfl ?_
    refine pw_iconst_n (q := 49) C 1 dX11_recutOn_48 (by decide +kernel) rfl ?_
    refine pw_iadd_n (q := 50) C dX11_recutOn_49 rfl ?_
    refine pw_iconst_n (q := 51) C 2 dX11_recutOn_50 (by decide +kernel) rfl ?_
    refine pw_idiv_n (q := 52) C dX11_recutOn_51 (by omega) (by omega) (by omega) rfl ?_
    refine pw_isub_n (q := 53) C dX11_recutOn_52 (by omega) rfl ?_
    refine pw_ipgst (q := 54) C dX11_recutOn_53 (by first | exact hM | exact hput_at _ _ _) (by omega) (by omega) rfl ?_
    refine pw_aload_n (q := 55) (j := 0) C dX11_recutOn_54 rfl rfl rfl ?_
    refine pw_iload (q := 57) C dX11_recutOn_55 rfl rfl ?_
    refine pw_iload_n (q := 58) (j := 3) C dX11_recutOn_57 rfl rfl rfl ?_
    refine pw_ipgst (q := 59) C dX11_recutOn_58 (by first | exact hM | exact hput_at _ _ _) (by omega) (by omega) rfl ?_
    refine pw_aload_n (q := 60) (j := 0) C dX11_recutOn_59 rfl rfl rfl ?_
    refine pw_iload (q := 62) C dX11_recutOn_60 rfl rfl ?_
    refine pw_iconst_n (q := 63) C 1 dX11_recutOn_62 (by decide +kernel) rfl ?_
    refine pw_iadd_n (q := 64) C dX11_recutOn_63 rfl ?_
    refine pw_iload_n (q := 65) (j := 1) C dX11_recutOn_64 rfl rfl rfl ?_
    refine pw_ipgst (q := 66) C dX11_recutOn_65 (by first | exact hM | exact hput_at _ _ _) (by omega) (by omega) rfl ?_
    refine pw_aload_n (q := 67) (j := 0) C dX11_recutOn_66 rfl rfl rfl ?_
    refine pw_iload (q := 69) C dX11_recutOn_67 rfl rfl ?_
    refine pw_iconst_n (q := 70) C 2 dX11_recutOn_69 (by decide +kernel) rfl ?_
    refine pw_iadd_n (q := 71) C dX11_recutOn_70 rfl ?_
    refine pw_iload (q := 73) C dX11_recutOn_71 rfl rfl ?_
    refine pw_if_ge (q := 76) 80 C dX11_recutOn_73 (by decide) rfl (fun g73 => ?_) (fun g73 => absurd (nI_pos' (by omega)) g73)
    refine pw_iload (q := 82) C dX11_recutOn_80 rfl rfl ?_
    refine pw_ipgst (q := 83) C dX11_recutOn_82 (by first | exact hM | exact hput_at _ _ _) (by omega) (by omega) rfl ?_
    refine pw_aload_n (q := 84) (j := 0) C dX11_recutOn_83 rfl rfl rfl ?_
    refine pw_iload (q := 86) C dX11_recutOn_84 rfl rfl ?_
    refine pw_iconst_n (q := 87) C 3 dX11_recutOn_86 (by decide +kernel) rfl ?_
    refine pw_iadd_n (q := 88) C dX11_recutOn_87 rfl ?_
    refine pw_iconst_n (q := 89) C 0 dX11_recutOn_88 (by decide +kernel) rfl ?_
    refine pw_ipgst (q := 90) C dX11_recutOn_89 (by first | exact hM | exact hput_at _ _ _) (by omega) (by omega) rfl ?_
    refine pw_aload_n (q := 91) (j := 0) C dX11_recutOn_90 rfl rfl rfl ?_
    refine pw_iload (q := 93) C dX11_recutOn_91 rfl rfl ?_
    refine pw_iconst_n (q := 94) C 4 dX11_recutOn_93 (by decide +kernel) rfl ?_
    refine pw_iadd_n (q := 95) C dX11_recutOn_94 rfl ?_
    refine pw_dup2 (q := 96) C dX11_recutOn_95 rfl rfl rfl ?_
    refine pw_ipg (q := 97) C dX11_recutOn_96 (by first | exact hM | exact hput_at _ _ _) (by omega) (by omega) rfl ?_
    rw [updN_ne (show 50 + 6 * s + 4 ≠ 50 + 6 * s + 3 by omega), updN_ne (show 50 + 6 * s + 4 ≠ 50 + 6 * s + 2 by omega), updN_ne (show 50 + 6 * s + 4 ≠ 50 + 6 * s + 1 by omega), updN_ne (show 50 + 6 * s + 4 ≠ 50 + 6 * s by omega), updN_ne (show 50 + 6 * s + 4 ≠ 26 + 4 * m + 2 by omega)]
    refine pw_iconst_n (q := 98) C 1 dX11_recutOn_97 (by decide +kernel) rfl ?_
    refine pw_iadd_n (q := 99) C dX11_recutOn_98 rfl ?_
    refine pw_ipgst (q := 100) C dX11_recutOn_99 (by first | exact hM | exact hput_at _ _ _) (by omega) (by omega) rfl ?_
    refine pw_aload_n (q := 101) (j := 0) C dX11_recutOn_100 rfl rfl rfl ?_
    refine pw_iload (q := 103) C dX11_recutOn_101 rfl rfl ?_
    refine pw_iconst_n (q := 104) C 2 dX11_recutOn_103 (by decide +kernel) rfl ?_
    refine pw_iadd_n (q := 105) C dX11_recutOn_104 rfl ?_
    refine pw_ipg (q := 106) C dX11_recutOn_105 (by first | exact hM | exact hput_at _ _ _) (by omega) (by omega) rfl ?_
    rw [updN_ne (show 50 + 6 * s + 2 ≠ 50 + 6 * s + 4 by omega), updN_ne (show 50 + 6 * s + 2 ≠ 50 + 6 * s + 3 by omega), updN_at]
    exact pw_iret C dX11_recutOn_106 rfl ⟨by omega, by omega⟩ (RV.mk (vnI (by unfold recutF; omega)) (by simp only [hput2]; rw [show P (50 + 6 * s + 2) + P (8 + 3 * c) - P (8 + 3 * P (50 + 6 * s)) = recutF P s c by unfold recutF; omega]; rfl))
  · refine pw_istore (q := 32) C dX11_recutOn_30 rfl (by decide) rfl ?_
    refine pw_aload_n (q := 33) (j := 0) C dX11_recutOn_32 rfl rfl rfl ?_
    refine pw_bipush_n (q := 35) C 26 dX11_recutOn_33 (by decide +kernel) rfl ?_
    refine pw_iconst_n (q := 36) C 4 dX11_recutOn_35 (by decide +kernel) rfl ?_
    refine pw_iload_n (q := 37) (j := 1) C dX11_recutOn_36 rfl rfl rfl ?_
    refine pw_imul_n (q := 38) C dX11_recutOn_37 rfl ?_
    refine pw_iadd_n (q := 39) C dX11_recutOn_38 rfl ?_
    refine pw_iconst_n (q := 40) C 2 dX11_recutOn_39 (by decide +kernel) rfl ?_
    refine pw_iadd_n (q := 41) C dX11_recutOn_40 rfl ?_
    refine pw_dup2 (q := 42) C dX11_recutOn_41 rfl rfl rfl ?_
    refine pw_ipg (q := 43) C dX11_recutOn_42 (by first | exact hM | exact hput_at _ _ _) (by omega) (by omega) rfl ?_
    refine pw_aload_n (q := 44) (j := 0) C dX11_recutOn_43 rfl rfl rfl ?_
    refine pw_iload_n (q := 45) (j := 3) C dX11_recutOn_44 rfl rfl rfl ?_
    refine pw_rd (q := 48) (cr_s (j := iX11_facesOf) C dX11_recutOn_45 lX11_51 mX11_facesOf (ro_mk (by decide) (by decide))  (m_faces hM (by omega)) rfl rfl (Nat.le_of_ble_eq_true rfl) ⟨by omega, by omega⟩) rfl ?_
    refine pw_iconst_n (q := 49) C 1 dX11_recutOn_48 (by decide +kernel) rfl ?_
    refine pw_iadd_n (q := 50) C dX11_recutOn_49 rfl ?_
    refine pw_iconst_n (q := 51) C 2 dX11_recutOn_50 (by decide +kernel) rfl ?_
    refine pw_idiv_n (q := 52) C dX11_recutOn_51 (by omega) (by omega) (by omega) rfl ?_
    refine pw_isub_n (q := 53) C dX11_recutOn_52 (by omega) rfl ?_
    refine pw_ipgst (q := 54) C dX11_recutOn_53 (by first | exact hM | exact hput_at _ _ _) (by omega) (by omega) rfl ?_
    refine pw_aload_n (q := 55) (j := 0) C dX11_recutOn_54 rfl rfl rfl ?_
    refine pw_iload (q := 57) C dX11_recutOn_55 rfl rfl ?_
    refine pw_iload_n (q := 58) (j := 3) C dX11_recutOn_57 rfl rfl rfl ?_
    refine pw_ipgst (q := 59) C dX11_recutOn_58 (by first | exact hM | exact hput_at _ _ _) (by omega) (by omega) rfl ?_
    refine pw_aload_n (q := 60) (j := 0) C dX11_recutOn_59 rfl rfl rfl ?_
    refine pw_iload (q := 62) C dX11_recutOn_60 rfl rfl ?_
    refine pw_iconst_n (q := 63) C 1 dX11_recutOn_62 (by decide +kernel) rfl ?_
    refine pw_iadd_n (q := 64) C dX11_recutOn_63 rfl ?_
    refine pw_iload_n (q := 65) (j := 1) C dX11_recutOn_64 rfl rfl rfl ?_
    refine pw_ipgst (q := 66) C dX11_recutOn_65 (by first | exact hM | exact hput_at _ _ _) (by omega) (by omega) rfl ?_
    refine pw_aload_n (q := 67) (j := 0) C dX11_recutOn_66 rfl rfl rfl ?_
    refine pw_iload (q := 69) C dX11_recutOn_67 rfl rfl ?_
    refine pw_iconst_n (q := 70) C 2 dX11_recutOn_69 (by decide +kernel) rfl ?_
    refine pw_iadd_n (q := 71) C dX11_recutOn_70 rfl ?_
    refine pw_iload (q := 73) C dX11_recutOn_71 rfl rfl ?_
    refine pw_if_ge (q := 76) 80 C dX11_recutOn_73 (by decide) rfl (fun g73 => absurd g73 (neg_sac h3 (by omega) (by omega) (by omega))) (fun g73 => ?_)
    refine pw_iconst_n (q := 77) C 0 dX11_recutOn_76 (by decide +kernel) rfl ?_
    refine pw_goto (q := 0) 82 C dX11_recutOn_77 (by decide) ?_
    refine pw_ipgst (q := 83) C dX11_recutOn_82 (by first | exact hM | exact hput_at _ _ _) (by omega) (by omega) rfl ?_
    refine pw_aload_n (q := 84) (j := 0) C dX11_recutOn_83 rfl rfl rfl ?_
    refine pw_iload (q := 86) C dX11_recutOn_84 rfl rfl ?_
    refine pw_iconst_n (q := 87) C 3 dX11_recutOn_86 (by decide +kernel) rfl ?_
    refine pw_iadd_n (q := 88) C dX11_recutOn_87 rfl ?_
    refine pw_iconst_n (q := 89) C 0 dX11_recutOn_88 (by decide +kernel) rfl ?_
    refine pw_ipgst (q := 90) C dX11_recutOn_89 (by first | exact hM | exact hput_at _ _ _) (by omega) (by omega) rfl ?_
    refine pw_aload_n (q := 91) (j := 0) C dX11_recutOn_90 rfl rfl rfl ?_
    refine pw_iload (q := 93) C dX11_recutOn_91 rfl rfl ?_
    refine pw_iconst_n (q := 94) C 4 dX11_recutOn_93 (by decide +kernel) rfl ?_
    refine pw_iadd_n (q := 95) C dX11_recutOn_94 rfl ?_
    refine pw_dup2 (q := 96) C dX11_recutOn_95 rfl rfl rfl ?_
    refine pw_ipg (q := 97) C dX11_recutOn_96 (by first | exact hM | exact hput_at _ _ _) (by omega) (by omega) rfl ?_
    rw [updN_ne (show 50 + 6 * s + 4 ≠ 50 + 6 * s + 3 by omega), updN_ne (show 50 + 6 * s + 4 ≠ 50 + 6 * s + 2 by omega), updN_ne (show 50 + 6 * s + 4 ≠ 50 + 6 * s + 1 by omega), updN_ne (show 50 + 6 * s + 4 ≠ 50 + 6 * s by omega), updN_ne (show 50 + 6 * s + 4 ≠ 26 + 4 * m + 2 by omega)]
    refine pw_iconst_n (q := 98) C 1 dX11_recutOn_97 (by decide +kernel) rfl ?_
    refine pw_iadd_n (q := 99) C dX11_recutOn_98 rfl ?_
    refine pw_ipgst (q := 100) C dX11_recutOn_99 (by first | exact hM | exact hput_at _ _ _) (by omega) (by omega) rfl ?_
    refine pw_aload_n (q := 101) (j := 0) C dX11_recutOn_100 rfl rfl rfl ?_
    refine pw_iload (q := 103) C dX11_recutOn_101 rfl rfl ?_
    refine pw_iconst_n (q := 104) C 2 dX11_recutOn_103 (by decide +kernel) rfl ?_
    refine pw_iadd_n (q := 105) C dX11_recutOn_104 rfl ?_
    refine pw_ipg (q := 106) C dX11_recutOn_105 (by first | exact hM | exact hput_at _ _ _) (by omega) (by omega) rfl ?_
    rw [updN_ne (show 50 + 6 * s + 2 ≠ 50 + 6 * s + 4 by omega), updN_ne (show 50 + 6 * s + 2 ≠ 50 + 6 * s + 3 by omega), updN_at]
    exact pw_iret C dX11_recutOn_106 rfl ⟨by omega, by omega⟩ (RV.mk (vnI (by unfold recutF; omega)) (by simp only [hput2]; unfold recutP; rw [show recutF P s c = 0 by unfold recutF; omega]))
theorem why_v {P : Nat → Nat} {s b : Nat} (h1 : P (50 + 6 * s + 3) = 1) (h2 : P 2 = 0) (hno : ∀ j, j < b → P (8 + 3 * j + 2) ≤ cntC P j 3) (hb : b ≤ P (50 + 6 * s)) (hc : P (50 + 6 * s) < P 5) :
    (b < P (50 + 6 * s) → ¬ P (8 + 3 * b + 2) ≤ cntC P b 3 → why P s = 3) ∧ (b = P (50 + 6 * s) → (P (8 + 3 * b + 2) ≤ cntC P b 3 → why P s = 4) ∧ (¬ P (8 + 3 * b + 2) ≤ cntC P b 3 → why P s = 0)) := by
  refine ⟨fun h3 h4 => ?_, fun h3 => ⟨fun h4 => ?_, fun h4 => ?_⟩⟩
  · have e : compl P = b := fst_eq (p := fun c => ¬ P (8 + 3 * c + 2) ≤ cntC P c 3) (by omega) h4 (fun j hj q => q (hno j hj))
    unfold why
    rw [if_neg (by omega), if_neg (by omega), if_pos (by omega)]
  · have e : P (50 + 6 * s) < compl P := by
      refine Nat.lt_of_not_le (fun q => ?_)
      have h5 := fst_yes (p := fun c => ¬ P (8 + 3 * c + 2) ≤ cntC P c 3) (n := P 5) (show compl P < P 5 by omega)
      have h6 : fst (fun c => ¬ P (8 + 3 * c + 2) ≤ cntC P c 3) (P 5) = compl P := rfl
      rw [h6] at h5
      by_cases h7 : compl P = b
      · rw [h7] at h5; exact h5 h4
      · exact h5 (hno _ (by omega))
    unfold why
    rw [if_neg (by omega), if_neg (by omega), if_neg (by omega), if_pos (by omega)]
  · have e : compl P = b := fst_eq (p := fun c => ¬ P (8 + 3 * c + 2) ≤ cntC P c 3) (by omega) h4 (fun j hj q => q (hno j hj))
    unfold why
    rw [if_neg (by omega), if_neg (by omega), if_neg (by omega), if_neg (by omega)]
set_option maxHeartbeats 200000 in
set_option maxRecDepth 100000 in
theorem m_why {M : PH} {r : Nat} {P : Nat → Nat} (hM : PgAt M r P) (hI : Inv P) {s : Nat} (hs : s < P 7) : Run iX11_why [.ref r, .int (nI s)] M 0 0 (RV (.int (nI (why P s))) (fun M1 => M1 = M)) := by
  have hb := hI.b
  have hs9 := hI.s hs
  obtain ⟨hs1, hs2, -⟩ := id hs9
  refine Run.of (l0 := [some (.ref r), some (.int (nI s)), none, none]) (by decide +kernel) (Nat.le_of_ble_eq_true rfl) (by rfl) (fun Γ G C => ?_)
  have loop : ∀ (d b : Nat), b + d = P (50 + 6 * s) → P (50 + 6 * s + 3) = 1 → P 2 = 0 → (∀ j, j < b → P (8 + 3 * j + 2) ≤ cntC P j 3) → PW Γ G (ZJ Γ G 0 0 (RV (.int (nI (why P s))) (fun M1 => M1 = M))) 38 [some (.ref r), some (.int (nI s)), some (.int (nI (P (50 + 6 * s)))), some (.int (nI b))] [] M 0 0 := by
    intro d
    induction d with
    | zero =>
      intro b hd
      intro h1 h2 hno
      have hy := why_v h1 h2 hno (by omega) hs1
      refine pw_iload_n (q := 39) (j := 3) C dX11_why_38 rfl rfl rfl ?_
      refine pw_iload_n (q := 40) (j := 2) C dX11_why_39 rfl rfl rfl ?_
      refine pw_icmp_ge_n (q := 43) 59 C dX11_why_40 (by decide) rfl (by omega) (by omega) (fun g40 => ?_) (fun g40 => absurd g40 (by omega))
      refine pw_aload_n (q := 60) (j := 0) C dX11_why_59 rfl rfl rfl ?_
      refine pw_iload_n (q := 61) (j := 2) C dX11_why_60 rfl rfl rfl ?_
      refine pw_rd (q := 64) (cr_s (j := iX11_isComplete) C dX11_why_61 lX11_64 mX11_isComplete (ro_mk (by decide) (by decide))  (m_isComplete hM hI hs1) rfl rfl (Nat.le_of_ble_eq_true rfl) ⟨by omega, by omega⟩) rfl ?_
      refine pw_if_eq_b (q := 67) 71 C dX11_why_64 (by decide) rfl (fun g64 => ?_) (fun g64 => ?_)
      · refine pw_iconst_n (q := 72) C 0 dX11_why_71 (by decide +kernel) rfl ?_
        exact pw_iret C dX11_why_72 rfl ⟨by omega, by omega⟩ (RV.mk (vnI ((hy.2 (by omega)).2 (by rw [show b = P (50 + 6 * s) by omega]; exact g64)).symm) rfl)
      · refine pw_iconst_n (q := 68) C 4 dX11_why_67 (by decide +kernel) rfl ?_
        refine pw_goto (q := 0) 72 C dX11_why_68 (by decide) ?_
        exact pw_iret C dX11_why_72 rfl ⟨by omega, by omega⟩ (RV.mk (vnI ((hy.2 (by omega)).1 (by rw [show b = P (50 + 6 * s) by omega]; exact g64)).symm) rfl)
    | succ d ih =>
      intro b hd
      intro h1 h2 hno
      have hy := why_v h1 h2 hno (by omega) hs1
      refine pw_iload_n (q := 39) (j := 3) C dX11_why_38 rfl rfl rfl ?_
      refine pw_iload_n (q := 40) (j := 2) C dX11_why_39 rfl rfl rfl ?_
      refine pw_icmp_ge_n (q := 43) 59 C dX11_why_40 (by decide) rfl (by omega) (by omega) (fun g40 => absurd g40 (by omega)) (fun g40 => ?_)
      refine pw_aload_n (q := 44) (j := 0) C dX11_why_43 rfl rfl rfl ?_
      refine pw_iload_n (q := 45) (j := 3) C dX11_why_44 rfl rfl rfl ?_
      refine pw_rd (q := 48) (cr_s (j := iX11_isComplete) C dX11_why_45 lX11_64 mX11_isComplete (ro_mk (by decide) (by decide))  (m_isComplete hM hI (by omega)) rfl rfl (Nat.le_of_ble_eq_true rfl) ⟨by omega, by omega⟩) rfl ?_
      refine pw_if_ne_b (q := 51) 53 C dX11_why_48 (by decide) rfl (fun g48 => ?_) (fun g48 => ?_)
      · refine pw_iinc_n (q := 56) C 1 dX11_why_53 rfl (by decide +kernel) rfl (by decide) rfl ?_
        refine pw_goto (q := 0) 38 C dX11_why_56 (by decide) ?_
        exact ih (b + 1) (by omega) h1 h2 (fun j hj => (Nat.lt_or_eq_of_le (Nat.le_of_lt_succ hj)).elim (hno j) (fun e => by rw [e]; exact g48))
      · refine pw_iconst_n (q := 52) C 3 dX11_why_51 (by decide +kernel) rfl ?_
        exact pw_iret C dX11_why_52 rfl ⟨by omega, by omega⟩ (RV.mk (vnI (hy.1 (by omega) g48).symm) rfl)
  refine pw_aload_n (q := 1) (j := 0) C dX11_why_0 rfl rfl rfl ?_
  refine pw_bipush_n (q := 3) C 50 dX11_why_1 (by decide +kernel) rfl ?_
  refine pw_bipush_n (q := 5) C 6 dX11_why_3 (by decide +kernel) rfl ?_
  refine pw_iload_n (q := 6) (j := 1) C dX11_why_5 rfl rfl rfl ?_
  refine pw_imul_n (q := 7) C dX11_why_6 rfl ?_
  refine pw_iadd_n (q := 8) C dX11_why_7 rfl ?_
  refine pw_ipg (q := 9) C dX11_why_8 hM (by omega) (by omega) rfl ?_
  refine pw_istore_n (q := 10) (j := 2) C dX11_why_9 rfl rfl (by decide) rfl ?_
  refine pw_aload_n (q := 11) (j := 0) C dX11_why_10 rfl rfl rfl ?_
  refine pw_bipush_n (q := 13) C 50 dX11_why_11 (by decide +kernel) rfl ?_
  refine pw_bipush_n (q := 15) C 6 dX11_why_13 (by decide +kernel) rfl ?_
  refine pw_iload_n (q := 16) (j := 1) C dX11_why_15 rfl rfl rfl ?_
  refine pw_imul_n (q := 17) C dX11_why_16 rfl ?_
  refine pw_iadd_n (q := 18) C dX11_why_17 rfl ?_
  refine pw_iconst_n (q := 19) C 3 dX11_why_18 (by decide +kernel) rfl ?_
  refine pw_iadd_n (q := 20) C dX11_why_19 rfl ?_
  refine pw_ipg (q := 21) C dX11_why_20 hM (by omega) (by omega) rfl ?_
  refine pw_iconst_n (q := 22) C 1 dX11_why_21 (by decide +kernel) rfl ?_
  refine pw_icmp_eq_n (q := 25) 27 C dX11_why_22 (by decide) rfl (by omega) (by omega) (fun g22 => ?_) (fun g22 => ?_)
  · refine pw_aload_n (q := 28) (j := 0) C dX11_why_27 rfl rfl rfl ?_
    refine pw_iconst_n (q := 29) C 2 dX11_why_28 (by decide +kernel) rfl ?_
    refine pw_ipg (q := 30) C dX11_why_29 hM (by omega) (by omega) rfl ?_
    refine pw_iconst_n (q := 31) C 1 dX11_why_30 (by decide +kernel) rfl ?_
    refine pw_icmp_ne_n (q := 34) 36 C dX11_why_31 (by decide) rfl (by omega) (by omega) (fun g31 => ?_) (fun g31 => ?_)
    · refine pw_iconst_n (q := 37) C 0 dX11_why_36 (by decide +kernel) rfl ?_
      refine pw_istore_n (q := 38) (j := 3) C dX11_why_37 rfl rfl (by decide) rfl ?_
      exact loop (P (50 + 6 * s)) 0 (by omega) g22 (by omega) (fun j hj => absurd hj (Nat.not_lt_zero j))
    · refine pw_iconst_n (q := 35) C 2 dX11_why_34 (by decide +kernel) rfl ?_
      exact pw_iret C dX11_why_35 rfl ⟨by omega, by omega⟩ (RV.mk (vnI (by unfold why; rw [if_neg (by omega), if_pos (by omega)])) rfl)
  · refine pw_iconst_n (q := 26) C 1 dX11_why_25 (by decide +kernel) rfl ?_
    exact pw_iret C dX11_why_26 rfl ⟨by omega, by omega⟩ (RV.mk (vnI (by unfold why; rw [if_pos (by omega)])) rfl)
theorem dayAt_0 (P : Nat → Nat) (fr : Nat) : updN (updN (updN P 1 (P 1 + 1)) 2 fr) 4 (P 4 + fr) = dayAt P fr 0 := by
  funext k
  simp only [updN, dayAt]
  grind
theorem dayAt_succ1 (P : Nat → Nat) (m : Nat) : updN (updN (dayAt P 1 m) (26 + 4 * m + 2) 0) (26 + 4 * m + 3) (P (26 + 4 * m + 3) + 2 * P (26 + 4 * m)) = dayAt P 1 (m + 1) := by
  funext k
  simp only [updN, dayAt, if_pos]
  grind
theorem dayAt_succ0 (P : Nat → Nat) (fr m : Nat) (h : ¬ fr = 1) : updN (updN (dayAt P fr m) (26 + 4 * m + 2) (P (26 + 4 * m + 1))) (26 + 4 * m + 3) (P (26 + 4 * m + 3) + 0) = dayAt P fr (m + 1) := by
  funext k
  simp only [updN, dayAt, if_neg h]
  grind
theorem dayAt_far {P : Nat → Nat} {fr m k : Nat} (h : k ≠ 1 ∧ k ≠ 2 ∧ k ≠ 4) (h1 : k < 26 ∨ 26 + 4 * m ≤ k ∨ (k - 26) % 4 < 2) : dayAt P fr m k = P k := by
  unfold dayAt
  rw [if_neg h.1, if_neg h.2.1, if_neg h.2.2, if_neg (by omega), if_neg (by omega)]
set_option maxHeartbeats 200000 in
set_option maxRecDepth 100000 in
theorem m_dayOn {M : PH} {r : Nat} {P : Nat → Nat} (hM : PgAt M r P) (hI : Inv P) {fr : Nat} (hfr : fr ≤ 1) : Run iX11_dayOn [.ref r, .int (nI fr)] M 0 0 (RV (.int (nI (P 1 + 1))) (fun M1 => M1 = hput M r (.inl (0, 194, .inl (pg (dayP P fr)))))) := by
  have hb := hI.b
  refine Run.of (l0 := [some (.ref r), some (.int (nI fr)), none, none]) (by decide +kernel) (Nat.le_of_ble_eq_true rfl) (by rfl) (fun Γ G C => ?_)
  have loop : ∀ (d m : Nat), m + d = P 6 → ∀ x3 : Option Value, PW Γ G (ZJ Γ G 0 0 (RV (.int (nI (P 1 + 1))) (fun M1 => M1 = hput M r (.inl (0, 194, .inl (pg (dayP P fr))))))) 20 [some (.ref r), some (.int (nI fr)), some (.int (nI m)), x3] [] (hput M r (.inl (0, 194, .inl (pg (dayAt P fr m))))) 0 0 := by
    intro d
    induction d with
    | zero =>
      intro m hd
      intro x3
      have p6 : dayAt P fr m 6 = P 6 := dayAt_far (by omega) (by omega)
      refine pw_iload_n (q := 21) (j := 2) C dX11_dayOn_20 rfl rfl rfl ?_
      refine pw_aload_n (q := 22) (j := 0) C dX11_dayOn_21 rfl rfl rfl ?_
      refine pw_bipush_n (q := 24) C 6 dX11_dayOn_22 (by decide +kernel) rfl ?_
      refine pw_ipg (q := 25) C dX11_dayOn_24 (by first | exact hM | exact hput_at _ _ _) (by omega) (by omega) rfl ?_
      rw [p6]
      refine pw_icmp_ge_n (q := 28) 82 C dX11_dayOn_25 (by decide) rfl (by omega) (by omega) (fun g25 => ?_) (fun g25 => absurd g25 (by omega))
      refine pw_aload_n (q := 83) (j := 0) C dX11_dayOn_82 rfl rfl rfl ?_
      refine pw_iconst_n (q := 84) C 1 dX11_dayOn_83 (by decide +kernel) rfl ?_
      refine pw_ipg (q := 85) C dX11_dayOn_84 (by first | exact hM | exact hput_at _ _ _) (by omega) (by omega) rfl ?_
      exact pw_iret C dX11_dayOn_85 rfl ⟨by omega, by omega⟩ (RV.mk (by rfl) (by rw [show m = P 6 by omega]; rfl))
    | succ d ih =>
      intro m hd
      intro x3
      have p6 : dayAt P fr m 6 = P 6 := dayAt_far (by omega) (by omega)
      refine pw_iload_n (q := 21) (j := 2) C dX11_dayOn_20 rfl rfl rfl ?_
      refine pw_aload_n (q := 22) (j := 0) C dX11_dayOn_21 rfl rfl rfl ?_
      refine pw_bipush_n (q := 24) C 6 dX11_dayOn_22 (by decide +kernel) rfl ?_
      refine pw_ipg (q := 25) C dX11_dayOn_24 (by first | exact hM | exact hput_at _ _ _) (by omega) (by omega) rfl ?_
      rw [p6]
      refine pw_icmp_ge_n (q := 28) 82 C dX11_dayOn_25 (by decide) rfl (by omega) (by omega) (fun g25 => absurd g25 (by omega)) (fun g25 => ?_)
      refine pw_bipush_n (q := 30) C 26 dX11_dayOn_28 (by decide +kernel) rfl ?_
      refine pw_iconst_n (q := 31) C 4 dX11_dayOn_30 (by decide +kernel) rfl ?_
      refine pw_iload_n (q := 32) (j := 2) C dX11_dayOn_31 rfl rfl rfl ?_
      refine pw_imul_n (q := 33) C dX11_dayOn_32 rfl ?_
      refine pw_iadd_n (q := 34) C dX11_dayOn_33 rfl ?_
      refine pw_istore_n (q := 35) (j := 3) C dX11_dayOn_34 rfl rfl (by decide) rfl ?_
      refine pw_aload_n (q := 36) (j := 0) C dX11_dayOn_35 rfl rfl rfl ?_
      refine pw_iload_n (q := 37) (j := 3) C dX11_dayOn_36 rfl rfl rfl ?_
      refine pw_iconst_n (q := 38) C 2 dX11_dayOn_37 (by decide +kernel) rfl ?_
      refine pw_iadd_n (q := 39) C dX11_dayOn_38 rfl ?_
      refine pw_iload_n (q := 40) (j := 1) C dX11_dayOn_39 rfl rfl rfl ?_
      refine pw_iconst_n (q := 41) C 1 dX11_dayOn_40 (by decide +kernel) rfl ?_
      refine pw_icmp_ne_n (q := 44) 48 C dX11_dayOn_41 (by decide) rfl (by omega) (by omega) (fun g41 => ?_) (fun g41 => ?_)
      · refine pw_aload_n (q := 49) (j := 0) C dX11_dayOn_48 rfl rfl rfl ?_
        refine pw_iload_n (q := 50) (j := 3) C dX11_dayOn_49 rfl rfl rfl ?_
        refine pw_iconst_n (q := 51) C 1 dX11_dayOn_50 (by decide +kernel) rfl ?_
        refine pw_iadd_n (q := 52) C dX11_dayOn_51 rfl ?_
        refine pw_ipg (q := 53) C dX11_dayOn_52 (by first | exact hM | exact hput_at _ _ _) (by omega) (by omega) rfl ?_
        rw [dayAt_far (P := P) (fr := fr) (m := m) (k := 26 + 4 * m + 1) (by omega) (by omega)]
        refine pw_ipgst (q := 54) C dX11_dayOn_53 (by first | exact hM | exact hput_at _ _ _) (by omega) (by omega) rfl ?_
        refine pw_aload_n (q := 55) (j := 0) C dX11_dayOn_54 rfl rfl rfl ?_
        refine pw_iload_n (q := 56) (j := 3) C dX11_dayOn_55 rfl rfl rfl ?_
        refine pw_iconst_n (q := 57) C 3 dX11_dayOn_56 (by decide +kernel) rfl ?_
        refine pw_iadd_n (q := 58) C dX11_dayOn_57 rfl ?_
        refine pw_dup2 (q := 59) C dX11_dayOn_58 rfl rfl rfl ?_
        refine pw_ipg (q := 60) C dX11_dayOn_59 (by first | exact hM | exact hput_at _ _ _) (by omega) (by omega) rfl ?_
        rw [updN_ne (show 26 + 4 * m + 3 ≠ 26 + 4 * m + 2 by omega), dayAt_far (P := P) (fr := fr) (m := m) (k := 26 + 4 * m + 3) (by omega) (by omega)]
        refine pw_iload_n (q := 61) (j := 1) C dX11_dayOn_60 rfl rfl rfl ?_
        refine pw_iconst_n (q := 62) C 1 dX11_dayOn_61 (by decide +kernel) rfl ?_
        refine pw_icmp_ne_n (q := 65) 73 C dX11_dayOn_62 (by decide) rfl (by omega) (by omega) (fun g62 => ?_) (fun g62 => absurd g62 (fun q => g41 q))
        refine pw_iconst_n (q := 74) C 0 dX11_dayOn_73 (by decide +kernel) rfl ?_
        refine pw_iadd_n (q := 75) C dX11_dayOn_74 rfl ?_
        refine pw_ipgst (q := 76) C dX11_dayOn_75 (by first | exact hM | exact hput_at _ _ _) (by omega) (by omega) rfl ?_
        refine pw_iinc_n (q := 79) C 1 dX11_dayOn_76 rfl (by decide +kernel) rfl (by decide) rfl ?_
        refine pw_goto (q := 0) 20 C dX11_dayOn_79 (by decide) ?_
        simp only [hput2]
        rw [dayAt_succ0 P fr m g41]
        exact ih (m + 1) (by omega) _
      · refine pw_iconst_n (q := 45) C 0 dX11_dayOn_44 (by decide +kernel) rfl ?_
        refine pw_goto (q := 0) 53 C dX11_dayOn_45 (by decide) ?_
        refine pw_ipgst (q := 54) C dX11_dayOn_53 (by first | exact hM | exact hput_at _ _ _) (by omega) (by omega) rfl ?_
        refine pw_aload_n (q := 55) (j := 0) C dX11_dayOn_54 rfl rfl rfl ?_
        refine pw_iload_n (q := 56) (j := 3) C dX11_dayOn_55 rfl rfl rfl ?_
        refine pw_iconst_n (q := 57) C 3 dX11_dayOn_56 (by decide +kernel) rfl ?_
        refine pw_iadd_n (q := 58) C dX11_dayOn_57 rfl ?_
        refine pw_dup2 (q := 59) C dX11_dayOn_58 rfl rfl rfl ?_
        refine pw_ipg (q := 60) C dX11_dayOn_59 (by first | exact hM | exact hput_at _ _ _) (by omega) (by omega) rfl ?_
        rw [updN_ne (show 26 + 4 * m + 3 ≠ 26 + 4 * m + 2 by omega), dayAt_far (P := P) (fr := fr) (m := m) (k := 26 + 4 * m + 3) (by omega) (by omega)]
        refine pw_iload_n (q := 61) (j := 1) C dX11_dayOn_60 rfl rfl rfl ?_
        refine pw_iconst_n (q := 62) C 1 dX11_dayOn_61 (by decide +kernel) rfl ?_
        refine pw_icmp_ne_n (q := 65) 73 C dX11_dayOn_62 (by decide) rfl (by omega) (by omega) (fun g62 => absurd g62 (fun q => q g41)) (fun g62 => ?_)
        refine pw_iconst_n (q := 66) C 2 dX11_dayOn_65 (by decide +kernel) rfl ?_
        refine pw_aload_n (q := 67) (j := 0) C dX11_dayOn_66 rfl rfl rfl ?_
        refine pw_iload_n (q := 68) (j := 3) C dX11_dayOn_67 rfl rfl rfl ?_
        refine pw_ipg (q := 69) C dX11_dayOn_68 (by first | exact hM | exact hput_at _ _ _) (by omega) (by omega) rfl ?_
        rw [updN_ne (show 26 + 4 * m ≠ 26 + 4 * m + 2 by omega), dayAt_far (P := P) (fr := fr) (m := m) (k := 26 + 4 * m) (by omega) (by omega)]
        refine pw_imul_n (q := 70) C dX11_dayOn_69 rfl ?_
        refine pw_goto (q := 0) 74 C dX11_dayOn_70 (by decide) ?_
        refine pw_iadd_n (q := 75) C dX11_dayOn_74 rfl ?_
        refine pw_ipgst (q := 76) C dX11_dayOn_75 (by first | exact hM | exact hput_at _ _ _) (by omega) (by omega) rfl ?_
        refine pw_iinc_n (q := 79) C 1 dX11_dayOn_76 rfl (by decide +kernel) rfl (by decide) rfl ?_
        refine pw_goto (q := 0) 20 C dX11_dayOn_79 (by decide) ?_
        simp only [hput2]
        have e1 : fr = 1 := g41
        subst e1
        rw [dayAt_succ1 P m]
        exact ih (m + 1) (by omega) _
  refine pw_aload_n (q := 1) (j := 0) C dX11_dayOn_0 rfl rfl rfl ?_
  refine pw_iconst_n (q := 2) C 1 dX11_dayOn_1 (by decide +kernel) rfl ?_
  refine pw_dup2 (q := 3) C dX11_dayOn_2 rfl rfl rfl ?_
  refine pw_ipg (q := 4) C dX11_dayOn_3 (by first | exact hM | exact hput_at _ _ _) (by omega) (by omega) rfl ?_
  refine pw_iconst_n (q := 5) C 1 dX11_dayOn_4 (by decide +kernel) rfl ?_
  refine pw_iadd_n (q := 6) C dX11_dayOn_5 rfl ?_
  refine pw_ipgst (q := 7) C dX11_dayOn_6 (by first | exact hM | exact hput_at _ _ _) (by omega) (by omega) rfl ?_
  refine pw_aload_n (q := 8) (j := 0) C dX11_dayOn_7 rfl rfl rfl ?_
  refine pw_iconst_n (q := 9) C 2 dX11_dayOn_8 (by decide +kernel) rfl ?_
  refine pw_iload_n (q := 10) (j := 1) C dX11_dayOn_9 rfl rfl rfl ?_
  refine pw_ipgst (q := 11) C dX11_dayOn_10 (by first | exact hM | exact hput_at _ _ _) (by omega) (by omega) rfl ?_
  refine pw_aload_n (q := 12) (j := 0) C dX11_dayOn_11 rfl rfl rfl ?_
  refine pw_iconst_n (q := 13) C 4 dX11_dayOn_12 (by decide +kernel) rfl ?_
  refine pw_dup2 (q := 14) C dX11_dayOn_13 rfl rfl rfl ?_
  refine pw_ipg (q := 15) C dX11_dayOn_14 (by first | exact hM | exact hput_at _ _ _) (by omega) (by omega) rfl ?_
  refine pw_iload_n (q := 16) (j := 1) C dX11_dayOn_15 rfl rfl rfl ?_
  rw [updN_ne (show 4 ≠ 2 by omega), updN_ne (show 4 ≠ 1 by omega)]
  refine pw_iadd_n (q := 17) C dX11_dayOn_16 rfl ?_
  refine pw_ipgst (q := 18) C dX11_dayOn_17 (by first | exact hM | exact hput_at _ _ _) (by omega) (by omega) rfl ?_
  refine pw_iconst_n (q := 19) C 0 dX11_dayOn_18 (by decide +kernel) rfl ?_
  refine pw_istore_n (q := 20) (j := 2) C dX11_dayOn_19 rfl rfl (by decide) rfl ?_
  simp only [hput2]
  rw [dayAt_0 P fr]
  exact loop (P 6) 0 (by omega) none
def rck (P : Nat → Nat) (s n : Nat) : Option Nat := if P (50 + 6 * s + 3) = 2 then rcut P (P (50 + 6 * s)) n else none
theorem rck_0 (P : Nat → Nat) (s : Nat) : rck P s 0 = none := by unfold rck; split <;> rfl
theorem rck_lt {P : Nat → Nat} {s n b : Nat} (h : rck P s n = some b) : b < n := by
  unfold rck at h
  split at h
  · exact rcut_lt h
  · cases h
theorem rck_yes {P : Nat → Nat} {s n : Nat} (h0 : P (50 + 6 * s + 3) = 2) (h1 : P (8 + 3 * n) < P (8 + 3 * P (50 + 6 * s))) (h2 : 0 < lacks P n) (h3 : ∀ b, rck P s n = some b → P (8 + 3 * b) < P (8 + 3 * n)) : rck P s (n + 1) = some n := by
  unfold rck at h3 ⊢
  rw [if_pos h0] at h3 ⊢
  exact rcut_yes h1 h2 h3
theorem rck_no {P : Nat → Nat} {s n : Nat} (h : ¬ (P (50 + 6 * s + 3) = 2 ∧ P (8 + 3 * n) < P (8 + 3 * P (50 + 6 * s)) ∧ 0 < lacks P n ∧ ∀ b, rck P s n = some b → P (8 + 3 * b) < P (8 + 3 * n))) : rck P s (n + 1) = rck P s n := by
  unfold rck at h ⊢
  split
  · rename_i h0
    rw [if_pos h0] at h
    exact rcut_no (fun q => h ⟨h0, q⟩)
  · rfl
set_option maxHeartbeats 200000 in
set_option maxRecDepth 100000 in
theorem m_recutCourse {M : PH} {r : Nat} {P : Nat → Nat} (hM : PgAt M r P) (hI : Inv P) {s : Nat} (hs : s < P 7) : Run iX11_recutCourse [.ref r, .int (nI s)] M 0 0 (RV (.int (optI (recutC P s))) (fun M1 => M1 = M)) := by
  have hb := hI.b
  have hs9 := hI.s hs
  obtain ⟨hs1, hs2, -⟩ := id hs9
  refine Run.of (l0 := [some (.ref r), some (.int (nI s)), none, none, none, none]) (by decide +kernel) (Nat.le_of_ble_eq_true rfl) (by rfl) (fun Γ G C => ?_)
  have loop : ∀ (d c : Nat), c + d = P 5 → ∀ x5 : Option Value, PW Γ G (ZJ Γ G 0 0 (RV (.int (optI (recutC P s))) (fun M1 => M1 = M))) 16 [some (.ref r), some (.int (nI s)), some (.int (nI (P (50 + 6 * s)))), some (.int (optI (rck P s c))), some (.int (nI c)), x5] [] M 0 0 := by
    intro d
    induction d with
    | zero =>
      intro c hd
      intro x5
      refine pw_iload (q := 18) C dX11_recutCourse_16 rfl rfl ?_
      refine pw_aload_n (q := 19) (j := 0) C dX11_recutCourse_18 rfl rfl rfl ?_
      refine pw_iconst_n (q := 20) C 5 dX11_recutCourse_19 (by decide +kernel) rfl ?_
      refine pw_ipg (q := 21) C dX11_recutCourse_20 hM (by omega) (by omega) rfl ?_
      refine pw_icmp_ge_n (q := 24) 107 C dX11_recutCourse_21 (by decide) rfl (by omega) (by omega) (fun g21 => ?_) (fun g21 => absurd g21 (by omega))
      refine pw_iload_n (q := 108) (j := 3) C dX11_recutCourse_107 rfl rfl rfl ?_
      exact pw_iret C dX11_recutCourse_108 rfl ⟨by omega, by omega⟩ (RV.mk (vint (by rw [show c = P 5 by omega]; rfl)) rfl)
    | succ d ih =>
      intro c hd
      intro x5
      have q4 := hI.c (show c < P 5 by omega)
      have q6 := hI.c hs1
      have q5 : lacks P c ≤ 9 := Nat.le_trans (Nat.sub_le _ _) q4.2.2.2.2.2
      cases hb9 : rck P s c with
      | none =>
        refine pw_iload (q := 18) C dX11_recutCourse_16 rfl rfl ?_
        refine pw_aload_n (q := 19) (j := 0) C dX11_recutCourse_18 rfl rfl rfl ?_
        refine pw_iconst_n (q := 20) C 5 dX11_recutCourse_19 (by decide +kernel) rfl ?_
        refine pw_ipg (q := 21) C dX11_recutCourse_20 hM (by omega) (by omega) rfl ?_
        refine pw_icmp_ge_n (q := 24) 107 C dX11_recutCourse_21 (by decide) rfl (by omega) (by omega) (fun g21 => absurd g21 (by omega)) (fun g21 => ?_)
        refine pw_aload_n (q := 25) (j := 0) C dX11_recutCourse_24 rfl rfl rfl ?_
        refine pw_bipush_n (q := 27) C 50 dX11_recutCourse_25 (by decide +kernel) rfl ?_
        refine pw_bipush_n (q := 29) C 6 dX11_recutCourse_27 (by decide +kernel) rfl ?_
        refine pw_iload_n (q := 30) (j := 1) C dX11_recutCourse_29 rfl rfl rfl ?_
        refine pw_imul_n (q := 31) C dX11_recutCourse_30 rfl ?_
        refine pw_iadd_n (q := 32) C dX11_recutCourse_31 rfl ?_
        refine pw_iconst_n (q := 33) C 3 dX11_recutCourse_32 (by decide +kernel) rfl ?_
        refine pw_iadd_n (q := 34) C dX11_recutCourse_33 rfl ?_
        refine pw_ipg (q := 35) C dX11_recutCourse_34 hM (by omega) (by omega) rfl ?_
        refine pw_iconst_n (q := 36) C 2 dX11_recutCourse_35 (by decide +kernel) rfl ?_
        refine pw_icmp_ne_n (q := 39) 66 C dX11_recutCourse_36 (by decide) rfl (by omega) (by omega) (fun g36 => ?_) (fun g36 => ?_)
        · refine pw_iconst_n (q := 67) C 0 dX11_recutCourse_66 (by decide +kernel) rfl ?_
          refine pw_istore (q := 69) C dX11_recutCourse_67 rfl (by decide) rfl ?_
          refine pw_iload (q := 71) C dX11_recutCourse_69 rfl rfl ?_
          refine pw_if_eq_n (q := 74) 99 C dX11_recutCourse_71 (by decide) rfl (by omega) (fun g71 => ?_) (fun g71 => absurd g71 (fun q => q rfl))
          refine pw_iload_n (q := 100) (j := 3) C dX11_recutCourse_99 rfl rfl rfl ?_
          refine pw_istore_n (q := 101) (j := 3) C dX11_recutCourse_100 rfl rfl (by decide) rfl ?_
          refine pw_iinc_n (q := 104) C 1 dX11_recutCourse_101 rfl (by decide +kernel) rfl (by decide) rfl ?_
          refine pw_goto (q := 0) 16 C dX11_recutCourse_104 (by decide) ?_
          have e9 : rck P s (c + 1) = _ := (rck_no (fun q => g36 q.1)).trans hb9
          have z9 := ih (c + 1) (by omega)
          rw [e9] at z9
          exact z9 _
        · refine pw_aload_n (q := 40) (j := 0) C dX11_recutCourse_39 rfl rfl rfl ?_
          refine pw_iload (q := 42) C dX11_recutCourse_40 rfl rfl ?_
          refine pw_rd (q := 45) (cr_s (j := iX11_sizeOf) C dX11_recutCourse_42 lX11_61 mX11_sizeOf (ro_mk (by decide) (by decide))  (m_size hM (by omega)) rfl rfl (Nat.le_of_ble_eq_true rfl) ⟨by omega, by omega⟩) rfl ?_
          refine pw_aload_n (q := 46) (j := 0) C dX11_recutCourse_45 rfl rfl rfl ?_
          refine pw_iload_n (q := 47) (j := 2) C dX11_recutCourse_46 rfl rfl rfl ?_
          refine pw_rd (q := 50) (cr_s (j := iX11_sizeOf) C dX11_recutCourse_47 lX11_61 mX11_sizeOf (ro_mk (by decide) (by decide))  (m_size hM (by omega)) rfl rfl (Nat.le_of_ble_eq_true rfl) ⟨by omega, by omega⟩) rfl ?_
          refine pw_icmp_ge_n (q := 53) 66 C dX11_recutCourse_50 (by decide) rfl (by omega) (by omega) (fun g50 => ?_) (fun g50 => ?_)
          · refine pw_iconst_n (q := 67) C 0 dX11_recutCourse_66 (by decide +kernel) rfl ?_
            refine pw_istore (q := 69) C dX11_recutCourse_67 rfl (by decide) rfl ?_
            refine pw_iload (q := 71) C dX11_recutCourse_69 rfl rfl ?_
            refine pw_if_eq_n (q := 74) 99 C dX11_recutCourse_71 (by decide) rfl (by omega) (fun g71 => ?_) (fun g71 => absurd g71 (fun q => q rfl))
            refine pw_iload_n (q := 100) (j := 3) C dX11_recutCourse_99 rfl rfl rfl ?_
            refine pw_istore_n (q := 101) (j := 3) C dX11_recutCourse_100 rfl rfl (by decide) rfl ?_
            refine pw_iinc_n (q := 104) C 1 dX11_recutCourse_101 rfl (by decide +kernel) rfl (by decide) rfl ?_
            refine pw_goto (q := 0) 16 C dX11_recutCourse_104 (by decide) ?_
            have e9 : rck P s (c + 1) = _ := (rck_no (fun q => absurd q.2.1 (by omega))).trans hb9
            have z9 := ih (c + 1) (by omega)
            rw [e9] at z9
            exact z9 _
          · refine pw_aload_n (q := 54) (j := 0) C dX11_recutCourse_53 rfl rfl rfl ?_
            refine pw_iload (q := 56) C dX11_recutCourse_54 rfl rfl ?_
            refine pw_rd (q := 59) (cr_s (j := iX11_lacks) C dX11_recutCourse_56 lX11_68 mX11_lacks (ro_mk (by decide) (by decide))  (m_lacks hM hI (by omega)) rfl rfl (Nat.le_of_ble_eq_true rfl) ⟨by omega, by omega⟩) rfl ?_
            refine pw_if_le_n (q := 62) 66 C dX11_recutCourse_59 (by decide) rfl (by omega) (fun g59 => ?_) (fun g59 => ?_)
            · refine pw_iconst_n (q := 67) C 0 dX11_recutCourse_66 (by decide +kernel) rfl ?_
              refine pw_istore (q := 69) C dX11_recutCourse_67 rfl (by decide) rfl ?_
              refine pw_iload (q := 71) C dX11_recutCourse_69 rfl rfl ?_
              refine pw_if_eq_n (q := 74) 99 C dX11_recutCourse_71 (by decide) rfl (by omega) (fun g71 => ?_) (fun g71 => absurd g71 (fun q => q rfl))
              refine pw_iload_n (q := 100) (j := 3) C dX11_recutCourse_99 rfl rfl rfl ?_
              refine pw_istore_n (q := 101) (j := 3) C dX11_recutCourse_100 rfl rfl (by decide) rfl ?_
              refine pw_iinc_n (q := 104) C 1 dX11_recutCourse_101 rfl (by decide +kernel) rfl (by decide) rfl ?_
              refine pw_goto (q := 0) 16 C dX11_recutCourse_104 (by decide) ?_
              have e9 : rck P s (c + 1) = _ := (rck_no (fun q => absurd q.2.2.1 (by omega))).trans hb9
              have z9 := ih (c + 1) (by omega)
              rw [e9] at z9
              exact z9 _
            · refine pw_iconst_n (q := 63) C 1 dX11_recutCourse_62 (by decide +kernel) rfl ?_
              refine pw_goto (q := 0) 67 C dX11_recutCourse_63 (by decide) ?_
              refine pw_istore (q := 69) C dX11_recutCourse_67 rfl (by decide) rfl ?_
              refine pw_iload (q := 71) C dX11_recutCourse_69 rfl rfl ?_
              refine pw_if_eq_n (q := 74) 99 C dX11_recutCourse_71 (by decide) rfl (by omega) (fun g71 => absurd g71 (by decide)) (fun g71 => ?_)
              refine pw_iload_n (q := 75) (j := 3) C dX11_recutCourse_74 rfl rfl rfl ?_
              refine pw_bipush (q := 77) (v := (-9)) C dX11_recutCourse_75 (by decide +kernel) rfl ?_
              refine pw_icmp_eq (q := 80) 94 C dX11_recutCourse_77 (by decide) rfl (fun g77 => ?_) (fun g77 => absurd g77 (not_not_intro rfl))
              refine pw_iload (q := 96) C dX11_recutCourse_94 rfl rfl ?_
              refine pw_goto (q := 0) 100 C dX11_recutCourse_96 (by decide) ?_
              refine pw_istore_n (q := 101) (j := 3) C dX11_recutCourse_100 rfl rfl (by decide) rfl ?_
              refine pw_iinc_n (q := 104) C 1 dX11_recutCourse_101 rfl (by decide +kernel) rfl (by decide) rfl ?_
              refine pw_goto (q := 0) 16 C dX11_recutCourse_104 (by decide) ?_
              have e9 : rck P s (c + 1) = _ := rck_yes g36 (by omega) (by omega) (fun b q => by rw [hb9] at q; cases q)
              have z9 := ih (c + 1) (by omega)
              rw [e9] at z9
              exact z9 _
      | some b =>
        have hbl := rck_lt hb9
        have q7 := hI.c (show b < P 5 by omega)
        refine pw_iload (q := 18) C dX11_recutCourse_16 rfl rfl ?_
        refine pw_aload_n (q := 19) (j := 0) C dX11_recutCourse_18 rfl rfl rfl ?_
        refine pw_iconst_n (q := 20) C 5 dX11_recutCourse_19 (by decide +kernel) rfl ?_
        refine pw_ipg (q := 21) C dX11_recutCourse_20 hM (by omega) (by omega) rfl ?_
        refine pw_icmp_ge_n (q := 24) 107 C dX11_recutCourse_21 (by decide) rfl (by omega) (by omega) (fun g21 => absurd g21 (by omega)) (fun g21 => ?_)
        refine pw_aload_n (q := 25) (j := 0) C dX11_recutCourse_24 rfl rfl rfl ?_
        refine pw_bipush_n (q := 27) C 50 dX11_recutCourse_25 (by decide +kernel) rfl ?_
        refine pw_bipush_n (q := 29) C 6 dX11_recutCourse_27 (by decide +kernel) rfl ?_
        refine pw_iload_n (q := 30) (j := 1) C dX11_recutCourse_29 rfl rfl rfl ?_
        refine pw_imul_n (q := 31) C dX11_recutCourse_30 rfl ?_
        refine pw_iadd_n (q := 32) C dX11_recutCourse_31 rfl ?_
        refine pw_iconst_n (q := 33) C 3 dX11_recutCourse_32 (by decide +kernel) rfl ?_
        refine pw_iadd_n (q := 34) C dX11_recutCourse_33 rfl ?_
        refine pw_ipg (q := 35) C dX11_recutCourse_34 hM (by omega) (by omega) rfl ?_
        refine pw_iconst_n (q := 36) C 2 dX11_recutCourse_35 (by decide +kernel) rfl ?_
        refine pw_icmp_ne_n (q := 39) 66 C dX11_recutCourse_36 (by decide) rfl (by omega) (by omega) (fun g36 => ?_) (fun g36 => ?_)
        · refine pw_iconst_n (q := 67) C 0 dX11_recutCourse_66 (by decide +kernel) rfl ?_
          refine pw_istore (q := 69) C dX11_recutCourse_67 rfl (by decide) rfl ?_
          refine pw_iload (q := 71) C dX11_recutCourse_69 rfl rfl ?_
          refine pw_if_eq_n (q := 74) 99 C dX11_recutCourse_71 (by decide) rfl (by omega) (fun g71 => ?_) (fun g71 => absurd g71 (fun q => q rfl))
          refine pw_iload_n (q := 100) (j := 3) C dX11_recutCourse_99 rfl rfl rfl ?_
          refine pw_istore_n (q := 101) (j := 3) C dX11_recutCourse_100 rfl rfl (by decide) rfl ?_
          refine pw_iinc_n (q := 104) C 1 dX11_recutCourse_101 rfl (by decide +kernel) rfl (by decide) rfl ?_
          refine pw_goto (q := 0) 16 C dX11_recutCourse_104 (by decide) ?_
          have e9 : rck P s (c + 1) = _ := (rck_no (fun q => g36 q.1)).trans hb9
          have z9 := ih (c + 1) (by omega)
          rw [e9] at z9
          exact z9 _
        · refine pw_aload_n (q := 40) (j := 0) C dX11_recutCourse_39 rfl rfl rfl ?_
          refine pw_iload (q := 42) C dX11_recutCourse_40 rfl rfl ?_
          refine pw_rd (q := 45) (cr_s (j := iX11_sizeOf) C dX11_recutCourse_42 lX11_61 mX11_sizeOf (ro_mk (by decide) (by decide))  (m_size hM (by omega)) rfl rfl (Nat.le_of_ble_eq_true rfl) ⟨by omega, by omega⟩) rfl ?_
          refine pw_aload_n (q := 46) (j := 0) C dX11_recutCourse_45 rfl rfl rfl ?_
          refine pw_iload_n (q := 47) (j := 2) C dX11_recutCourse_46 rfl rfl rfl ?_
          refine pw_rd (q := 50) (cr_s (j := iX11_sizeOf) C dX11_recutCourse_47 lX11_61 mX11_sizeOf (ro_mk (by decide) (by decide))  (m_size hM (by omega)) rfl rfl (Nat.le_of_ble_eq_true rfl) ⟨by omega, by omega⟩) rfl ?_
          refine pw_icmp_ge_n (q := 53) 66 C dX11_recutCourse_50 (by decide) rfl (by omega) (by omega) (fun g50 => ?_) (fun g50 => ?_)
          · refine pw_iconst_n (q := 67) C 0 dX11_recutCourse_66 (by decide +kernel) rfl ?_
            refine pw_istore (q := 69) C dX11_recutCourse_67 rfl (by decide) rfl ?_
            refine pw_iload (q := 71) C dX11_recutCourse_69 rfl rfl ?_
            refine pw_if_eq_n (q := 74) 99 C dX11_recutCourse_71 (by decide) rfl (by omega) (fun g71 => ?_) (fun g71 => absurd g71 (fun q => q rfl))
            refine pw_iload_n (q := 100) (j := 3) C dX11_recutCourse_99 rfl rfl rfl ?_
            refine pw_istore_n (q := 101) (j := 3) C dX11_recutCourse_100 rfl rfl (by decide) rfl ?_
            refine pw_iinc_n (q := 104) C 1 dX11_recutCourse_101 rfl (by decide +kernel) rfl (by decide) rfl ?_
            refine pw_goto (q := 0) 16 C dX11_recutCourse_104 (by decide) ?_
            have e9 : rck P s (c + 1) = _ := (rck_no (fun q => absurd q.2.1 (by omega))).trans hb9
            have z9 := ih (c + 1) (by omega)
            rw [e9] at z9
            exact z9 _
          · refine pw_aload_n (q := 54) (j := 0) C dX11_recutCourse_53 rfl rfl rfl ?_
            refine pw_iload (q := 56) C dX11_recutCourse_54 rfl rfl ?_
            refine pw_rd (q := 59) (cr_s (j := iX11_lacks) C dX11_recutCourse_56 lX11_68 mX11_lacks (ro_mk (by decide) (by decide))  (m_lacks hM hI (by omega)) rfl rfl (Nat.le_of_ble_eq_true rfl) ⟨by omega, by omega⟩) rfl ?_
            refine pw_if_le_n (q := 62) 66 C dX11_recutCourse_59 (by decide) rfl (by omega) (fun g59 => ?_) (fun g59 => ?_)
            · refine pw_iconst_n (q := 67) C 0 dX11_recutCourse_66 (by decide +kernel) rfl ?_
              refine pw_istore (q := 69) C dX11_recutCourse_67 rfl (by decide) rfl ?_
              refine pw_iload (q := 71) C dX11_recutCourse_69 rfl rfl ?_
              refine pw_if_eq_n (q := 74) 99 C dX11_recutCourse_71 (by decide) rfl (by omega) (fun g71 => ?_) (fun g71 => absurd g71 (fun q => q rfl))
              refine pw_iload_n (q := 100) (j := 3) C dX11_recutCourse_99 rfl rfl rfl ?_
              refine pw_istore_n (q := 101) (j := 3) C dX11_recutCourse_100 rfl rfl (by decide) rfl ?_
              refine pw_iinc_n (q := 104) C 1 dX11_recutCourse_101 rfl (by decide +kernel) rfl (by decide) rfl ?_
              refine pw_goto (q := 0) 16 C dX11_recutCourse_104 (by decide) ?_
              have e9 : rck P s (c + 1) = _ := (rck_no (fun q => absurd q.2.2.1 (by omega))).trans hb9
              have z9 := ih (c + 1) (by omega)
              rw [e9] at z9
              exact z9 _
            · refine pw_iconst_n (q := 63) C 1 dX11_recutCourse_62 (by decide +kernel) rfl ?_
              refine pw_goto (q := 0) 67 C dX11_recutCourse_63 (by decide) ?_
              refine pw_istore (q := 69) C dX11_recutCourse_67 rfl (by decide) rfl ?_
              refine pw_iload (q := 71) C dX11_recutCourse_69 rfl rfl ?_
              refine pw_if_eq_n (q := 74) 99 C dX11_recutCourse_71 (by decide) rfl (by omega) (fun g71 => absurd g71 (by decide)) (fun g71 => ?_)
              refine pw_iload_n (q := 75) (j := 3) C dX11_recutCourse_74 rfl rfl rfl ?_
              refine pw_bipush (q := 77) (v := (-9)) C dX11_recutCourse_75 (by decide +kernel) rfl ?_
              refine pw_icmp_eq (q := 80) 94 C dX11_recutCourse_77 (by decide) rfl (fun g77 => absurd g77 (optI_ne (by omega))) (fun g77 => ?_)
              refine pw_aload_n (q := 81) (j := 0) C dX11_recutCourse_80 rfl rfl rfl ?_
              refine pw_iload (q := 83) C dX11_recutCourse_81 rfl rfl ?_
              refine pw_rd (q := 86) (cr_s (j := iX11_sizeOf) C dX11_recutCourse_83 lX11_61 mX11_sizeOf (ro_mk (by decide) (by decide))  (m_size hM (by omega)) rfl rfl (Nat.le_of_ble_eq_true rfl) ⟨by omega, by omega⟩) rfl ?_
              refine pw_aload_n (q := 87) (j := 0) C dX11_recutCourse_86 rfl rfl rfl ?_
              refine pw_iload_n (q := 88) (j := 3) C dX11_recutCourse_87 rfl rfl rfl ?_
              refine pw_rd (q := 91) (cr_s (j := iX11_sizeOf) C dX11_recutCourse_88 lX11_61 mX11_sizeOf (ro_mk (by decide) (by decide))  (m_size hM (by omega)) rfl rfl (Nat.le_of_ble_eq_true rfl) ⟨by omega, by omega⟩) rfl ?_
              refine pw_icmp_le_n (q := 94) 99 C dX11_recutCourse_91 (by decide) rfl (by omega) (by omega) (fun g91 => ?_) (fun g91 => ?_)
              · refine pw_iload_n (q := 100) (j := 3) C dX11_recutCourse_99 rfl rfl rfl ?_
                refine pw_istore_n (q := 101) (j := 3) C dX11_recutCourse_100 rfl rfl (by decide) rfl ?_
                refine pw_iinc_n (q := 104) C 1 dX11_recutCourse_101 rfl (by decide +kernel) rfl (by decide) rfl ?_
                refine pw_goto (q := 0) 16 C dX11_recutCourse_104 (by decide) ?_
                have e9 : rck P s (c + 1) = _ := (rck_no (fun q => absurd (q.2.2.2 b hb9) (by omega))).trans hb9
                have z9 := ih (c + 1) (by omega)
                rw [e9] at z9
                exact z9 _
              · refine pw_iload (q := 96) C dX11_recutCourse_94 rfl rfl ?_
                refine pw_goto (q := 0) 100 C dX11_recutCourse_96 (by decide) ?_
                refine pw_istore_n (q := 101) (j := 3) C dX11_recutCourse_100 rfl rfl (by decide) rfl ?_
                refine pw_iinc_n (q := 104) C 1 dX11_recutCourse_101 rfl (by decide +kernel) rfl (by decide) rfl ?_
                refine pw_goto (q := 0) 16 C dX11_recutCourse_104 (by decide) ?_
                have e9 : rck P s (c + 1) = _ := rck_yes g36 (by omega) (by omega) (fun b2 q => by rw [hb9] at q; cases q; omega)
                have z9 := ih (c + 1) (by omega)
                rw [e9] at z9
                exact z9 _
  refine pw_aload_n (q := 1) (j := 0) C dX11_recutCourse_0 rfl rfl rfl ?_
  refine pw_bipush_n (q := 3) C 50 dX11_recutCourse_1 (by decide +kernel) rfl ?_
  refine pw_bipush_n (q := 5) C 6 dX11_recutCourse_3 (by decide +kernel) rfl ?_
  refine pw_iload_n (q := 6) (j := 1) C dX11_recutCourse_5 rfl rfl rfl ?_
  refine pw_imul_n (q := 7) C dX11_recutCourse_6 rfl ?_
  refine pw_iadd_n (q := 8) C dX11_recutCourse_7 rfl ?_
  refine pw_ipg (q := 9) C dX11_recutCourse_8 hM (by omega) (by omega) rfl ?_
  refine pw_istore_n (q := 10) (j := 2) C dX11_recutCourse_9 rfl rfl (by decide) rfl ?_
  refine pw_bipush (q := 12) (v := (-9)) C dX11_recutCourse_10 (by decide +kernel) rfl ?_
  refine pw_istore_n (q := 13) (j := 3) C dX11_recutCourse_12 rfl rfl (by decide) rfl ?_
  refine pw_iconst_n (q := 14) C 0 dX11_recutCourse_13 (by decide +kernel) rfl ?_
  refine pw_istore (q := 16) C dX11_recutCourse_14 rfl (by decide) rfl ?_
  have z9 := loop (P 5) 0 (by omega) none
  rw [rck_0] at z9
  exact z9
