/-! The reference: pages. -/
abbrev PgAt (M : PH) (r : Nat) (P : Nat → Nat) : Prop := M.2 r = some (.inl (0, 194, .inl (pg P)))
set_option maxHeartbeats 200000 in
set_option maxRecDepth 100000 in
theorem m_in {M : PH} {v l h : Int64} : Run iX11_in [.long v, .long l, .long h] M 0 0 (RV (.int (nI (bN (l ≤ v ∧ v ≤ h)))) (fun M1 => M1 = M)) := by
  refine Run.of (l0 := [some (.long v), none, some (.long l), none, some (.long h), none]) (by decide +kernel) (Nat.le_of_ble_eq_true rfl) (by rfl) (fun Γ G C => ?_)
  refine pw_lload_n (q := 1) (j := 0) C dX11_in_0 rfl rfl rfl ?_
  refine pw_lload_n (q := 2) (j := 2) C dX11_in_1 rfl rfl rfl ?_
  refine pw_lcmp (q := 3) C dX11_in_2 rfl ?_
  refine pw_if_lt (q := 6) 17 C dX11_in_3 (by decide) rfl (fun g3 => ?_) (fun g3 => ?_)
  · refine pw_iconst_n (q := 18) C 0 dX11_in_17 (by decide +kernel) rfl ?_
    exact pw_zret C dX11_in_18 rfl (by first | decide +kernel | exact nar_bN _ | exact nar_01 (by omega)) ⟨by omega, by omega⟩ (RV.mk (v0 (fun q => absurd ((lg_cmp_lt _ _).mp g3) (Int64.not_lt.mpr q.1))) rfl)
  · refine pw_lload_n (q := 7) (j := 0) C dX11_in_6 rfl rfl rfl ?_
    refine pw_lload (q := 9) C dX11_in_7 rfl rfl ?_
    refine pw_lcmp (q := 10) C dX11_in_9 rfl ?_
    refine pw_if_gt (q := 13) 17 C dX11_in_10 (by decide) rfl (fun g10 => ?_) (fun g10 => ?_)
    · refine pw_iconst_n (q := 18) C 0 dX11_in_17 (by decide +kernel) rfl ?_
      exact pw_zret C dX11_in_18 rfl (by first | decide +kernel | exact nar_bN _ | exact nar_01 (by omega)) ⟨by omega, by omega⟩ (RV.mk (v0 (fun q => absurd ((lg_cmp_gt _ _).mp g10) (Int64.not_lt.mpr q.2))) rfl)
    · refine pw_iconst_n (q := 14) C 1 dX11_in_13 (by decide +kernel) rfl ?_
      refine pw_goto (q := 0) 18 C dX11_in_14 (by decide) ?_
      exact pw_zret C dX11_in_18 rfl (by first | decide +kernel | exact nar_bN _ | exact nar_01 (by omega)) ⟨by omega, by omega⟩ (RV.mk (v1 ⟨Int64.not_lt.mp (fun q => g3 ((lg_cmp_lt _ _).mpr q)), Int64.not_lt.mp (fun q => g10 ((lg_cmp_gt _ _).mpr q))⟩) rfl)
set_option maxHeartbeats 200000 in
set_option maxRecDepth 100000 in
theorem m_size {M : PH} {r : Nat} {P : Nat → Nat} (hM : PgAt M r P) {c : Nat} (hc : c < 6) : Run iX11_sizeOf [.ref r, .int (nI c)] M 0 0 (RV (.int (nI (P (8 + 3 * c)))) (fun M1 => M1 = M)) := by
  refine Run.of (l0 := [some (.ref r), some (.int (nI c))]) (by decide +kernel) (Nat.le_of_ble_eq_true rfl) (by rfl) (fun Γ G C => ?_)
  refine pw_aload_n (q := 1) (j := 0) C dX11_sizeOf_0 rfl rfl rfl ?_
  refine pw_bipush_n (q := 3) C 8 dX11_sizeOf_1 (by decide +kernel) rfl ?_
  refine pw_iconst_n (q := 4) C 3 dX11_sizeOf_3 (by decide +kernel) rfl ?_
  refine pw_iload_n (q := 5) (j := 1) C dX11_sizeOf_4 rfl rfl rfl ?_
  refine pw_imul_n (q := 6) C dX11_sizeOf_5 rfl ?_
  refine pw_iadd_n (q := 7) C dX11_sizeOf_6 rfl ?_
  refine pw_ipg (q := 8) C dX11_sizeOf_7 hM (by omega) (by omega) rfl ?_
  exact pw_iret C dX11_sizeOf_8 rfl ⟨by omega, by omega⟩ (RV.mk (by rfl) rfl)
set_option maxHeartbeats 200000 in
set_option maxRecDepth 100000 in
theorem m_faces {M : PH} {r : Nat} {P : Nat → Nat} (hM : PgAt M r P) {c : Nat} (hc : c < 6) : Run iX11_facesOf [.ref r, .int (nI c)] M 0 0 (RV (.int (nI (P (8 + 3 * c + 1)))) (fun M1 => M1 = M)) := by
  refine Run.of (l0 := [some (.ref r), some (.int (nI c))]) (by decide +kernel) (Nat.le_of_ble_eq_true rfl) (by rfl) (fun Γ G C => ?_)
  refine pw_aload_n (q := 1) (j := 0) C dX11_facesOf_0 rfl rfl rfl ?_
  refine pw_bipush_n (q := 3) C 8 dX11_facesOf_1 (by decide +kernel) rfl ?_
  refine pw_iconst_n (q := 4) C 3 dX11_facesOf_3 (by decide +kernel) rfl ?_
  refine pw_iload_n (q := 5) (j := 1) C dX11_facesOf_4 rfl rfl rfl ?_
  refine pw_imul_n (q := 6) C dX11_facesOf_5 rfl ?_
  refine pw_iadd_n (q := 7) C dX11_facesOf_6 rfl ?_
  refine pw_iconst_n (q := 8) C 1 dX11_facesOf_7 (by decide +kernel) rfl ?_
  refine pw_iadd_n (q := 9) C dX11_facesOf_8 rfl ?_
  refine pw_ipg (q := 10) C dX11_facesOf_9 hM (by omega) (by omega) rfl ?_
  exact pw_iret C dX11_facesOf_10 rfl ⟨by omega, by omega⟩ (RV.mk (by rfl) rfl)
set_option maxHeartbeats 200000 in
set_option maxRecDepth 100000 in
theorem m_needed {M : PH} {r : Nat} {P : Nat → Nat} (hM : PgAt M r P) {c : Nat} (hc : c < 6) : Run iX11_neededOf [.ref r, .int (nI c)] M 0 0 (RV (.int (nI (P (8 + 3 * c + 2)))) (fun M1 => M1 = M)) := by
  refine Run.of (l0 := [some (.ref r), some (.int (nI c))]) (by decide +kernel) (Nat.le_of_ble_eq_true rfl) (by rfl) (fun Γ G C => ?_)
  refine pw_aload_n (q := 1) (j := 0) C dX11_neededOf_0 rfl rfl rfl ?_
  refine pw_bipush_n (q := 3) C 8 dX11_neededOf_1 (by decide +kernel) rfl ?_
  refine pw_iconst_n (q := 4) C 3 dX11_neededOf_3 (by decide +kernel) rfl ?_
  refine pw_iload_n (q := 5) (j := 1) C dX11_neededOf_4 rfl rfl rfl ?_
  refine pw_imul_n (q := 6) C dX11_neededOf_5 rfl ?_
  refine pw_iadd_n (q := 7) C dX11_neededOf_6 rfl ?_
  refine pw_iconst_n (q := 8) C 2 dX11_neededOf_7 (by decide +kernel) rfl ?_
  refine pw_iadd_n (q := 9) C dX11_neededOf_8 rfl ?_
  refine pw_ipg (q := 10) C dX11_neededOf_9 hM (by omega) (by omega) rfl ?_
  exact pw_iret C dX11_neededOf_10 rfl ⟨by omega, by omega⟩ (RV.mk (by rfl) rfl)
set_option maxHeartbeats 200000 in
set_option maxRecDepth 100000 in
theorem m_stonesOf {M : PH} {r : Nat} {P : Nat → Nat} (hM : PgAt M r P) (hI : Inv P) {c st : Nat} (hc : c < 2147483648) (hst : st < 2147483648) : Run iX11_stonesOf [.ref r, .int (nI c), .int (nI st)] M 0 0 (RV (.int (nI (cntC P c st))) (fun M1 => M1 = M)) := by
  have hb := hI.b
  refine Run.of (l0 := [some (.ref r), some (.int (nI c)), some (.int (nI st)), none, none]) (by decide +kernel) (Nat.le_of_ble_eq_true rfl) (by rfl) (fun Γ G C => ?_)
  have loop : ∀ (d s : Nat), s + d = P 7 → PW Γ G (ZJ Γ G 0 0 (RV (.int (nI (cntC P c st))) (fun M1 => M1 = M))) 5 [some (.ref r), some (.int (nI c)), some (.int (nI st)), some (.int (nI (cnt (fun s => P (50 + 6 * s) = c ∧ P (50 + 6 * s + 3) = st) s))), some (.int (nI s))] [] M 0 0 := by
    intro d
    induction d with
    | zero =>
      intro s hd
      refine pw_iload (q := 7) C dX11_stonesOf_5 rfl rfl ?_
      refine pw_aload_n (q := 8) (j := 0) C dX11_stonesOf_7 rfl rfl rfl ?_
      refine pw_bipush_n (q := 10) C 7 dX11_stonesOf_8 (by decide +kernel) rfl ?_
      refine pw_ipg (q := 11) C dX11_stonesOf_10 hM (by omega) (by omega) rfl ?_
      refine pw_icmp_ge_n (q := 14) 58 C dX11_stonesOf_11 (by decide) rfl (by omega) (by omega) (fun g11 => ?_) (fun g11 => absurd g11 (by omega))
      refine pw_iload_n (q := 59) (j := 3) C dX11_stonesOf_58 rfl rfl rfl ?_
      exact pw_iret C dX11_stonesOf_59 rfl ⟨by omega, by omega⟩ (RV.mk (by rw [show s = P 7 by omega]; rfl) rfl)
    | succ d ih =>
      intro s hd
      have hs9 := hI.s (show s < P 7 by omega)
      refine pw_iload (q := 7) C dX11_stonesOf_5 rfl rfl ?_
      refine pw_aload_n (q := 8) (j := 0) C dX11_stonesOf_7 rfl rfl rfl ?_
      refine pw_bipush_n (q := 10) C 7 dX11_stonesOf_8 (by decide +kernel) rfl ?_
      refine pw_ipg (q := 11) C dX11_stonesOf_10 hM (by omega) (by omega) rfl ?_
      refine pw_icmp_ge_n (q := 14) 58 C dX11_stonesOf_11 (by decide) rfl (by omega) (by omega) (fun g11 => absurd g11 (by omega)) (fun g11 => ?_)
      refine pw_iload_n (q := 15) (j := 3) C dX11_stonesOf_14 rfl rfl rfl ?_
      refine pw_aload_n (q := 16) (j := 0) C dX11_stonesOf_15 rfl rfl rfl ?_
      refine pw_bipush_n (q := 18) C 50 dX11_stonesOf_16 (by decide +kernel) rfl ?_
      refine pw_bipush_n (q := 20) C 6 dX11_stonesOf_18 (by decide +kernel) rfl ?_
      refine pw_iload (q := 22) C dX11_stonesOf_20 rfl rfl ?_
      refine pw_imul_n (q := 23) C dX11_stonesOf_22 rfl ?_
      refine pw_iadd_n (q := 24) C dX11_stonesOf_23 rfl ?_
      refine pw_ipg (q := 25) C dX11_stonesOf_24 hM (by omega) (by omega) rfl ?_
      refine pw_iload_n (q := 26) (j := 1) C dX11_stonesOf_25 rfl rfl rfl ?_
      refine pw_icmp_ne_n (q := 29) 49 C dX11_stonesOf_26 (by decide) rfl (by omega) (by omega) (fun g26 => ?_) (fun g26 => ?_)
      · refine pw_iconst_n (q := 50) C 0 dX11_stonesOf_49 (by decide +kernel) rfl ?_
        refine pw_iadd_n (q := 51) C dX11_stonesOf_50 rfl ?_
        refine pw_istore_n (q := 52) (j := 3) C dX11_stonesOf_51 rfl rfl (by decide) rfl ?_
        refine pw_iinc_n (q := 55) C 1 dX11_stonesOf_52 rfl (by decide +kernel) rfl (by decide) rfl ?_
        refine pw_goto (q := 0) 5 C dX11_stonesOf_55 (by decide) ?_
        have e : cnt (fun s => P (50 + 6 * s) = c ∧ P (50 + 6 * s + 3) = st) (s + 1) = cnt (fun s => P (50 + 6 * s) = c ∧ P (50 + 6 * s + 3) = st) s + 0 := cnt_no (fun q => g26 q.1)
        rw [← e]
        exact ih (s + 1) (by omega)
      · refine pw_aload_n (q := 30) (j := 0) C dX11_stonesOf_29 rfl rfl rfl ?_
        refine pw_bipush_n (q := 32) C 50 dX11_stonesOf_30 (by decide +kernel) rfl ?_
        refine pw_bipush_n (q := 34) C 6 dX11_stonesOf_32 (by decide +kernel) rfl ?_
        refine pw_iload (q := 36) C dX11_stonesOf_34 rfl rfl ?_
        refine pw_imul_n (q := 37) C dX11_stonesOf_36 rfl ?_
        refine pw_iadd_n (q := 38) C dX11_stonesOf_37 rfl ?_
        refine pw_iconst_n (q := 39) C 3 dX11_stonesOf_38 (by decide +kernel) rfl ?_
        refine pw_iadd_n (q := 40) C dX11_stonesOf_39 rfl ?_
        refine pw_ipg (q := 41) C dX11_stonesOf_40 hM (by omega) (by omega) rfl ?_
        refine pw_iload_n (q := 42) (j := 2) C dX11_stonesOf_41 rfl rfl rfl ?_
        refine pw_icmp_ne_n (q := 45) 49 C dX11_stonesOf_42 (by decide) rfl (by omega) (by omega) (fun g42 => ?_) (fun g42 => ?_)
        · refine pw_iconst_n (q := 50) C 0 dX11_stonesOf_49 (by decide +kernel) rfl ?_
          refine pw_iadd_n (q := 51) C dX11_stonesOf_50 rfl ?_
          refine pw_istore_n (q := 52) (j := 3) C dX11_stonesOf_51 rfl rfl (by decide) rfl ?_
          refine pw_iinc_n (q := 55) C 1 dX11_stonesOf_52 rfl (by decide +kernel) rfl (by decide) rfl ?_
          refine pw_goto (q := 0) 5 C dX11_stonesOf_55 (by decide) ?_
          have e : cnt (fun s => P (50 + 6 * s) = c ∧ P (50 + 6 * s + 3) = st) (s + 1) = cnt (fun s => P (50 + 6 * s) = c ∧ P (50 + 6 * s + 3) = st) s + 0 := cnt_no (fun q => g42 q.2)
          rw [← e]
          exact ih (s + 1) (by omega)
        · refine pw_iconst_n (q := 46) C 1 dX11_stonesOf_45 (by decide +kernel) rfl ?_
          refine pw_goto (q := 0) 50 C dX11_stonesOf_46 (by decide) ?_
          refine pw_iadd_n (q := 51) C dX11_stonesOf_50 rfl ?_
          refine pw_istore_n (q := 52) (j := 3) C dX11_stonesOf_51 rfl rfl (by decide) rfl ?_
          refine pw_iinc_n (q := 55) C 1 dX11_stonesOf_52 rfl (by decide +kernel) rfl (by decide) rfl ?_
          refine pw_goto (q := 0) 5 C dX11_stonesOf_55 (by decide) ?_
          have e : cnt (fun s => P (50 + 6 * s) = c ∧ P (50 + 6 * s + 3) = st) (s + 1) = cnt (fun s => P (50 + 6 * s) = c ∧ P (50 + 6 * s + 3) = st) s + 1 := cnt_yes ⟨g26, g42⟩
          rw [← e]
          exact ih (s + 1) (by omega)
  refine pw_iconst_n (q := 1) C 0 dX11_stonesOf_0 (by decide +kernel) rfl ?_
  refine pw_istore_n (q := 2) (j := 3) C dX11_stonesOf_1 rfl rfl (by decide) rfl ?_
  refine pw_iconst_n (q := 3) C 0 dX11_stonesOf_2 (by decide +kernel) rfl ?_
  refine pw_istore (q := 5) C dX11_stonesOf_3 rfl (by decide) rfl ?_
  exact loop (P 7) 0 (by omega)
set_option maxHeartbeats 200000 in
set_option maxRecDepth 100000 in
theorem m_stonesWith {M : PH} {r : Nat} {P : Nat → Nat} (hM : PgAt M r P) (hI : Inv P) {st : Nat} (hst : st < 2147483648) : Run iX11_stonesWith [.ref r, .int (nI st)] M 0 0 (RV (.int (nI (cntS P st))) (fun M1 => M1 = M)) := by
  have hb := hI.b
  refine Run.of (l0 := [some (.ref r), some (.int (nI st)), none, none]) (by decide +kernel) (Nat.le_of_ble_eq_true rfl) (by rfl) (fun Γ G C => ?_)
  have loop : ∀ (d s : Nat), s + d = P 7 → PW Γ G (ZJ Γ G 0 0 (RV (.int (nI (cntS P st))) (fun M1 => M1 = M))) 4 [some (.ref r), some (.int (nI st)), some (.int (nI (cnt (fun s => P (50 + 6 * s + 3) = st) s))), some (.int (nI s))] [] M 0 0 := by
    intro d
    induction d with
    | zero =>
      intro s hd
      refine pw_iload_n (q := 5) (j := 3) C dX11_stonesWith_4 rfl rfl rfl ?_
      refine pw_aload_n (q := 6) (j := 0) C dX11_stonesWith_5 rfl rfl rfl ?_
      refine pw_bipush_n (q := 8) C 7 dX11_stonesWith_6 (by decide +kernel) rfl ?_
      refine pw_ipg (q := 9) C dX11_stonesWith_8 hM (by omega) (by omega) rfl ?_
      refine pw_icmp_ge_n (q := 12) 41 C dX11_stonesWith_9 (by decide) rfl (by omega) (by omega) (fun g9 => ?_) (fun g9 => absurd g9 (by omega))
      refine pw_iload_n (q := 42) (j := 2) C dX11_stonesWith_41 rfl rfl rfl ?_
      exact pw_iret C dX11_stonesWith_42 rfl ⟨by omega, by omega⟩ (RV.mk (by rw [show s = P 7 by omega]; rfl) rfl)
    | succ d ih =>
      intro s hd
      have hs9 := hI.s (show s < P 7 by omega)
      refine pw_iload_n (q := 5) (j := 3) C dX11_stonesWith_4 rfl rfl rfl ?_
      refine pw_aload_n (q := 6) (j := 0) C dX11_stonesWith_5 rfl rfl rfl ?_
      refine pw_bipush_n (q := 8) C 7 dX11_stonesWith_6 (by decide +kernel) rfl ?_
      refine pw_ipg (q := 9) C dX11_stonesWith_8 hM (by omega) (by omega) rfl ?_
      refine pw_icmp_ge_n (q := 12) 41 C dX11_stonesWith_9 (by decide) rfl (by omega) (by omega) (fun g9 => absurd g9 (by omega)) (fun g9 => ?_)
      refine pw_iload_n (q := 13) (j := 2) C dX11_stonesWith_12 rfl rfl rfl ?_
      refine pw_aload_n (q := 14) (j := 0) C dX11_stonesWith_13 rfl rfl rfl ?_
      refine pw_bipush_n (q := 16) C 50 dX11_stonesWith_14 (by decide +kernel) rfl ?_
      refine pw_bipush_n (q := 18) C 6 dX11_stonesWith_16 (by decide +kernel) rfl ?_
      refine pw_iload_n (q := 19) (j := 3) C dX11_stonesWith_18 rfl rfl rfl ?_
      refine pw_imul_n (q := 20) C dX11_stonesWith_19 rfl ?_
      refine pw_iadd_n (q := 21) C dX11_stonesWith_20 rfl ?_
      refine pw_iconst_n (q := 22) C 3 dX11_stonesWith_21 (by decide +kernel) rfl ?_
      refine pw_iadd_n (q := 23) C dX11_stonesWith_22 rfl ?_
      refine pw_ipg (q := 24) C dX11_stonesWith_23 hM (by omega) (by omega) rfl ?_
      refine pw_iload_n (q := 25) (j := 1) C dX11_stonesWith_24 rfl rfl rfl ?_
      refine pw_icmp_ne_n (q := 28) 32 C dX11_stonesWith_25 (by decide) rfl (by omega) (by omega) (fun g25 => ?_) (fun g25 => ?_)
      · refine pw_iconst_n (q := 33) C 0 dX11_stonesWith_32 (by decide +kernel) rfl ?_
        refine pw_iadd_n (q := 34) C dX11_stonesWith_33 rfl ?_
        refine pw_istore_n (q := 35) (j := 2) C dX11_stonesWith_34 rfl rfl (by decide) rfl ?_
        refine pw_iinc_n (q := 38) C 1 dX11_stonesWith_35 rfl (by decide +kernel) rfl (by decide) rfl ?_
        refine pw_goto (q := 0) 4 C dX11_stonesWith_38 (by decide) ?_
        have e : cnt (fun s => P (50 + 6 * s + 3) = st) (s + 1) = cnt (fun s => P (50 + 6 * s + 3) = st) s + 0 := cnt_no (fun q => g25 q)
        rw [← e]
        exact ih (s + 1) (by omega)
      · refine pw_iconst_n (q := 29) C 1 dX11_stonesWith_28 (by decide +kernel) rfl ?_
        refine pw_goto (q := 0) 33 C dX11_stonesWith_29 (by decide) ?_
        refine pw_iadd_n (q := 34) C dX11_stonesWith_33 rfl ?_
        refine pw_istore_n (q := 35) (j := 2) C dX11_stonesWith_34 rfl rfl (by decide) rfl ?_
        refine pw_iinc_n (q := 38) C 1 dX11_stonesWith_35 rfl (by decide +kernel) rfl (by decide) rfl ?_
        refine pw_goto (q := 0) 4 C dX11_stonesWith_38 (by decide) ?_
        have e : cnt (fun s => P (50 + 6 * s + 3) = st) (s + 1) = cnt (fun s => P (50 + 6 * s + 3) = st) s + 1 := cnt_yes g25
        rw [← e]
        exact ih (s + 1) (by omega)
  refine pw_iconst_n (q := 1) C 0 dX11_stonesWith_0 (by decide +kernel) rfl ?_
  refine pw_istore_n (q := 2) (j := 2) C dX11_stonesWith_1 rfl rfl (by decide) rfl ?_
  refine pw_iconst_n (q := 3) C 0 dX11_stonesWith_2 (by decide +kernel) rfl ?_
  refine pw_istore_n (q := 4) (j := 3) C dX11_stonesWith_3 rfl rfl (by decide) rfl ?_
  exact loop (P 7) 0 (by omega)
set_option maxHeartbeats 200000 in
set_option maxRecDepth 100000 in
theorem m_markedBy {M : PH} {r : Nat} {P : Nat → Nat} (hM : PgAt M r P) (hI : Inv P) {m st : Nat} (hm : m < 2147483648) (hst : st < 2147483648) : Run iX11_markedBy [.ref r, .int (nI m), .int (nI st)] M 0 0 (RV (.int (nI (cntM P m st))) (fun M1 => M1 = M)) := by
  have hb := hI.b
  refine Run.of (l0 := [some (.ref r), some (.int (nI m)), some (.int (nI st)), none, none]) (by decide +kernel) (Nat.le_of_ble_eq_true rfl) (by rfl) (fun Γ G C => ?_)
  have loop : ∀ (d s : Nat), s + d = P 7 → PW Γ G (ZJ Γ G 0 0 (RV (.int (nI (cntM P m st))) (fun M1 => M1 = M))) 5 [some (.ref r), some (.int (nI m)), some (.int (nI st)), some (.int (nI (cnt (fun s => P (50 + 6 * s + 1) = m ∧ P (50 + 6 * s + 3) = st) s))), some (.int (nI s))] [] M 0 0 := by
    intro d
    induction d with
    | zero =>
      intro s hd
      refine pw_iload (q := 7) C dX11_markedBy_5 rfl rfl ?_
      refine pw_aload_n (q := 8) (j := 0) C dX11_markedBy_7 rfl rfl rfl ?_
      refine pw_bipush_n (q := 10) C 7 dX11_markedBy_8 (by decide +kernel) rfl ?_
      refine pw_ipg (q := 11) C dX11_markedBy_10 hM (by omega) (by omega) rfl ?_
      refine pw_icmp_ge_n (q := 14) 60 C dX11_markedBy_11 (by decide) rfl (by omega) (by omega) (fun g11 => ?_) (fun g11 => absurd g11 (by omega))
      refine pw_iload_n (q := 61) (j := 3) C dX11_markedBy_60 rfl rfl rfl ?_
      exact pw_iret C dX11_markedBy_61 rfl ⟨by omega, by omega⟩ (RV.mk (by rw [show s = P 7 by omega]; rfl) rfl)
    | succ d ih =>
      intro s hd
      have hs9 := hI.s (show s < P 7 by omega)
      refine pw_iload (q := 7) C dX11_markedBy_5 rfl rfl ?_
      refine pw_aload_n (q := 8) (j := 0) C dX11_markedBy_7 rfl rfl rfl ?_
      refine pw_bipush_n (q := 10) C 7 dX11_markedBy_8 (by decide +kernel) rfl ?_
      refine pw_ipg (q := 11) C dX11_markedBy_10 hM (by omega) (by omega) rfl ?_
      refine pw_icmp_ge_n (q := 14) 60 C dX11_markedBy_11 (by decide) rfl (by omega) (by omega) (fun g11 => absurd g11 (by omega)) (fun g11 => ?_)
      refine pw_iload_n (q := 15) (j := 3) C dX11_markedBy_14 rfl rfl rfl ?_
      refine pw_aload_n (q := 16) (j := 0) C dX11_markedBy_15 rfl rfl rfl ?_
      refine pw_bipush_n (q := 18) C 50 dX11_markedBy_16 (by decide +kernel) rfl ?_
      refine pw_bipush_n (q := 20) C 6 dX11_markedBy_18 (by decide +kernel) rfl ?_
      refine pw_iload (q := 22) C dX11_markedBy_20 rfl rfl ?_
      refine pw_imul_n (q := 23) C dX11_markedBy_22 rfl ?_
      refine pw_iadd_n (q := 24) C dX11_markedBy_23 rfl ?_
      refine pw_iconst_n (q := 25) C 1 dX11_markedBy_24 (by decide +kernel) rfl ?_
      refine pw_iadd_n (q := 26) C dX11_markedBy_25 rfl ?_
      refine pw_ipg (q := 27) C dX11_markedBy_26 hM (by omega) (by omega) rfl ?_
      refine pw_iload_n (q := 28) (j := 1) C dX11_markedBy_27 rfl rfl rfl ?_
      refine pw_icmp_ne_n (q := 31) 51 C dX11_markedBy_28 (by decide) rfl (by omega) (by omega) (fun g28 => ?_) (fun g28 => ?_)
      · refine pw_iconst_n (q := 52) C 0 dX11_markedBy_51 (by decide +kernel) rfl ?_
        refine pw_iadd_n (q := 53) C dX11_markedBy_52 rfl ?_
        refine pw_istore_n (q := 54) (j := 3) C dX11_markedBy_53 rfl rfl (by decide) rfl ?_
        refine pw_iinc_n (q := 57) C 1 dX11_markedBy_54 rfl (by decide +kernel) rfl (by decide) rfl ?_
        refine pw_goto (q := 0) 5 C dX11_markedBy_57 (by decide) ?_
        have e : cnt (fun s => P (50 + 6 * s + 1) = m ∧ P (50 + 6 * s + 3) = st) (s + 1) = cnt (fun s => P (50 + 6 * s + 1) = m ∧ P (50 + 6 * s + 3) = st) s + 0 := cnt_no (fun q => g28 q.1)
        rw [← e]
        exact ih (s + 1) (by omega)
      · refine pw_aload_n (q := 32) (j := 0) C dX11_markedBy_31 rfl rfl rfl ?_
        refine pw_bipush_n (q := 34) C 50 dX11_markedBy_32 (by decide +kernel) rfl ?_
        refine pw_bipush_n (q := 36) C 6 dX11_markedBy_34 (by decide +kernel) rfl ?_
        refine pw_iload (q := 38) C dX11_markedBy_36 rfl rfl ?_
        refine pw_imul_n (q := 39) C dX11_markedBy_38 rfl ?_
        refine pw_iadd_n (q := 40) C dX11_markedBy_39 rfl ?_
        refine pw_iconst_n (q := 41) C 3 dX11_markedBy_40 (by decide +kernel) rfl ?_
        refine pw_iadd_n (q := 42) C dX11_markedBy_41 rfl ?_
        refine pw_ipg (q := 43) C dX11_markedBy_42 hM (by omega) (by omega) rfl ?_
        refine pw_iload_n (q := 44) (j := 2) C dX11_markedBy_43 rfl rfl rfl ?_
        refine pw_icmp_ne_n (q := 47) 51 C dX11_markedBy_44 (by decide) rfl (by omega) (by omega) (fun g44 => ?_) (fun g44 => ?_)
        · refine pw_iconst_n (q := 52) C 0 dX11_markedBy_51 (by decide +kernel) rfl ?_
          refine pw_iadd_n (q := 53) C dX11_markedBy_52 rfl ?_
          refine pw_istore_n (q := 54) (j := 3) C dX11_markedBy_53 rfl rfl (by decide) rfl ?_
          refine pw_iinc_n (q := 57) C 1 dX11_markedBy_54 rfl (by decide +kernel) rfl (by decide) rfl ?_
          refine pw_goto (q := 0) 5 C dX11_markedBy_57 (by decide) ?_
          have e : cnt (fun s => P (50 + 6 * s + 1) = m ∧ P (50 + 6 * s + 3) = st) (s + 1) = cnt (fun s => P (50 + 6 * s + 1) = m ∧ P (50 + 6 * s + 3) = st) s + 0 := cnt_no (fun q => g44 q.2)
          rw [← e]
          exact ih (s + 1) (by omega)
        · refine pw_iconst_n (q := 48) C 1 dX11_markedBy_47 (by decide +kernel) rfl ?_
          refine pw_goto (q := 0) 52 C dX11_markedBy_48 (by decide) ?_
          refine pw_iadd_n (q := 53) C dX11_markedBy_52 rfl ?_
          refine pw_istore_n (q := 54) (j := 3) C dX11_markedBy_53 rfl rfl (by decide) rfl ?_
          refine pw_iinc_n (q := 57) C 1 dX11_markedBy_54 rfl (by decide +kernel) rfl (by decide) rfl ?_
          refine pw_goto (q := 0) 5 C dX11_markedBy_57 (by decide) ?_
          have e : cnt (fun s => P (50 + 6 * s + 1) = m ∧ P (50 + 6 * s + 3) = st) (s + 1) = cnt (fun s => P (50 + 6 * s + 1) = m ∧ P (50 + 6 * s + 3) = st) s + 1 := cnt_yes ⟨g28, g44⟩
          rw [← e]
          exact ih (s + 1) (by omega)
  refine pw_iconst_n (q := 1) C 0 dX11_markedBy_0 (by decide +kernel) rfl ?_
  refine pw_istore_n (q := 2) (j := 3) C dX11_markedBy_1 rfl rfl (by decide) rfl ?_
  refine pw_iconst_n (q := 3) C 0 dX11_markedBy_2 (by decide +kernel) rfl ?_
  refine pw_istore (q := 5) C dX11_markedBy_3 rfl (by decide) rfl ?_
  exact loop (P 7) 0 (by omega)
theorem in_i {c : Int32} {R : Nat} (hR : R < 2147483648) : ((0 : Int64) ≤ c.toInt64 ∧ c.toInt64 ≤ (nI R - nI 1).toInt64) ↔ inI c R := by
  have h0 : (0 : Int64).toInt = 0 := by decide +kernel
  have h1 : (0 : Int32).toInt = 0 := by decide +kernel
  unfold inI
  rw [Int64.le_iff_toInt_le, Int64.le_iff_toInt_le, Int32.toInt_toInt64, Int32.toInt_toInt64, Int32.toInt_sub, nI_toInt hR, nI_toInt (by omega), Int.bmod_eq_of_le (by omega) (by omega), h0, Int32.le_iff_toInt_le, Int32.lt_iff_toInt_lt, nI_toInt hR, h1]
  omega
set_option maxHeartbeats 200000 in
set_option maxRecDepth 100000 in
theorem m_isCourse {M : PH} {r : Nat} {P : Nat → Nat} (hM : PgAt M r P) (h9 : P 5 < 2147483648) (c : Int32) : Run iX11_isCourse [.ref r, .int c] M 0 0 (RV (.int (nI (bN (inI c (P 5))))) (fun M1 => M1 = M)) := by
  refine Run.of (l0 := [some (.ref r), some (.int c)]) (by decide +kernel) (Nat.le_of_ble_eq_true rfl) (by rfl) (fun Γ G C => ?_)
  refine pw_iload_n (q := 1) (j := 1) C dX11_isCourse_0 rfl rfl rfl ?_
  refine pw_i2l (q := 2) C dX11_isCourse_1 rfl ?_
  refine pw_lconst (q := 3) (v := 0) C dX11_isCourse_2 (by decide +kernel) rfl ?_
  refine pw_aload_n (q := 4) (j := 0) C dX11_isCourse_3 rfl rfl rfl ?_
  refine pw_iconst_n (q := 5) C 5 dX11_isCourse_4 (by decide +kernel) rfl ?_
  refine pw_ipg (q := 6) C dX11_isCourse_5 hM (by omega) (by omega) rfl ?_
  refine pw_iconst_n (q := 7) C 1 dX11_isCourse_6 (by decide +kernel) rfl ?_
  refine pw_isub (q := 8) C dX11_isCourse_7 rfl ?_
  refine pw_i2l (q := 9) C dX11_isCourse_8 rfl ?_
  refine pw_rd (q := 12) (cr_s (j := iX11_in) C dX11_isCourse_9 lX11_39 mX11_in (ro_mk (by decide) (by decide))  (m_in) rfl rfl (Nat.le_of_ble_eq_true rfl) ⟨by omega, by omega⟩) rfl ?_
  exact pw_zret C dX11_isCourse_12 rfl (by first | decide +kernel | exact nar_bN _ | exact nar_01 (by omega)) ⟨by omega, by omega⟩ (RV.mk (vbN (in_i h9)) rfl)
set_option maxHeartbeats 200000 in
set_option maxRecDepth 100000 in
theorem m_isMason {M : PH} {r : Nat} {P : Nat → Nat} (hM : PgAt M r P) (h9 : P 6 < 2147483648) (c : Int32) : Run iX11_isMason [.ref r, .int c] M 0 0 (RV (.int (nI (bN (inI c (P 6))))) (fun M1 => M1 = M)) := by
  refine Run.of (l0 := [some (.ref r), some (.int c)]) (by decide +kernel) (Nat.le_of_ble_eq_true rfl) (by rfl) (fun Γ G C => ?_)
  refine pw_iload_n (q := 1) (j := 1) C dX11_isMason_0 rfl rfl rfl ?_
  refine pw_i2l (q := 2) C dX11_isMason_1 rfl ?_
  refine pw_lconst (q := 3) (v := 0) C dX11_isMason_2 (by decide +kernel) rfl ?_
  refine pw_aload_n (q := 4) (j := 0) C dX11_isMason_3 rfl rfl rfl ?_
  refine pw_bipush_n (q := 6) C 6 dX11_isMason_4 (by decide +kernel) rfl ?_
  refine pw_ipg (q := 7) C dX11_isMason_6 hM (by omega) (by omega) rfl ?_
  refine pw_iconst_n (q := 8) C 1 dX11_isMason_7 (by decide +kernel) rfl ?_
  refine pw_isub (q := 9) C dX11_isMason_8 rfl ?_
  refine pw_i2l (q := 10) C dX11_isMason_9 rfl ?_
  refine pw_rd (q := 13) (cr_s (j := iX11_in) C dX11_isMason_10 lX11_39 mX11_in (ro_mk (by decide) (by decide))  (m_in) rfl rfl (Nat.le_of_ble_eq_true rfl) ⟨by omega, by omega⟩) rfl ?_
  exact pw_zret C dX11_isMason_13 rfl (by first | decide +kernel | exact nar_bN _ | exact nar_01 (by omega)) ⟨by omega, by omega⟩ (RV.mk (vbN (in_i h9)) rfl)
set_option maxHeartbeats 200000 in
set_option maxRecDepth 100000 in
theorem m_isStone {M : PH} {r : Nat} {P : Nat → Nat} (hM : PgAt M r P) (h9 : P 7 < 2147483648) (c : Int32) : Run iX11_isStone [.ref r, .int c] M 0 0 (RV (.int (nI (bN (inI c (P 7))))) (fun M1 => M1 = M)) := by
  refine Run.of (l0 := [some (.ref r), some (.int c)]) (by decide +kernel) (Nat.le_of_ble_eq_true rfl) (by rfl) (fun Γ G C => ?_)
  refine pw_iload_n (q := 1) (j := 1) C dX11_isStone_0 rfl rfl rfl ?_
  refine pw_i2l (q := 2) C dX11_isStone_1 rfl ?_
  refine pw_lconst (q := 3) (v := 0) C dX11_isStone_2 (by decide +kernel) rfl ?_
  refine pw_aload_n (q := 4) (j := 0) C dX11_isStone_3 rfl rfl rfl ?_
  refine pw_bipush_n (q := 6) C 7 dX11_isStone_4 (by decide +kernel) rfl ?_
  refine pw_ipg (q := 7) C dX11_isStone_6 hM (by omega) (by omega) rfl ?_
  refine pw_iconst_n (q := 8) C 1 dX11_isStone_7 (by decide +kernel) rfl ?_
  refine pw_isub (q := 9) C dX11_isStone_8 rfl ?_
  refine pw_i2l (q := 10) C dX11_isStone_9 rfl ?_
  refine pw_rd (q := 13) (cr_s (j := iX11_in) C dX11_isStone_10 lX11_39 mX11_in (ro_mk (by decide) (by decide))  (m_in) rfl rfl (Nat.le_of_ble_eq_true rfl) ⟨by omega, by omega⟩) rfl ?_
  exact pw_zret C dX11_isStone_13 rfl (by first | decide +kernel | exact nar_bN _ | exact nar_01 (by omega)) ⟨by omega, by omega⟩ (RV.mk (vbN (in_i h9)) rfl)
set_option maxHeartbeats 200000 in
set_option maxRecDepth 100000 in
theorem m_owed {M : PH} {r : Nat} {P : Nat → Nat} (hM : PgAt M r P) (hI : Inv P) : Run iX11_owedToAll [.ref r] M 0 0 (RV (.int (nI (owedAll P))) (fun M1 => M1 = M)) := by
  have hb := hI.b
  refine Run.of (l0 := [some (.ref r), none, none]) (by decide +kernel) (Nat.le_of_ble_eq_true rfl) (by rfl) (fun Γ G C => ?_)
  have loop : ∀ (d m : Nat), m + d = P 6 → PW Γ G (ZJ Γ G 0 0 (RV (.int (nI (owedAll P))) (fun M1 => M1 = M))) 4 [some (.ref r), some (.int (nI (sumN (fun m => P (26 + 4 * m + 3)) m))), some (.int (nI m))] [] M 0 0 := by
    intro d
    induction d with
    | zero =>
      intro m hd
      refine pw_iload_n (q := 5) (j := 2) C dX11_owedToAll_4 rfl rfl rfl ?_
      refine pw_aload_n (q := 6) (j := 0) C dX11_owedToAll_5 rfl rfl rfl ?_
      refine pw_bipush_n (q := 8) C 6 dX11_owedToAll_6 (by decide +kernel) rfl ?_
      refine pw_ipg (q := 9) C dX11_owedToAll_8 hM (by omega) (by omega) rfl ?_
      refine pw_icmp_ge_n (q := 12) 31 C dX11_owedToAll_9 (by decide) rfl (by omega) (by omega) (fun g9 => ?_) (fun g9 => absurd g9 (by omega))
      refine pw_iload_n (q := 32) (j := 1) C dX11_owedToAll_31 rfl rfl rfl ?_
      exact pw_iret C dX11_owedToAll_32 rfl ⟨by omega, by omega⟩ (RV.mk (by rw [show m = P 6 by omega]; rfl) rfl)
    | succ d ih =>
      intro m hd
      refine pw_iload_n (q := 5) (j := 2) C dX11_owedToAll_4 rfl rfl rfl ?_
      refine pw_aload_n (q := 6) (j := 0) C dX11_owedToAll_5 rfl rfl rfl ?_
      refine pw_bipush_n (q := 8) C 6 dX11_owedToAll_6 (by decide +kernel) rfl ?_
      refine pw_ipg (q := 9) C dX11_owedToAll_8 hM (by omega) (by omega) rfl ?_
      refine pw_icmp_ge_n (q := 12) 31 C dX11_owedToAll_9 (by decide) rfl (by omega) (by omega) (fun g9 => absurd g9 (by omega)) (fun g9 => ?_)
      refine pw_iload_n (q := 13) (j := 1) C dX11_owedToAll_12 rfl rfl rfl ?_
      refine pw_aload_n (q := 14) (j := 0) C dX11_owedToAll_13 rfl rfl rfl ?_
      refine pw_bipush_n (q := 16) C 26 dX11_owedToAll_14 (by decide +kernel) rfl ?_
      refine pw_iconst_n (q := 17) C 4 dX11_owedToAll_16 (by decide +kernel) rfl ?_
      refine pw_iload_n (q := 18) (j := 2) C dX11_owedToAll_17 rfl rfl rfl ?_
      refine pw_imul_n (q := 19) C dX11_owedToAll_18 rfl ?_
      refine pw_iadd_n (q := 20) C dX11_owedToAll_19 rfl ?_
      refine pw_iconst_n (q := 21) C 3 dX11_owedToAll_20 (by decide +kernel) rfl ?_
      refine pw_iadd_n (q := 22) C dX11_owedToAll_21 rfl ?_
      refine pw_ipg (q := 23) C dX11_owedToAll_22 hM (by omega) (by omega) rfl ?_
      refine pw_iadd_n (q := 24) C dX11_owedToAll_23 rfl ?_
      refine pw_istore_n (q := 25) (j := 1) C dX11_owedToAll_24 rfl rfl (by decide) rfl ?_
      refine pw_iinc_n (q := 28) C 1 dX11_owedToAll_25 rfl (by decide +kernel) rfl (by decide) rfl ?_
      refine pw_goto (q := 0) 4 C dX11_owedToAll_28 (by decide) ?_
      exact ih (m + 1) (by omega)
  refine pw_iconst_n (q := 1) C 0 dX11_owedToAll_0 (by decide +kernel) rfl ?_
  refine pw_istore_n (q := 2) (j := 1) C dX11_owedToAll_1 rfl rfl (by decide) rfl ?_
  refine pw_iconst_n (q := 3) C 0 dX11_owedToAll_2 (by decide +kernel) rfl ?_
  refine pw_istore_n (q := 4) (j := 2) C dX11_owedToAll_3 rfl rfl (by decide) rfl ?_
  exact loop (P 6) 0 (by omega)
set_option maxHeartbeats 200000 in
set_option maxRecDepth 100000 in
theorem m_isComplete {M : PH} {r : Nat} {P : Nat → Nat} (hM : PgAt M r P) (hI : Inv P) {c : Nat} (hc : c < P 5) : Run iX11_isComplete [.ref r, .int (nI c)] M 0 0 (RV (.int (nI (bN (P (8 + 3 * c + 2) ≤ cntC P c 3)))) (fun M1 => M1 = M)) := by
  have hb := hI.b
  have hc9 := hI.c hc
  have q9 := cntC_le hI c 3
  refine Run.of (l0 := [some (.ref r), some (.int (nI c))]) (by decide +kernel) (Nat.le_of_ble_eq_true rfl) (by rfl) (fun Γ G C => ?_)
  refine pw_aload_n (q := 1) (j := 0) C dX11_isComplete_0 rfl rfl rfl ?_
  refine pw_iload_n (q := 2) (j := 1) C dX11_isComplete_1 rfl rfl rfl ?_
  refine pw_iconst_n (q := 3) C 3 dX11_isComplete_2 (by decide +kernel) rfl ?_
  refine pw_rd (q := 6) (cr_s (j := iX11_stonesOf) C dX11_isComplete_3 lX11_43 mX11_stonesOf (ro_mk (by decide) (by decide))  (m_stonesOf hM hI (by omega) (by omega)) rfl rfl (Nat.le_of_ble_eq_true rfl) ⟨by omega, by omega⟩) rfl ?_
  refine pw_aload_n (q := 7) (j := 0) C dX11_isComplete_6 rfl rfl rfl ?_
  refine pw_iload_n (q := 8) (j := 1) C dX11_isComplete_7 rfl rfl rfl ?_
  refine pw_rd (q := 11) (cr_s (j := iX11_neededOf) C dX11_isComplete_8 lX11_47 mX11_neededOf (ro_mk (by decide) (by decide))  (m_needed hM (by omega)) rfl rfl (Nat.le_of_ble_eq_true rfl) ⟨by omega, by omega⟩) rfl ?_
  refine pw_icmp_lt_n (q := 14) 18 C dX11_isComplete_11 (by decide) rfl (by omega) (by omega) (fun g11 => ?_) (fun g11 => ?_)
  · refine pw_iconst_n (q := 19) C 0 dX11_isComplete_18 (by decide +kernel) rfl ?_
    exact pw_zret C dX11_isComplete_19 rfl (by first | decide +kernel | exact nar_bN _ | exact nar_01 (by omega)) ⟨by omega, by omega⟩ (RV.mk (v0 (by omega)) rfl)
  · refine pw_iconst_n (q := 15) C 1 dX11_isComplete_14 (by decide +kernel) rfl ?_
    refine pw_goto (q := 0) 19 C dX11_isComplete_15 (by decide) ?_
    exact pw_zret C dX11_isComplete_19 rfl (by first | decide +kernel | exact nar_bN _ | exact nar_01 (by omega)) ⟨by omega, by omega⟩ (RV.mk (v1 (by omega)) rfl)
set_option maxHeartbeats 200000 in
set_option maxRecDepth 100000 in
theorem m_canCut {M : PH} {r : Nat} {P : Nat → Nat} (hM : PgAt M r P) (hI : Inv P) {m c : Nat} (hm : m < P 6) (hc : c < P 5) : Run iX11_canCut [.ref r, .int (nI m), .int (nI c)] M 0 0 (RV (.int (nI (bN (canCut P m c)))) (fun M1 => M1 = M)) := by
  have hb := hI.b
  have hc9 := hI.c hc
  have hm9 := hI.m hm
  refine Run.of (l0 := [some (.ref r), some (.int (nI m)), some (.int (nI c))]) (by decide +kernel) (Nat.le_of_ble_eq_true rfl) (by rfl) (fun Γ G C => ?_)
  refine pw_aload_n (q := 1) (j := 0) C dX11_canCut_0 rfl rfl rfl ?_
  refine pw_bipush_n (q := 3) C 26 dX11_canCut_1 (by decide +kernel) rfl ?_
  refine pw_iconst_n (q := 4) C 4 dX11_canCut_3 (by decide +kernel) rfl ?_
  refine pw_iload_n (q := 5) (j := 1) C dX11_canCut_4 rfl rfl rfl ?_
  refine pw_imul_n (q := 6) C dX11_canCut_5 rfl ?_
  refine pw_iadd_n (q := 7) C dX11_canCut_6 rfl ?_
  refine pw_iconst_n (q := 8) C 2 dX11_canCut_7 (by decide +kernel) rfl ?_
  refine pw_iadd_n (q := 9) C dX11_canCut_8 rfl ?_
  refine pw_ipg (q := 10) C dX11_canCut_9 hM (by omega) (by omega) rfl ?_
  refine pw_aload_n (q := 11) (j := 0) C dX11_canCut_10 rfl rfl rfl ?_
  refine pw_iload_n (q := 12) (j := 2) C dX11_canCut_11 rfl rfl rfl ?_
  refine pw_rd (q := 15) (cr_s (j := iX11_facesOf) C dX11_canCut_12 lX11_51 mX11_facesOf (ro_mk (by decide) (by decide))  (m_faces hM (by omega)) rfl rfl (Nat.le_of_ble_eq_true rfl) ⟨by omega, by omega⟩) rfl ?_
  refine pw_icmp_lt_n (q := 18) 31 C dX11_canCut_15 (by decide) rfl (by omega) (by omega) (fun g15 => ?_) (fun g15 => ?_)
  · refine pw_iconst_n (q := 32) C 0 dX11_canCut_31 (by decide +kernel) rfl ?_
    exact pw_zret C dX11_canCut_32 rfl (by first | decide +kernel | exact nar_bN _ | exact nar_01 (by omega)) ⟨by omega, by omega⟩ (RV.mk (v0 (fun q => by have := q.1; omega)) rfl)
  · refine pw_aload_n (q := 19) (j := 0) C dX11_canCut_18 rfl rfl rfl ?_
    refine pw_bipush_n (q := 21) C 7 dX11_canCut_19 (by decide +kernel) rfl ?_
    refine pw_ipg (q := 22) C dX11_canCut_21 hM (by omega) (by omega) rfl ?_
    refine pw_bipush_n (q := 24) C 24 dX11_canCut_22 (by decide +kernel) rfl ?_
    refine pw_icmp_ge_n (q := 27) 31 C dX11_canCut_24 (by decide) rfl (by omega) (by omega) (fun g24 => ?_) (fun g24 => ?_)
    · refine pw_iconst_n (q := 32) C 0 dX11_canCut_31 (by decide +kernel) rfl ?_
      exact pw_zret C dX11_canCut_32 rfl (by first | decide +kernel | exact nar_bN _ | exact nar_01 (by omega)) ⟨by omega, by omega⟩ (RV.mk (v0 (fun q => by have := q.2; omega)) rfl)
    · refine pw_iconst_n (q := 28) C 1 dX11_canCut_27 (by decide +kernel) rfl ?_
      refine pw_goto (q := 0) 32 C dX11_canCut_28 (by decide) ?_
      exact pw_zret C dX11_canCut_32 rfl (by first | decide +kernel | exact nar_bN _ | exact nar_01 (by omega)) ⟨by omega, by omega⟩ (RV.mk (v1 ⟨by omega, by omega⟩) rfl)
theorem neg2 {a b c : Nat} (h : ¬ b + c ≤ a) (ha : a < 1000) (hb : b < 1000) (hc : c < 1000) : ¬ 0 ≤ nI a - nI b - nI c := by
  intro q
  have h1 := Int32.le_iff_toInt_le.mp q
  have h0 : (0 : Int32).toInt = 0 := by decide +kernel
  rw [Int32.toInt_sub, Int32.toInt_sub, nI_toInt (by omega), nI_toInt (by omega), nI_toInt (by omega), h0] at h1
  rw [Int.bmod_eq_of_le (n := (a : Int) - b) (by omega) (by omega), Int.bmod_eq_of_le (by omega) (by omega)] at h1
  omega
set_option maxHeartbeats 200000 in
set_option maxRecDepth 100000 in
theorem m_lacks {M : PH} {r : Nat} {P : Nat → Nat} (hM : PgAt M r P) (hI : Inv P) {c : Nat} (hc : c < P 5) : Run iX11_lacks [.ref r, .int (nI c)] M 0 0 (RV (.int (nI (lacks P c))) (fun M1 => M1 = M)) := by
  have hb := hI.b
  have hc9 := hI.c hc
  have q9 := cntC_le hI c 3
  have q8 := cntC_le hI c 1
  have e9 : lacks P c = P (8 + 3 * c + 2) - (cntC P c 3 + cntC P c 1) := rfl
  refine Run.of (l0 := [some (.ref r), some (.int (nI c)), none]) (by decide +kernel) (Nat.le_of_ble_eq_true rfl) (by rfl) (fun Γ G C => ?_)
  refine pw_aload_n (q := 1) (j := 0) C dX11_lacks_0 rfl rfl rfl ?_
  refine pw_iload_n (q := 2) (j := 1) C dX11_lacks_1 rfl rfl rfl ?_
  refine pw_rd (q := 5) (cr_s (j := iX11_neededOf) C dX11_lacks_2 lX11_47 mX11_neededOf (ro_mk (by decide) (by decide))  (m_needed hM (by omega)) rfl rfl (Nat.le_of_ble_eq_true rfl) ⟨by omega, by omega⟩) rfl ?_
  refine pw_aload_n (q := 6) (j := 0) C dX11_lacks_5 rfl rfl rfl ?_
  refine pw_iload_n (q := 7) (j := 1) C dX11_lacks_6 rfl rfl rfl ?_
  refine pw_iconst_n (q := 8) C 3 dX11_lacks_7 (by decide +kernel) rfl ?_
  refine pw_rd (q := 11) (cr_s (j := iX11_stonesOf) C dX11_lacks_8 lX11_43 mX11_stonesOf (ro_mk (by decide) (by decide))  (m_stonesOf hM hI (by omega) (by omega)) rfl rfl (Nat.le_of_ble_eq_true rfl) ⟨by omega, by omega⟩) rfl ?_
  by_cases h3 : cntC P c 3 + cntC P c 1 ≤ P (8 + 3 * c + 2)
  · refine pw_isub_n (q := 12) C dX11_lacks_11 (by omega) rfl ?_
    refine pw_aload_n (q := 13) (j := 0) C dX11_lacks_12 rfl rfl rfl ?_
    refine pw_iload_n (q := 14) (j := 1) C dX11_lacks_13 rfl rfl rfl ?_
    refine pw_iconst_n (q := 15) C 1 dX11_lacks_14 (by decide +kernel) rfl ?_
    refine pw_rd (q := 18) (cr_s (j := iX11_stonesOf) C dX11_lacks_15 lX11_43 mX11_stonesOf (ro_mk (by decide) (by decide))  (m_stonesOf hM hI (by omega) (by omega)) rfl rfl (Nat.le_of_ble_eq_true rfl) ⟨by omega, by omega⟩) rfl ?_
    refine pw_isub_n (q := 19) C dX11_lacks_18 (by omega) rfl ?_
    refine pw_istore_n (q := 20) (j := 2) C dX11_lacks_19 rfl rfl (by decide) rfl ?_
    refine pw_iload_n (q := 21) (j := 2) C dX11_lacks_20 rfl rfl rfl ?_
    refine pw_if_ge (q := 24) 28 C dX11_lacks_21 (by decide) rfl (fun g21 => ?_) (fun g21 => absurd (nI_pos' (by omega)) g21)
    refine pw_iload_n (q := 29) (j := 2) C dX11_lacks_28 rfl rfl rfl ?_
    exact pw_iret C dX11_lacks_29 rfl ⟨by omega, by omega⟩ (RV.mk (vnI (by omega)) rfl)
  · refine pw_isub (q := 12) C dX11_lacks_11 rfl ?_
    refine pw_aload_n (q := 13) (j := 0) C dX11_lacks_12 rfl rfl rfl ?_
    refine pw_iload_n (q := 14) (j := 1) C dX11_lacks_13 rfl rfl rfl ?_
    refine pw_iconst_n (q := 15) C 1 dX11_lacks_14 (by decide +kernel) rfl ?_
    refine pw_rd (q := 18) (cr_s (j := iX11_stonesOf) C dX11_lacks_15 lX11_43 mX11_stonesOf (ro_mk (by decide) (by decide))  (m_stonesOf hM hI (by omega) (by omega)) rfl rfl (Nat.le_of_ble_eq_true rfl) ⟨by omega, by omega⟩) rfl ?_
    refine pw_isub (q := 19) C dX11_lacks_18 rfl ?_
    refine pw_istore_n (q := 20) (j := 2) C dX11_lacks_19 rfl rfl (by decide) rfl ?_
    refine pw_iload_n (q := 21) (j := 2) C dX11_lacks_20 rfl rfl rfl ?_
    refine pw_if_ge (q := 24) 28 C dX11_lacks_21 (by decide) rfl (fun g21 => absurd g21 (neg2 h3 (by omega) (by omega) (by omega))) (fun g21 => ?_)
    refine pw_iconst_n (q := 25) C 0 dX11_lacks_24 (by decide +kernel) rfl ?_
    refine pw_goto (q := 0) 29 C dX11_lacks_25 (by decide) ?_
    exact pw_iret C dX11_lacks_29 rfl ⟨by omega, by omega⟩ (RV.mk (vnI (by omega)) rfl)
set_option maxHeartbeats 200000 in
set_option maxRecDepth 100000 in
theorem m_price {M : PH} {r : Nat} {P : Nat → Nat} (hM : PgAt M r P) (hI : Inv P) {s : Nat} (hs : s < P 7) : Run iX11_priceOf [.ref r, .int (nI s)] M 0 0 (RV (.int (nI (price P s))) (fun M1 => M1 = M)) := by
  have hb := hI.b
  have hs9 := hI.s hs
  obtain ⟨hs1, hs2, -⟩ := id hs9
  have hc9 := hI.c hs1
  have hm9 := hI.m hs2
  have q1 : P (8 + 3 * P (50 + 6 * s) + 1) * P (26 + 4 * P (50 + 6 * s + 1)) ≤ 6 * 9 := Nat.mul_le_mul hc9.2.2.2.1 hm9.2.1
  refine Run.of (l0 := [some (.ref r), some (.int (nI s)), none, none]) (by decide +kernel) (Nat.le_of_ble_eq_true rfl) (by rfl) (fun Γ G C => ?_)
  refine pw_bipush_n (q := 2) C 50 dX11_priceOf_0 (by decide +kernel) rfl ?_
  refine pw_bipush_n (q := 4) C 6 dX11_priceOf_2 (by decide +kernel) rfl ?_
  refine pw_iload_n (q := 5) (j := 1) C dX11_priceOf_4 rfl rfl rfl ?_
  refine pw_imul_n (q := 6) C dX11_priceOf_5 rfl ?_
  refine pw_iadd_n (q := 7) C dX11_priceOf_6 rfl ?_
  refine pw_istore_n (q := 8) (j := 2) C dX11_priceOf_7 rfl rfl (by decide) rfl ?_
  refine pw_aload_n (q := 9) (j := 0) C dX11_priceOf_8 rfl rfl rfl ?_
  refine pw_aload_n (q := 10) (j := 0) C dX11_priceOf_9 rfl rfl rfl ?_
  refine pw_iload_n (q := 11) (j := 2) C dX11_priceOf_10 rfl rfl rfl ?_
  refine pw_ipg (q := 12) C dX11_priceOf_11 hM (by omega) (by omega) rfl ?_
  refine pw_rd (q := 15) (cr_s (j := iX11_facesOf) C dX11_priceOf_12 lX11_51 mX11_facesOf (ro_mk (by decide) (by decide))  (m_faces hM (by omega)) rfl rfl (Nat.le_of_ble_eq_true rfl) ⟨by omega, by omega⟩) rfl ?_
  refine pw_aload_n (q := 16) (j := 0) C dX11_priceOf_15 rfl rfl rfl ?_
  refine pw_bipush_n (q := 18) C 26 dX11_priceOf_16 (by decide +kernel) rfl ?_
  refine pw_iconst_n (q := 19) C 4 dX11_priceOf_18 (by decide +kernel) rfl ?_
  refine pw_aload_n (q := 20) (j := 0) C dX11_priceOf_19 rfl rfl rfl ?_
  refine pw_iload_n (q := 21) (j := 2) C dX11_priceOf_20 rfl rfl rfl ?_
  refine pw_iconst_n (q := 22) C 1 dX11_priceOf_21 (by decide +kernel) rfl ?_
  refine pw_iadd_n (q := 23) C dX11_priceOf_22 rfl ?_
  refine pw_ipg (q := 24) C dX11_priceOf_23 hM (by omega) (by omega) rfl ?_
  refine pw_imul_n (q := 25) C dX11_priceOf_24 rfl ?_
  refine pw_iadd_n (q := 26) C dX11_priceOf_25 rfl ?_
  refine pw_ipg (q := 27) C dX11_priceOf_26 hM (by omega) (by omega) rfl ?_
  refine pw_imul_n (q := 28) C dX11_priceOf_27 rfl ?_
  refine pw_istore_n (q := 29) (j := 3) C dX11_priceOf_28 rfl rfl (by decide) rfl ?_
  refine pw_aload_n (q := 30) (j := 0) C dX11_priceOf_29 rfl rfl rfl ?_
  refine pw_iload_n (q := 31) (j := 2) C dX11_priceOf_30 rfl rfl rfl ?_
  refine pw_iconst_n (q := 32) C 4 dX11_priceOf_31 (by decide +kernel) rfl ?_
  refine pw_iadd_n (q := 33) C dX11_priceOf_32 rfl ?_
  refine pw_ipg (q := 34) C dX11_priceOf_33 hM (by omega) (by omega) rfl ?_
  refine pw_if_le_n (q := 37) 43 C dX11_priceOf_34 (by decide) rfl (by omega) (fun g34 => ?_) (fun g34 => ?_)
  · refine pw_iload_n (q := 44) (j := 3) C dX11_priceOf_43 rfl rfl rfl ?_
    exact pw_iret C dX11_priceOf_44 rfl ⟨by omega, by omega⟩ (RV.mk (vnI (by unfold price; rw [if_neg (by omega)])) rfl)
  · refine pw_iload_n (q := 38) (j := 3) C dX11_priceOf_37 rfl rfl rfl ?_
    refine pw_iconst_n (q := 39) C 2 dX11_priceOf_38 (by decide +kernel) rfl ?_
    refine pw_idiv_n (q := 40) C dX11_priceOf_39 (by omega) (by omega) (by omega) rfl ?_
    refine pw_goto (q := 0) 44 C dX11_priceOf_40 (by decide) ?_
    exact pw_iret C dX11_priceOf_44 rfl ⟨by omega, by omega⟩ (RV.mk (vnI (by unfold price; rw [if_pos (by omega)])) rfl)
set_option maxHeartbeats 200000 in
set_option maxRecDepth 100000 in
theorem m_canRecut {M : PH} {r : Nat} {P : Nat → Nat} (hM : PgAt M r P) (hI : Inv P) {m s c : Nat} (hm : m < P 6) (hs : s < P 7) (hc : c < P 5) : Run iX11_canRecut [.ref r, .int (nI m), .int (nI s), .int (nI c)] M 0 0 (RV (.int (nI (bN (canRecut P m s c)))) (fun M1 => M1 = M)) := by
  have hb := hI.b
  have hs9 := hI.s hs
  obtain ⟨hs1, hs2, -⟩ := id hs9
  have hc8 := hI.c hs1
  have hc9 := hI.c hc
  have hm9 := hI.m hm
  refine Run.of (l0 := [some (.ref r), some (.int (nI m)), some (.int (nI s)), some (.int (nI c)), none]) (by decide +kernel) (Nat.le_of_ble_eq_true rfl) (by rfl) (fun Γ G C => ?_)
  refine pw_bipush_n (q := 2) C 50 dX11_canRecut_0 (by decide +kernel) rfl ?_
  refine pw_bipush_n (q := 4) C 6 dX11_canRecut_2 (by decide +kernel) rfl ?_
  refine pw_iload_n (q := 5) (j := 2) C dX11_canRecut_4 rfl rfl rfl ?_
  refine pw_imul_n (q := 6) C dX11_canRecut_5 rfl ?_
  refine pw_iadd_n (q := 7) C dX11_canRecut_6 rfl ?_
  refine pw_istore (q := 9) C dX11_canRecut_7 rfl (by decide) rfl ?_
  refine pw_aload_n (q := 10) (j := 0) C dX11_canRecut_9 rfl rfl rfl ?_
  refine pw_iload (q := 12) C dX11_canRecut_10 rfl rfl ?_
  refine pw_iconst_n (q := 13) C 3 dX11_canRecut_12 (by decide +kernel) rfl ?_
  refine pw_iadd_n (q := 14) C dX11_canRecut_13 rfl ?_
  refine pw_ipg (q := 15) C dX11_canRecut_14 hM (by omega) (by omega) rfl ?_
  refine pw_iconst_n (q := 16) C 2 dX11_canRecut_15 (by decide +kernel) rfl ?_
  refine pw_icmp_ne_n (q := 19) 61 C dX11_canRecut_16 (by decide) rfl (by omega) (by omega) (fun g16 => ?_) (fun g16 => ?_)
  · refine pw_iconst_n (q := 62) C 0 dX11_canRecut_61 (by decide +kernel) rfl ?_
    exact pw_zret C dX11_canRecut_62 rfl (by first | decide +kernel | exact nar_bN _ | exact nar_01 (by omega)) ⟨by omega, by omega⟩ (RV.mk (v0 (fun q => g16 q.1)) rfl)
  · refine pw_aload_n (q := 20) (j := 0) C dX11_canRecut_19 rfl rfl rfl ?_
    refine pw_iload_n (q := 21) (j := 3) C dX11_canRecut_20 rfl rfl rfl ?_
    refine pw_rd (q := 24) (cr_s (j := iX11_sizeOf) C dX11_canRecut_21 lX11_61 mX11_sizeOf (ro_mk (by decide) (by decide))  (m_size hM (by omega)) rfl rfl (Nat.le_of_ble_eq_true rfl) ⟨by omega, by omega⟩) rfl ?_
    refine pw_aload_n (q := 25) (j := 0) C dX11_canRecut_24 rfl rfl rfl ?_
    refine pw_aload_n (q := 26) (j := 0) C dX11_canRecut_25 rfl rfl rfl ?_
    refine pw_iload (q := 28) C dX11_canRecut_26 rfl rfl ?_
    refine pw_ipg (q := 29) C dX11_canRecut_28 hM (by omega) (by omega) rfl ?_
    refine pw_rd (q := 32) (cr_s (j := iX11_sizeOf) C dX11_canRecut_29 lX11_61 mX11_sizeOf (ro_mk (by decide) (by decide))  (m_size hM (by omega)) rfl rfl (Nat.le_of_ble_eq_true rfl) ⟨by omega, by omega⟩) rfl ?_
    refine pw_icmp_ge_n (q := 35) 61 C dX11_canRecut_32 (by decide) rfl (by omega) (by omega) (fun g32 => ?_) (fun g32 => ?_)
    · refine pw_iconst_n (q := 62) C 0 dX11_canRecut_61 (by decide +kernel) rfl ?_
      exact pw_zret C dX11_canRecut_62 rfl (by first | decide +kernel | exact nar_bN _ | exact nar_01 (by omega)) ⟨by omega, by omega⟩ (RV.mk (v0 (fun q => absurd q.2.1 (by omega))) rfl)
    · refine pw_aload_n (q := 36) (j := 0) C dX11_canRecut_35 rfl rfl rfl ?_
      refine pw_bipush_n (q := 38) C 26 dX11_canRecut_36 (by decide +kernel) rfl ?_
      refine pw_iconst_n (q := 39) C 4 dX11_canRecut_38 (by decide +kernel) rfl ?_
      refine pw_iload_n (q := 40) (j := 1) C dX11_canRecut_39 rfl rfl rfl ?_
      refine pw_imul_n (q := 41) C dX11_canRecut_40 rfl ?_
      refine pw_iadd_n (q := 42) C dX11_canRecut_41 rfl ?_
      refine pw_iconst_n (q := 43) C 2 dX11_canRecut_42 (by decide +kernel) rfl ?_
      refine pw_iadd_n (q := 44) C dX11_canRecut_43 rfl ?_
      refine pw_ipg (q := 45) C dX11_canRecut_44 hM (by omega) (by omega) rfl ?_
      refine pw_aload_n (q := 46) (j := 0) C dX11_canRecut_45 rfl rfl rfl ?_
      refine pw_iload_n (q := 47) (j := 3) C dX11_canRecut_46 rfl rfl rfl ?_
      refine pw_rd (q := 50) (cr_s (j := iX11_facesOf) C dX11_canRecut_47 lX11_51 mX11_facesOf (ro_mk (by decide) (by decide))  (m_faces hM (by omega)) rfl rfl (Nat.le_of_ble_eq_true rfl) ⟨by omega, by omega⟩) rfl ?_
      refine pw_iconst_n (q := 51) C 1 dX11_canRecut_50 (by decide +kernel) rfl ?_
      refine pw_iadd_n (q := 52) C dX11_canRecut_51 rfl ?_
      refine pw_iconst_n (q := 53) C 2 dX11_canRecut_52 (by decide +kernel) rfl ?_
      refine pw_idiv_n (q := 54) C dX11_canRecut_53 (by omega) (by omega) (by omega) rfl ?_
      refine pw_icmp_lt_n (q := 57) 61 C dX11_canRecut_54 (by decide) rfl (by omega) (by omega) (fun g54 => ?_) (fun g54 => ?_)
      · refine pw_iconst_n (q := 62) C 0 dX11_canRecut_61 (by decide +kernel) rfl ?_
        exact pw_zret C dX11_canRecut_62 rfl (by first | decide +kernel | exact nar_bN _ | exact nar_01 (by omega)) ⟨by omega, by omega⟩ (RV.mk (v0 (fun q => absurd q.2.2 (by omega))) rfl)
      · refine pw_iconst_n (q := 58) C 1 dX11_canRecut_57 (by decide +kernel) rfl ?_
        refine pw_goto (q := 0) 62 C dX11_canRecut_58 (by decide) ?_
        exact pw_zret C dX11_canRecut_62 rfl (by first | decide +kernel | exact nar_bN _ | exact nar_01 (by omega)) ⟨by omega, by omega⟩ (RV.mk (v1 ⟨by omega, by omega, by omega⟩) rfl)
