/-! The reference: pages. -/
abbrev PgAt (M : PH) (r : Nat) (P : Nat → Nat) : Prop := M.2 r = some (.inl (0, 194, .inl (pg P)))
set_option maxHeartbeats 200000 in
set_option maxRecDepth 100000 in
theorem m_in {M : PH} {v l h : Int64} : Run iX11_in [.long v, .long l, .long h] M 0 0 (RV (.int (nI (bN (l ≤ v ∧ v ≤ h)))) (fun M1 => M1 = M)) := by
  refine Run.of (l0 := [some (.long v), none, some (.long l), none, some (.long h), none]) (by decide +kernel) (Nat.le_of_ble_eq_true rfl) (by rfl) (fun Γ G C => ?_)
  refine pw_lload_n (q := 1) (j := 0) C dX11_in_0 rfl rfl rfl ?_
  refine pw_lload_n (q := 2) (j := 2) C dX11_in_1 rfl rfl rfl ?_
  refine pw_lcmp (q := 3) C dX11_in_2 rfl ?_
  refine pw_if_lt (q := 6) 17 C dX11_in_3 (by decide) rfl (fun g3 => ?_) (fun g3 => ?_)
  · refine pw_iconst_n (q := 18) C 0 dX11_in_17 (by decide +kernel) rfl ?_
    exact pw_zret C dX11_in_18 rfl (by first | decide +kernel | exact nar_bN _ | exact nar_01 (by omega)) ⟨by omega, by omega⟩ (RV.mk (v0 (fun q => absurd ((lg_cmp_lt _ _).mp g3) (Int64.not_lt.mpr q.1))) rfl)
  · refine pw_lload_n (q := 7) (j := 0) C dX11_in_6 rfl rfl rfl ?_
    refine pw_lload (q := 9) C dX11_in_7 rfl rfl ?_
    refine pw_lcmp (q := 10) C dX11_in_9 rfl ?_
    refine pw_if_gt (q := 13) 17 C dX11_in_10 (by decide) rfl (fun g10 => ?_) (fun g10 => ?_)
    · refine pw_iconst_n (q := 18) C 0 dX11_in_17 (by decide +kernel) rfl ?_
      exact pw_zret C dX11_in_18 rfl (by first | decide +kernel | exact nar_bN _ | exact nar_01 (by omega)) ⟨by omega, by omega⟩ (RV.mk (v0 (fun q => absurd ((lg_cmp_gt _ _).mp g10) (Int64.not_lt.mpr q.2))) rfl)
    · refine pw_iconst_n (q := 14) C 1 dX11_in_13 (by decide +kernel) rfl ?_
      refine pw_goto (q := 0) 18 C dX11_in_14 (by decide) ?_
      exact pw_zret C dX11_in_18 rfl (by first | decide +kernel | exact nar_bN _ | exact nar_01 (by omega)) ⟨by omega, by omega⟩ (RV.mk (v1 ⟨Int64.not_lt.mp (fun q => g3 ((lg_cmp_lt _ _).mpr q)), Int64.not_lt.mp (fun q => g10 ((lg_cmp_gt _ _).mpr q))⟩) rfl)
set_option maxHeartbeats 200000 in
set_option maxRecDepth 100000 in
theorem m_size {M : PH} {r : Nat} {P : Nat → Nat} (hM : PgAt M r P) {c : Nat} (hc : c < 6) : Run iX11_sizeOf [.ref r, .int (nI c)] M 0 0 (RV (.int (nI (P (8 + 3 * c)))) (fun M1 => M1 = M)) := by
  refine Run.of (l0 := [some (.ref r), some (.int (nI c))]) (by decide +kernel) (Nat.le_of_ble_eq_true rfl) (by rfl) (fun Γ G C => ?_)
  refine pw_aload_n (q := 1) (j := 0) C dX11_sizeOf_0 rfl rfl rfl ?_
  refine pw_bipush_n (q := 3) C 8 dX11_sizeOf_1 (by decide +kernel) rfl ?_
  refine pw_iconst_n (q := 4) C 3 dX11_sizeOf_3 (by decide +kernel) rfl ?_
  refine pw_iload_n (q := 5) (j := 1) C dX11_sizeOf_4 rfl rfl rfl ?_
  refine pw_imul_n (q := 6) C dX11_sizeOf_5 rfl ?_
  refine pw_iadd_n (q := 7) C dX11_sizeOf_6 rfl ?_
  refine pw_ipg (q := 8) C dX11_sizeOf_7 hM (by omega) (by omega) rfl ?_
  exact pw_iret C dX11_sizeOf_8 rfl ⟨by omega, by omega⟩ (RV.mk (by rfl) rfl)
set_option maxHeartbeats 200000 in
set_option maxRecDepth 100000 in
theorem m_faces {M : PH} {r : Nat} {P : Nat → Nat} (hM : PgAt M r P) {c : Nat} (hc : c < 6) : Run iX11_facesOf [.ref r, .int (nI c)] M 0 0 (RV (.int (nI (P (8 + 3 * c + 1)))) (fun M1 => M1 = M)) := by
  refine Run.of (l0 := [some (.ref r), some (.int (nI c))]) (by decide +kernel) (Nat.le_of_ble_eq_true rfl) (by rfl) (fun Γ G C => ?_)
  refine pw_aload_n (q := 1) (j := 0) C dX11_facesOf_0 rfl rfl rfl ?_
  refine pw_bipush_n (q := 3) C 8 dX11_facesOf_1 (by decide +kernel) rfl ?_
  refine pw_iconst_n (q := 4) C 3 dX11_facesOf_3 (by decide +kernel) rfl ?_
  refine pw_iload_n (q := 5) (j := 1) C dX11_facesOf_4 rfl rfl rfl ?_
  refine pw_imul_n (q := 6) C dX11_facesOf_5 rfl ?_
  refine pw_iadd_n (q := 7) C dX11_facesOf_6 rfl ?_
  refine pw_iconst_n (q := 8) C 1 dX11_facesOf_7 (by decide +kernel) rfl ?_
  refine pw_iadd_n (q := 9) C dX11_facesOf_8 rfl ?_
  refine pw_ipg (q := 10) C dX11_facesOf_9 hM (by omega) (by omega) rfl ?_
  exact pw_iret C dX11_facesOf_10 rfl ⟨by omega, by omega⟩ (RV.mk (by rfl) rfl)
set_option maxHeartbeats 200000 in
set_option maxRecDepth 100000 in
theorem m_needed {M : PH} {r : Nat} {P : Nat → Nat} (hM : PgAt M r P) {c : Nat} (hc : c < 6) : Run iX11_neededOf [.ref r, .int (nI c)] M 0 0 (RV (.int (nI (P (8 + 3 * c + 2)))) (fun M1 => M1 = M)) := by
  refine Run.of (l0 := [some (.ref r), some (.int (nI c))]) (by decide +kernel) (Nat.le_of_ble_eq_true rfl) (by rfl) (fun Γ G C => ?_)
  refine pw_aload_n (q := 1) (j := 0) C dX11_neededOf_0 rfl rfl rfl ?_
  refine pw_bipush_n (q := 3) C 8 dX11_neededOf_1 (by decide +kernel) rfl ?_
  refine pw_iconst_n (q := 4) C 3 dX11_neededOf_3 (by decide +kernel) rfl ?_
  refine pw_iload_n (q := 5) (j := 1) C dX11_neededOf_4 rfl rfl rfl ?_
  refine pw_imul_n (q := 6) C dX11_neededOf_5 rfl ?_
  refine pw_iadd_n (q := 7) C dX11_neededOf_6 rfl ?_
  refine pw_iconst_n (q := 8) C 2 dX11_neededOf_7 (by decide +kernel) rfl ?_
  refine pw_iadd_n (q := 9) C dX11_neededOf_8 rfl ?_
  refine pw_ipg (q := 10) C dX11_neededOf_9 hM (by omega) (by omega) rfl ?_
  exact pw_iret C dX11_neededOf_10 rfl ⟨by omega, by omega⟩ (RV.mk (by rfl) rfl)
