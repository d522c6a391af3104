/-! The reference: a text is read. -/
theorem neg9 {l h : Nat} (hl : l < 1000) : ¬ inW (-9) l h := by
  intro q
  have h1 := Int32.le_iff_toInt_le.mp q.1
  have h2 : (-9 : Int32).toInt = -9 := by decide +kernel
  rw [nI_toInt (by omega), h2] at h1
  omega
theorem bN_t {p : Prop} [Decidable p] (h : p) : bN p = 1 := if_pos h
theorem crsS_f (T : Nat → Nat) (n p : Nat) (R : Nat → Nat) (fr : Nat) : (crsS T n p R fr).2.2.2 = fr := by
  unfold crsS
  repeat' split
  all_goals rfl
theorem masS_f (T : Nat → Nat) (n p : Nat) (R : Nat → Nat) (fr : Nat) : (masS T n p R fr).2.2.2 = fr := by
  unfold masS
  repeat' split
  all_goals rfl
theorem stoS_f (T : Nat → Nat) (n p : Nat) (R : Nat → Nat) (fr : Nat) : (stoS T n p R fr).2.2.2 = fr := by
  unfold stoS
  repeat' split
  all_goals rfl
theorem bN_f {p : Prop} [Decidable p] (h : ¬ p) : bN p = 0 := if_neg h
set_option maxHeartbeats 200000 in
set_option maxRecDepth 100000 in
theorem m_eat_y {M : PH} {m rf n sp ft ac : Nat} {T R P Q D K B L : Nat → Nat} (hn : n ≤ 80) (hT : ∀ k, k < n → T k ≤ 255) {c : Nat} (h : sp < n ∧ T sp = c) : Run iX11_eat [.ref m, .int (nI c)] (mh M m rf n sp ft ac T R P Q D K B L) 0 0 (RV (.int (nI 1)) (fun M1 => M1 = mh M m rf n (sp + 1) ft ac T R P Q D K B L)) := by
  have t9 := hT sp h.1
  refine Run.of (l0 := [some (.ref m), some (.int (nI c)), none]) (by decide +kernel) (Nat.le_of_ble_eq_true rfl) (by rfl) (fun Γ G C => ?_)
  refine pw_aload_n (q := 1) (j := 0) C dX11_eat_0 rfl rfl rfl ?_
  refine pw_getf (q := 4) C dX11_eat_1 fX11_80 mh_o (by rfl) rfl ?_
  refine pw_aload_n (q := 5) (j := 0) C dX11_eat_4 rfl rfl rfl ?_
  refine pw_getf (q := 8) C dX11_eat_5 fX11_73 mh_o (by rfl) rfl ?_
  refine pw_icmp_ge_n (q := 11) 28 C dX11_eat_8 (by decide) rfl (by omega) (by omega) (fun g8 => absurd g8 (by omega)) (fun g8 => ?_)
  refine pw_aload_n (q := 12) (j := 0) C dX11_eat_11 rfl rfl rfl ?_
  refine pw_getf (q := 15) C dX11_eat_12 fX11_7 mh_o (by rfl) rfl ?_
  refine pw_aload_n (q := 16) (j := 0) C dX11_eat_15 rfl rfl rfl ?_
  refine pw_getf (q := 19) C dX11_eat_16 fX11_80 mh_o (by rfl) rfl ?_
  refine pw_ipg (q := 20) C dX11_eat_19 mh_T (by omega) (by omega) rfl ?_
  refine pw_iload_n (q := 21) (j := 1) C dX11_eat_20 rfl rfl rfl ?_
  refine pw_icmp_ne_n (q := 24) 28 C dX11_eat_21 (by decide) rfl (by omega) (by omega) (fun g21 => absurd g21 (fun q => q h.2)) (fun g21 => ?_)
  refine pw_iconst_n (q := 25) C 1 dX11_eat_24 (by decide +kernel) rfl ?_
  refine pw_goto (q := 0) 29 C dX11_eat_25 (by decide) ?_
  refine pw_istore_n (q := 30) (j := 2) C dX11_eat_29 rfl rfl (by decide) rfl ?_
  refine pw_aload_n (q := 31) (j := 0) C dX11_eat_30 rfl rfl rfl ?_
  refine pw_dup (q := 32) C dX11_eat_31 rfl rfl ?_
  refine pw_getf (q := 35) C dX11_eat_32 fX11_80 mh_o (by rfl) rfl ?_
  refine pw_iload_n (q := 36) (j := 2) C dX11_eat_35 rfl rfl rfl ?_
  refine pw_if_eq_n (q := 39) 43 C dX11_eat_36 (by decide) rfl (by omega) (fun g36 => absurd g36 (by decide)) (fun g36 => ?_)
  refine pw_iconst_n (q := 40) C 1 dX11_eat_39 (by decide +kernel) rfl ?_
  refine pw_goto (q := 0) 44 C dX11_eat_40 (by decide) ?_
  refine pw_iadd_n (q := 45) C dX11_eat_44 rfl ?_
  refine pw_put (q := 48) C dX11_eat_45 fX11_80 mh_o (by rfl) (by rfl) (Nat.le_of_ble_eq_true rfl) rfl ?_
  rw [mh_s_sp]
  refine pw_iload_n (q := 49) (j := 2) C dX11_eat_48 rfl rfl rfl ?_
  exact pw_zret C dX11_eat_49 rfl (by first | decide +kernel | exact nar_bN _ | exact nar_01 (by omega)) ⟨by omega, by omega⟩ (RV.mk (by rfl) rfl)
set_option maxHeartbeats 200000 in
set_option maxRecDepth 100000 in
theorem m_eat_n {M : PH} {m rf n sp ft ac : Nat} {T R P Q D K B L : Nat → Nat} (hn : n ≤ 80) (hT : ∀ k, k < n → T k ≤ 255) (hs : sp ≤ 80) {c : Nat} (hc : c < 256) (h : ¬ (sp < n ∧ T sp = c)) : Run iX11_eat [.ref m, .int (nI c)] (mh M m rf n sp ft ac T R P Q D K B L) 0 0 (RV (.int (nI 0)) (fun M1 => M1 = mh M m rf n sp ft ac T R P Q D K B L)) := by
  refine Run.of (l0 := [some (.ref m), some (.int (nI c)), none]) (by decide +kernel) (Nat.le_of_ble_eq_true rfl) (by rfl) (fun Γ G C => ?_)
  refine pw_aload_n (q := 1) (j := 0) C dX11_eat_0 rfl rfl rfl ?_
  refine pw_getf (q := 4) C dX11_eat_1 fX11_80 mh_o (by rfl) rfl ?_
  refine pw_aload_n (q := 5) (j := 0) C dX11_eat_4 rfl rfl rfl ?_
  refine pw_getf (q := 8) C dX11_eat_5 fX11_73 mh_o (by rfl) rfl ?_
  refine pw_icmp_ge_n (q := 11) 28 C dX11_eat_8 (by decide) rfl (by omega) (by omega) (fun g8 => ?_) (fun g8 => ?_)
  · refine pw_iconst_n (q := 29) C 0 dX11_eat_28 (by decide +kernel) rfl ?_
    refine pw_istore_n (q := 30) (j := 2) C dX11_eat_29 rfl rfl (by decide) rfl ?_
    refine pw_aload_n (q := 31) (j := 0) C dX11_eat_30 rfl rfl rfl ?_
    refine pw_dup (q := 32) C dX11_eat_31 rfl rfl ?_
    refine pw_getf (q := 35) C dX11_eat_32 fX11_80 mh_o (by rfl) rfl ?_
    refine pw_iload_n (q := 36) (j := 2) C dX11_eat_35 rfl rfl rfl ?_
    refine pw_if_eq_n (q := 39) 43 C dX11_eat_36 (by decide) rfl (by omega) (fun g36 => ?_) (fun g36 => absurd g36 (fun q => q rfl))
    refine pw_iconst_n (q := 44) C 0 dX11_eat_43 (by decide +kernel) rfl ?_
    refine pw_iadd_n (q := 45) C dX11_eat_44 rfl ?_
    refine pw_put (q := 48) C dX11_eat_45 fX11_80 mh_o (by rfl) (by rfl) (Nat.le_of_ble_eq_true rfl) rfl ?_
    rw [mh_s_sp]
    refine pw_iload_n (q := 49) (j := 2) C dX11_eat_48 rfl rfl rfl ?_
    exact pw_zret C dX11_eat_49 rfl (by first | decide +kernel | exact nar_bN _ | exact nar_01 (by omega)) ⟨by omega, by omega⟩ (RV.mk (by rfl) rfl)
  · have t9 := hT sp (by omega)
    refine pw_aload_n (q := 12) (j := 0) C dX11_eat_11 rfl rfl rfl ?_
    refine pw_getf (q := 15) C dX11_eat_12 fX11_7 mh_o (by rfl) rfl ?_
    refine pw_aload_n (q := 16) (j := 0) C dX11_eat_15 rfl rfl rfl ?_
    refine pw_getf (q := 19) C dX11_eat_16 fX11_80 mh_o (by rfl) rfl ?_
    refine pw_ipg (q := 20) C dX11_eat_19 mh_T (by omega) (by omega) rfl ?_
    refine pw_iload_n (q := 21) (j := 1) C dX11_eat_20 rfl rfl rfl ?_
    refine pw_icmp_ne_n (q := 24) 28 C dX11_eat_21 (by decide) rfl (by omega) (by omega) (fun g21 => ?_) (fun g21 => absurd g21 (fun q => h ⟨by omega, q⟩))
    refine pw_iconst_n (q := 29) C 0 dX11_eat_28 (by decide +kernel) rfl ?_
    refine pw_istore_n (q := 30) (j := 2) C dX11_eat_29 rfl rfl (by decide) rfl ?_
    refine pw_aload_n (q := 31) (j := 0) C dX11_eat_30 rfl rfl rfl ?_
    refine pw_dup (q := 32) C dX11_eat_31 rfl rfl ?_
    refine pw_getf (q := 35) C dX11_eat_32 fX11_80 mh_o (by rfl) rfl ?_
    refine pw_iload_n (q := 36) (j := 2) C dX11_eat_35 rfl rfl rfl ?_
    refine pw_if_eq_n (q := 39) 43 C dX11_eat_36 (by decide) rfl (by omega) (fun g36 => ?_) (fun g36 => absurd g36 (fun q => q rfl))
    refine pw_iconst_n (q := 44) C 0 dX11_eat_43 (by decide +kernel) rfl ?_
    refine pw_iadd_n (q := 45) C dX11_eat_44 rfl ?_
    refine pw_put (q := 48) C dX11_eat_45 fX11_80 mh_o (by rfl) (by rfl) (Nat.le_of_ble_eq_true rfl) rfl ?_
    rw [mh_s_sp]
    refine pw_iload_n (q := 49) (j := 2) C dX11_eat_48 rfl rfl rfl ?_
    exact pw_zret C dX11_eat_49 rfl (by first | decide +kernel | exact nar_bN _ | exact nar_01 (by omega)) ⟨by omega, by omega⟩ (RV.mk (by rfl) rfl)
set_option maxHeartbeats 200000 in
set_option maxRecDepth 100000 in
theorem m_dig_y {M : PH} {m rf n sp ft ac : Nat} {T R P Q D K B L : Nat → Nat} (hn : n ≤ 80) (hT : ∀ k, k < n → T k ≤ 255) {l h : Nat} (hl : l ≤ 9) (hh : h ≤ 9) (hD : Dg T n sp l h) : Run iX11_digit [.ref m, .int (nI l), .int (nI h)] (mh M m rf n sp ft ac T R P Q D K B L) 0 0 (RV (.int (nI (T sp - 48))) (fun M1 => M1 = mh M m rf n (sp + 1) ft ac T R P Q D K B L)) := by
  obtain ⟨hD1, hD2, hD3⟩ := hD
  refine Run.of (l0 := [some (.ref m), some (.int (nI l)), some (.int (nI h)), none]) (by decide +kernel) (Nat.le_of_ble_eq_true rfl) (by rfl) (fun Γ G C => ?_)
  refine pw_aload_n (q := 1) (j := 0) C dX11_digit_0 rfl rfl rfl ?_
  refine pw_getf (q := 4) C dX11_digit_1 fX11_80 mh_o (by rfl) rfl ?_
  refine pw_aload_n (q := 5) (j := 0) C dX11_digit_4 rfl rfl rfl ?_
  refine pw_getf (q := 8) C dX11_digit_5 fX11_73 mh_o (by rfl) rfl ?_
  refine pw_icmp_ge_n (q := 11) 26 C dX11_digit_8 (by decide) rfl (by omega) (by omega) (fun g8 => absurd g8 (by omega)) (fun g8 => ?_)
  refine pw_aload_n (q := 12) (j := 0) C dX11_digit_11 rfl rfl rfl ?_
  refine pw_getf (q := 15) C dX11_digit_12 fX11_7 mh_o (by rfl) rfl ?_
  refine pw_aload_n (q := 16) (j := 0) C dX11_digit_15 rfl rfl rfl ?_
  refine pw_getf (q := 19) C dX11_digit_16 fX11_80 mh_o (by rfl) rfl ?_
  refine pw_ipg (q := 20) C dX11_digit_19 mh_T (by omega) (by omega) rfl ?_
  refine pw_bipush_n (q := 22) C 48 dX11_digit_20 (by decide +kernel) rfl ?_
  refine pw_isub_n (q := 23) C dX11_digit_22 (by omega) rfl ?_
  refine pw_goto (q := 0) 28 C dX11_digit_23 (by decide) ?_
  refine pw_istore_n (q := 29) (j := 3) C dX11_digit_28 rfl rfl (by decide) rfl ?_
  refine pw_iload_n (q := 30) (j := 3) C dX11_digit_29 rfl rfl rfl ?_
  refine pw_i2l (q := 31) C dX11_digit_30 rfl ?_
  refine pw_iload_n (q := 32) (j := 1) C dX11_digit_31 rfl rfl rfl ?_
  refine pw_i2l (q := 33) C dX11_digit_32 rfl ?_
  refine pw_iload_n (q := 34) (j := 2) C dX11_digit_33 rfl rfl rfl ?_
  refine pw_i2l (q := 35) C dX11_digit_34 rfl ?_
  refine pw_rd (q := 38) (cr_s (j := iX11_in) C dX11_digit_35 lX11_39 mX11_in (ro_mk (by decide) (by decide))  (m_in) rfl rfl (Nat.le_of_ble_eq_true rfl) ⟨by omega, by omega⟩) rfl ?_
  refine pw_if_ne_b (q := 41) 44 C dX11_digit_38 (by decide) rfl (fun g38 => ?_) (fun g38 => absurd g38 (fun q => q ((inW_l (lo := l) (hi := h) rfl rfl).mpr ⟨(nI_leI (by omega) (by omega)).mpr (by omega), (nI_leI (by omega) (by omega)).mpr (by omega)⟩)))
  refine pw_aload_n (q := 45) (j := 0) C dX11_digit_44 rfl rfl rfl ?_
  refine pw_dup (q := 46) C dX11_digit_45 rfl rfl ?_
  refine pw_getf (q := 49) C dX11_digit_46 fX11_80 mh_o (by rfl) rfl ?_
  refine pw_iconst_n (q := 50) C 1 dX11_digit_49 (by decide +kernel) rfl ?_
  refine pw_iadd_n (q := 51) C dX11_digit_50 rfl ?_
  refine pw_put (q := 54) C dX11_digit_51 fX11_80 mh_o (by rfl) (by rfl) (Nat.le_of_ble_eq_true rfl) rfl ?_
  rw [mh_s_sp]
  refine pw_iload_n (q := 55) (j := 3) C dX11_digit_54 rfl rfl rfl ?_
  exact pw_iret C dX11_digit_55 rfl ⟨by omega, by omega⟩ (RV.mk (by rfl) rfl)
set_option maxHeartbeats 200000 in
set_option maxRecDepth 100000 in
theorem m_dig_n {M : PH} {m rf n sp ft ac : Nat} {T R P Q D K B L : Nat → Nat} (hn : n ≤ 80) (hT : ∀ k, k < n → T k ≤ 255) (hs : sp ≤ 90) {l h : Nat} (hl : l ≤ 9) (hh : h ≤ 9) (hD : ¬ Dg T n sp l h) : Run iX11_digit [.ref m, .int (nI l), .int (nI h)] (mh M m rf n sp ft ac T R P Q D K B L) 0 0 (RV (.int (-9)) (fun M1 => M1 = mh M m rf n sp ft ac T R P Q D K B L)) := by
  refine Run.of (l0 := [some (.ref m), some (.int (nI l)), some (.int (nI h)), none]) (by decide +kernel) (Nat.le_of_ble_eq_true rfl) (by rfl) (fun Γ G C => ?_)
  refine pw_aload_n (q := 1) (j := 0) C dX11_digit_0 rfl rfl rfl ?_
  refine pw_getf (q := 4) C dX11_digit_1 fX11_80 mh_o (by rfl) rfl ?_
  refine pw_aload_n (q := 5) (j := 0) C dX11_digit_4 rfl rfl rfl ?_
  refine pw_getf (q := 8) C dX11_digit_5 fX11_73 mh_o (by rfl) rfl ?_
  refine pw_icmp_ge_n (q := 11) 26 C dX11_digit_8 (by decide) rfl (by omega) (by omega) (fun g8 => ?_) (fun g8 => ?_)
  · refine pw_bipush (q := 28) (v := (-9)) C dX11_digit_26 (by decide +kernel) rfl ?_
    refine pw_istore_n (q := 29) (j := 3) C dX11_digit_28 rfl rfl (by decide) rfl ?_
    refine pw_iload_n (q := 30) (j := 3) C dX11_digit_29 rfl rfl rfl ?_
    refine pw_i2l (q := 31) C dX11_digit_30 rfl ?_
    refine pw_iload_n (q := 32) (j := 1) C dX11_digit_31 rfl rfl rfl ?_
    refine pw_i2l (q := 33) C dX11_digit_32 rfl ?_
    refine pw_iload_n (q := 34) (j := 2) C dX11_digit_33 rfl rfl rfl ?_
    refine pw_i2l (q := 35) C dX11_digit_34 rfl ?_
    refine pw_rd (q := 38) (cr_s (j := iX11_in) C dX11_digit_35 lX11_39 mX11_in (ro_mk (by decide) (by decide))  (m_in) rfl rfl (Nat.le_of_ble_eq_true rfl) ⟨by omega, by omega⟩) rfl ?_
    refine pw_if_ne_b (q := 41) 44 C dX11_digit_38 (by decide) rfl (fun g38 => absurd g38 (fun q => neg9 (by omega) ((inW_l (lo := l) (hi := h) rfl rfl).mp q))) (fun g38 => ?_)
    refine pw_bipush (q := 43) (v := (-9)) C dX11_digit_41 (by decide +kernel) rfl ?_
    exact pw_iret C dX11_digit_43 rfl ⟨by omega, by omega⟩ (RV.mk (by rfl) rfl)
  · have t9 := hT sp (by omega)
    refine pw_aload_n (q := 12) (j := 0) C dX11_digit_11 rfl rfl rfl ?_
    refine pw_getf (q := 15) C dX11_digit_12 fX11_7 mh_o (by rfl) rfl ?_
    refine pw_aload_n (q := 16) (j := 0) C dX11_digit_15 rfl rfl rfl ?_
    refine pw_getf (q := 19) C dX11_digit_16 fX11_80 mh_o (by rfl) rfl ?_
    refine pw_ipg (q := 20) C dX11_digit_19 mh_T (by omega) (by omega) rfl ?_
    refine pw_bipush_n (q := 22) C 48 dX11_digit_20 (by decide +kernel) rfl ?_
    refine pw_isub (q := 23) C dX11_digit_22 rfl ?_
    refine pw_goto (q := 0) 28 C dX11_digit_23 (by decide) ?_
    refine pw_istore_n (q := 29) (j := 3) C dX11_digit_28 rfl rfl (by decide) rfl ?_
    refine pw_iload_n (q := 30) (j := 3) C dX11_digit_29 rfl rfl rfl ?_
    refine pw_i2l (q := 31) C dX11_digit_30 rfl ?_
    refine pw_iload_n (q := 32) (j := 1) C dX11_digit_31 rfl rfl rfl ?_
    refine pw_i2l (q := 33) C dX11_digit_32 rfl ?_
    refine pw_iload_n (q := 34) (j := 2) C dX11_digit_33 rfl rfl rfl ?_
    refine pw_i2l (q := 35) C dX11_digit_34 rfl ?_
    refine pw_rd (q := 38) (cr_s (j := iX11_in) C dX11_digit_35 lX11_39 mX11_in (ro_mk (by decide) (by decide))  (m_in) rfl rfl (Nat.le_of_ble_eq_true rfl) ⟨by omega, by omega⟩) rfl ?_
    refine pw_if_ne_b (q := 41) 44 C dX11_digit_38 (by decide) rfl (fun g38 => absurd g38 (fun q => hD ⟨by omega, (dig_in (by omega) (by omega) (by omega)).mp ((inW_l (lo := l) (hi := h) rfl rfl).mp q)⟩)) (fun g38 => ?_)
    refine pw_bipush (q := 43) (v := (-9)) C dX11_digit_41 (by decide +kernel) rfl ?_
    exact pw_iret C dX11_digit_43 rfl ⟨by omega, by omega⟩ (RV.mk (by rfl) rfl)
set_option maxHeartbeats 200000 in
set_option maxRecDepth 100000 in
theorem m_readCourse {M : PH} {m rf n ft ac : Nat} {T R P Q D K B L : Nat → Nat} {p : Nat} (hn : n ≤ 80) (hT : ∀ k, k < n → T k ≤ 255) (hp : p ≤ 80) (b5 : R 5 ≤ 6) (b6 : R 6 ≤ 6) (b7 : R 7 ≤ 24) (h5 : R 5 < 6) : Run iX11_readCourse [.ref m] (mh M m rf n ((p + 1)) ft ac T R P Q D K B L) 0 0 (RV (.int (nI (crsS T n p R ft).1)) (fun M1 => M1 = mh M m rf n ((crsS T n p R ft).2.1) ft ac T ((crsS T n p R ft).2.2.1) P Q D K B L)) := by
  refine Run.of (l0 := [some (.ref m), none, none, none, none]) (by decide +kernel) (Nat.le_of_ble_eq_true rfl) (by rfl) (fun Γ G C => ?_)
  refine pw_bipush_n (q := 2) C 8 dX11_readCourse_0 (by decide +kernel) rfl ?_
  refine pw_iconst_n (q := 3) C 3 dX11_readCourse_2 (by decide +kernel) rfl ?_
  refine pw_aload_n (q := 4) (j := 0) C dX11_readCourse_3 rfl rfl rfl ?_
  refine pw_getf (q := 7) C dX11_readCourse_4 fX11_13 mh_o (by rfl) rfl ?_
  refine pw_iconst_n (q := 8) C 5 dX11_readCourse_7 (by decide +kernel) rfl ?_
  refine pw_ipg (q := 9) C dX11_readCourse_8 mh_R (by omega) (by omega) rfl ?_
  refine pw_imul_n (q := 10) C dX11_readCourse_9 rfl ?_
  refine pw_iadd_n (q := 11) C dX11_readCourse_10 rfl ?_
  refine pw_istore_n (q := 12) (j := 1) C dX11_readCourse_11 rfl rfl (by decide) rfl ?_
  refine pw_aload_n (q := 13) (j := 0) C dX11_readCourse_12 rfl rfl rfl ?_
  refine pw_iconst_n (q := 14) C 1 dX11_readCourse_13 (by decide +kernel) rfl ?_
  refine pw_bipush_n (q := 16) C 9 dX11_readCourse_14 (by decide +kernel) rfl ?_
  by_cases hA : Dg T n (p + 1) 1 9
  · refine pw_val (q := 19) (cr_v (j := iX11_digit) C dX11_readCourse_16 lX11_83 mX11_digit (ro_mk (by decide) (by decide)) mh_o rfl (m_dig_y hn hT (by omega) (by omega) hA) rfl rfl (Nat.le_of_ble_eq_true rfl) ⟨by omega, by omega⟩) rfl (fun M16 e16 => ?_)
    subst e16
    rw [show p + 1 + 1 = p + 2 from rfl]
    refine pw_istore_n (q := 20) (j := 2) C dX11_readCourse_19 rfl rfl (by decide) rfl ?_
    refine pw_iload_n (q := 21) (j := 2) C dX11_readCourse_20 rfl rfl rfl ?_
    refine pw_bipush (q := 23) (v := (-9)) C dX11_readCourse_21 (by decide +kernel) rfl ?_
    refine pw_icmp_ne (q := 26) 31 C dX11_readCourse_23 (by decide) rfl (fun g23 => ?_) (fun g23 => absurd g23 (optI_ne (by omega)))
    refine pw_aload_n (q := 32) (j := 0) C dX11_readCourse_31 rfl rfl rfl ?_
    refine pw_iconst_n (q := 33) C 1 dX11_readCourse_32 (by decide +kernel) rfl ?_
    refine pw_bipush_n (q := 35) C 6 dX11_readCourse_33 (by decide +kernel) rfl ?_
    by_cases hB : Dg T n (p + 2) 1 6
    · refine pw_val (q := 38) (cr_v (j := iX11_digit) C dX11_readCourse_35 lX11_83 mX11_digit (ro_mk (by decide) (by decide)) mh_o rfl (m_dig_y hn hT (by omega) (by omega) hB) rfl rfl (Nat.le_of_ble_eq_true rfl) ⟨by omega, by omega⟩) rfl (fun M35 e35 => ?_)
      subst e35
      rw [show p + 2 + 1 = p + 3 from rfl]
      refine pw_istore_n (q := 39) (j := 3) C dX11_readCourse_38 rfl rfl (by decide) rfl ?_
      refine pw_iload_n (q := 40) (j := 3) C dX11_readCourse_39 rfl rfl rfl ?_
      refine pw_bipush (q := 42) (v := (-9)) C dX11_readCourse_40 (by decide +kernel) rfl ?_
      refine pw_icmp_ne (q := 45) 50 C dX11_readCourse_42 (by decide) rfl (fun g42 => ?_) (fun g42 => absurd g42 (optI_ne (by omega)))
      refine pw_aload_n (q := 51) (j := 0) C dX11_readCourse_50 rfl rfl rfl ?_
      refine pw_iconst_n (q := 52) C 1 dX11_readCourse_51 (by decide +kernel) rfl ?_
      refine pw_bipush_n (q := 54) C 9 dX11_readCourse_52 (by decide +kernel) rfl ?_
      by_cases hC : Dg T n (p + 3) 1 9
      · refine pw_val (q := 57) (cr_v (j := iX11_digit) C dX11_readCourse_54 lX11_83 mX11_digit (ro_mk (by decide) (by decide)) mh_o rfl (m_dig_y hn hT (by omega) (by omega) hC) rfl rfl (Nat.le_of_ble_eq_true rfl) ⟨by omega, by omega⟩) rfl (fun M54 e54 => ?_)
        subst e54
        rw [show p + 3 + 1 = p + 4 from rfl]
        refine pw_istore (q := 59) C dX11_readCourse_57 rfl (by decide) rfl ?_
        refine pw_iload (q := 61) C dX11_readCourse_59 rfl rfl ?_
        refine pw_bipush (q := 63) (v := (-9)) C dX11_readCourse_61 (by decide +kernel) rfl ?_
        refine pw_icmp_ne (q := 66) 68 C dX11_readCourse_63 (by decide) rfl (fun g63 => ?_) (fun g63 => absurd g63 (optI_ne (by omega)))
        refine pw_aload_n (q := 69) (j := 0) C dX11_readCourse_68 rfl rfl rfl ?_
        refine pw_getf (q := 72) C dX11_readCourse_69 fX11_13 mh_o (by rfl) rfl ?_
        refine pw_iload_n (q := 73) (j := 1) C dX11_readCourse_72 rfl rfl rfl ?_
        refine pw_iload_n (q := 74) (j := 2) C dX11_readCourse_73 rfl rfl rfl ?_
        refine pw_ipgst (q := 75) C dX11_readCourse_74 mh_R (by omega) (by omega) rfl ?_
        rw [mh_s_R]
        refine pw_aload_n (q := 76) (j := 0) C dX11_readCourse_75 rfl rfl rfl ?_
        refine pw_getf (q := 79) C dX11_readCourse_76 fX11_13 mh_o (by rfl) rfl ?_
        refine pw_iload_n (q := 80) (j := 1) C dX11_readCourse_79 rfl rfl rfl ?_
        refine pw_iconst_n (q := 81) C 1 dX11_readCourse_80 (by decide +kernel) rfl ?_
        refine pw_iadd_n (q := 82) C dX11_readCourse_81 rfl ?_
        refine pw_iload_n (q := 83) (j := 3) C dX11_readCourse_82 rfl rfl rfl ?_
        refine pw_ipgst (q := 84) C dX11_readCourse_83 mh_R (by omega) (by omega) rfl ?_
        rw [mh_s_R]
        refine pw_aload_n (q := 85) (j := 0) C dX11_readCourse_84 rfl rfl rfl ?_
        refine pw_getf (q := 88) C dX11_readCourse_85 fX11_13 mh_o (by rfl) rfl ?_
        refine pw_iload_n (q := 89) (j := 1) C dX11_readCourse_88 rfl rfl rfl ?_
        refine pw_iconst_n (q := 90) C 2 dX11_readCourse_89 (by decide +kernel) rfl ?_
        refine pw_iadd_n (q := 91) C dX11_readCourse_90 rfl ?_
        refine pw_iload (q := 93) C dX11_readCourse_91 rfl rfl ?_
        refine pw_ipgst (q := 94) C dX11_readCourse_93 mh_R (by omega) (by omega) rfl ?_
        rw [mh_s_R]
        refine pw_aload_n (q := 95) (j := 0) C dX11_readCourse_94 rfl rfl rfl ?_
        refine pw_getf (q := 98) C dX11_readCourse_95 fX11_13 mh_o (by rfl) rfl ?_
        refine pw_iconst_n (q := 99) C 5 dX11_readCourse_98 (by decide +kernel) rfl ?_
        refine pw_dup2 (q := 100) C dX11_readCourse_99 rfl rfl rfl ?_
        refine pw_ipg (q := 101) C dX11_readCourse_100 mh_R (by omega) (by omega) rfl ?_
        rw [updN_ne (show 5 ≠ 8 + 3 * R 5 + 2 by omega), updN_ne (show 5 ≠ 8 + 3 * R 5 + 1 by omega), updN_ne (show 5 ≠ 8 + 3 * R 5 by omega)]
        refine pw_iconst_n (q := 102) C 1 dX11_readCourse_101 (by decide +kernel) rfl ?_
        refine pw_iadd_n (q := 103) C dX11_readCourse_102 rfl ?_
        refine pw_ipgst (q := 104) C dX11_readCourse_103 mh_R (by omega) (by omega) rfl ?_
        rw [mh_s_R]
        refine pw_iconst_n (q := 105) C 1 dX11_readCourse_104 (by decide +kernel) rfl ?_
        exact pw_zret C dX11_readCourse_105 rfl (by first | decide +kernel | exact nar_bN _ | exact nar_01 (by omega)) ⟨by omega, by omega⟩ (by
            have hs : crsS T n p R ft = (1, p + 4, newCourseP R (T (p + 1) - 48) (T (p + 2) - 48) (T (p + 3) - 48), ft) := by rw [crsS, if_pos h5, if_pos hA, if_pos hB, if_pos hC]
            rw [hs]
            exact RV.mk (by rfl) (by rfl))
      · refine pw_val (q := 57) (cr_v (j := iX11_digit) C dX11_readCourse_54 lX11_83 mX11_digit (ro_mk (by decide) (by decide)) mh_o rfl (m_dig_n hn hT (by omega) (by omega) (by omega) hC) rfl rfl (Nat.le_of_ble_eq_true rfl) ⟨by omega, by omega⟩) rfl (fun M54 e54 => ?_)
        subst e54
        refine pw_istore (q := 59) C dX11_readCourse_57 rfl (by decide) rfl ?_
        refine pw_iload (q := 61) C dX11_readCourse_59 rfl rfl ?_
        refine pw_bipush (q := 63) (v := (-9)) C dX11_readCourse_61 (by decide +kernel) rfl ?_
        refine pw_icmp_ne (q := 66) 68 C dX11_readCourse_63 (by decide) rfl (fun g63 => absurd g63 (fun q => q rfl)) (fun g63 => ?_)
        refine pw_iconst_n (q := 67) C 0 dX11_readCourse_66 (by decide +kernel) rfl ?_
        exact pw_zret C dX11_readCourse_67 rfl (by first | decide +kernel | exact nar_bN _ | exact nar_01 (by omega)) ⟨by omega, by omega⟩ (by
            have hs : crsS T n p R ft = (0, p + 3, R, ft) := by rw [crsS, if_pos h5, if_pos hA, if_pos hB, if_neg hC]
            rw [hs]
            exact RV.mk (by rfl) (by rfl))
    · refine pw_val (q := 38) (cr_v (j := iX11_digit) C dX11_readCourse_35 lX11_83 mX11_digit (ro_mk (by decide) (by decide)) mh_o rfl (m_dig_n hn hT (by omega) (by omega) (by omega) hB) rfl rfl (Nat.le_of_ble_eq_true rfl) ⟨by omega, by omega⟩) rfl (fun M35 e35 => ?_)
      subst e35
      refine pw_istore_n (q := 39) (j := 3) C dX11_readCourse_38 rfl rfl (by decide) rfl ?_
      refine pw_iload_n (q := 40) (j := 3) C dX11_readCourse_39 rfl rfl rfl ?_
      refine pw_bipush (q := 42) (v := (-9)) C dX11_readCourse_40 (by decide +kernel) rfl ?_
      refine pw_icmp_ne (q := 45) 50 C dX11_readCourse_42 (by decide) rfl (fun g42 => absurd g42 (fun q => q rfl)) (fun g42 => ?_)
      refine pw_bipush (q := 47) (v := (-9)) C dX11_readCourse_45 (by decide +kernel) rfl ?_
      refine pw_goto (q := 0) 57 C dX11_readCourse_47 (by decide) ?_
      refine pw_istore (q := 59) C dX11_readCourse_57 rfl (by decide) rfl ?_
      refine pw_iload (q := 61) C dX11_readCourse_59 rfl rfl ?_
      refine pw_bipush (q := 63) (v := (-9)) C dX11_readCourse_61 (by decide +kernel) rfl ?_
      refine pw_icmp_ne (q := 66) 68 C dX11_readCourse_63 (by decide) rfl (fun g63 => absurd g63 (fun q => q rfl)) (fun g63 => ?_)
      refine pw_iconst_n (q := 67) C 0 dX11_readCourse_66 (by decide +kernel) rfl ?_
      exact pw_zret C dX11_readCourse_67 rfl (by first | decide +kernel | exact nar_bN _ | exact nar_01 (by omega)) ⟨by omega, by omega⟩ (by
          have hs : crsS T n p R ft = (0, p + 2, R, ft) := by rw [crsS, if_pos h5, if_pos hA, if_neg hB]
          rw [hs]
          exact RV.mk (by rfl) (by rfl))
  · refine pw_val (q := 19) (cr_v (j := iX11_digit) C dX11_readCourse_16 lX11_83 mX11_digit (ro_mk (by decide) (by decide)) mh_o rfl (m_dig_n hn hT (by omega) (by omega) (by omega) hA) rfl rfl (Nat.le_of_ble_eq_true rfl) ⟨by omega, by omega⟩) rfl (fun M16 e16 => ?_)
    subst e16
    refine pw_istore_n (q := 20) (j := 2) C dX11_readCourse_19 rfl rfl (by decide) rfl ?_
    refine pw_iload_n (q := 21) (j := 2) C dX11_readCourse_20 rfl rfl rfl ?_
    refine pw_bipush (q := 23) (v := (-9)) C dX11_readCourse_21 (by decide +kernel) rfl ?_
    refine pw_icmp_ne (q := 26) 31 C dX11_readCourse_23 (by decide) rfl (fun g23 => absurd g23 (fun q => q rfl)) (fun g23 => ?_)
    refine pw_bipush (q := 28) (v := (-9)) C dX11_readCourse_26 (by decide +kernel) rfl ?_
    refine pw_goto (q := 0) 38 C dX11_readCourse_28 (by decide) ?_
    refine pw_istore_n (q := 39) (j := 3) C dX11_readCourse_38 rfl rfl (by decide) rfl ?_
    refine pw_iload_n (q := 40) (j := 3) C dX11_readCourse_39 rfl rfl rfl ?_
    refine pw_bipush (q := 42) (v := (-9)) C dX11_readCourse_40 (by decide +kernel) rfl ?_
    refine pw_icmp_ne (q := 45) 50 C dX11_readCourse_42 (by decide) rfl (fun g42 => absurd g42 (fun q => q rfl)) (fun g42 => ?_)
    refine pw_bipush (q := 47) (v := (-9)) C dX11_readCourse_45 (by decide +kernel) rfl ?_
    refine pw_goto (q := 0) 57 C dX11_readCourse_47 (by decide) ?_
    refine pw_istore (q := 59) C dX11_readCourse_57 rfl (by decide) rfl ?_
    refine pw_iload (q := 61) C dX11_readCourse_59 rfl rfl ?_
    refine pw_bipush (q := 63) (v := (-9)) C dX11_readCourse_61 (by decide +kernel) rfl ?_
    refine pw_icmp_ne (q := 66) 68 C dX11_readCourse_63 (by decide) rfl (fun g63 => absurd g63 (fun q => q rfl)) (fun g63 => ?_)
    refine pw_iconst_n (q := 67) C 0 dX11_readCourse_66 (by decide +kernel) rfl ?_
    exact pw_zret C dX11_readCourse_67 rfl (by first | decide +kernel | exact nar_bN _ | exact nar_01 (by omega)) ⟨by omega, by omega⟩ (by
        have hs : crsS T n p R ft = (0, p + 1, R, ft) := by rw [crsS, if_pos h5, if_neg hA]
        rw [hs]
        exact RV.mk (by rfl) (by rfl))
set_option maxHeartbeats 200000 in
set_option maxRecDepth 100000 in
theorem m_readMason {M : PH} {m rf n ft ac : Nat} {T R P Q D K B L : Nat → Nat} {p : Nat} (hn : n ≤ 80) (hT : ∀ k, k < n → T k ≤ 255) (hp : p ≤ 80) (b5 : R 5 ≤ 6) (b6 : R 6 ≤ 6) (b7 : R 7 ≤ 24) (h6 : R 6 < 6) : Run iX11_readMason [.ref m] (mh M m rf n ((p + 1)) ft ac T R P Q D K B L) 0 0 (RV (.int (nI (masS T n p R ft).1)) (fun M1 => M1 = mh M m rf n ((masS T n p R ft).2.1) ft ac T ((masS T n p R ft).2.2.1) P Q D K B L)) := by
  refine Run.of (l0 := [some (.ref m), none, none, none, none]) (by decide +kernel) (Nat.le_of_ble_eq_true rfl) (by rfl) (fun Γ G C => ?_)
  refine pw_bipush_n (q := 2) C 26 dX11_readMason_0 (by decide +kernel) rfl ?_
  refine pw_iconst_n (q := 3) C 4 dX11_readMason_2 (by decide +kernel) rfl ?_
  refine pw_aload_n (q := 4) (j := 0) C dX11_readMason_3 rfl rfl rfl ?_
  refine pw_getf (q := 7) C dX11_readMason_4 fX11_13 mh_o (by rfl) rfl ?_
  refine pw_bipush_n (q := 9) C 6 dX11_readMason_7 (by decide +kernel) rfl ?_
  refine pw_ipg (q := 10) C dX11_readMason_9 mh_R (by omega) (by omega) rfl ?_
  refine pw_imul_n (q := 11) C dX11_readMason_10 rfl ?_
  refine pw_iadd_n (q := 12) C dX11_readMason_11 rfl ?_
  refine pw_istore_n (q := 13) (j := 1) C dX11_readMason_12 rfl rfl (by decide) rfl ?_
  refine pw_aload_n (q := 14) (j := 0) C dX11_readMason_13 rfl rfl rfl ?_
  refine pw_iconst_n (q := 15) C 1 dX11_readMason_14 (by decide +kernel) rfl ?_
  refine pw_bipush_n (q := 17) C 9 dX11_readMason_15 (by decide +kernel) rfl ?_
  by_cases hA : Dg T n (p + 1) 1 9
  · refine pw_val (q := 20) (cr_v (j := iX11_digit) C dX11_readMason_17 lX11_83 mX11_digit (ro_mk (by decide) (by decide)) mh_o rfl (m_dig_y hn hT (by omega) (by omega) hA) rfl rfl (Nat.le_of_ble_eq_true rfl) ⟨by omega, by omega⟩) rfl (fun M17 e17 => ?_)
    subst e17
    rw [show p + 1 + 1 = p + 2 from rfl]
    refine pw_istore_n (q := 21) (j := 2) C dX11_readMason_20 rfl rfl (by decide) rfl ?_
    refine pw_iload_n (q := 22) (j := 2) C dX11_readMason_21 rfl rfl rfl ?_
    refine pw_bipush (q := 24) (v := (-9)) C dX11_readMason_22 (by decide +kernel) rfl ?_
    refine pw_icmp_ne (q := 27) 32 C dX11_readMason_24 (by decide) rfl (fun g24 => ?_) (fun g24 => absurd g24 (optI_ne (by omega)))
    refine pw_aload_n (q := 33) (j := 0) C dX11_readMason_32 rfl rfl rfl ?_
    refine pw_iconst_n (q := 34) C 0 dX11_readMason_33 (by decide +kernel) rfl ?_
    refine pw_iconst_n (q := 35) C 1 dX11_readMason_34 (by decide +kernel) rfl ?_
    by_cases hB : Dg T n (p + 2) 0 1
    · refine pw_val (q := 38) (cr_v (j := iX11_digit) C dX11_readMason_35 lX11_83 mX11_digit (ro_mk (by decide) (by decide)) mh_o rfl (m_dig_y hn hT (by omega) (by omega) hB) rfl rfl (Nat.le_of_ble_eq_true rfl) ⟨by omega, by omega⟩) rfl (fun M35 e35 => ?_)
      subst e35
      rw [show p + 2 + 1 = p + 3 from rfl]
      refine pw_istore_n (q := 39) (j := 3) C dX11_readMason_38 rfl rfl (by decide) rfl ?_
      refine pw_iload_n (q := 40) (j := 3) C dX11_readMason_39 rfl rfl rfl ?_
      refine pw_bipush (q := 42) (v := (-9)) C dX11_readMason_40 (by decide +kernel) rfl ?_
      refine pw_icmp_ne (q := 45) 50 C dX11_readMason_42 (by decide) rfl (fun g42 => ?_) (fun g42 => absurd g42 (optI_ne (by omega)))
      refine pw_aload_n (q := 51) (j := 0) C dX11_readMason_50 rfl rfl rfl ?_
      refine pw_iload_n (q := 52) (j := 3) C dX11_readMason_51 rfl rfl rfl ?_
      refine pw_if_ne_n (q := 55) 59 C dX11_readMason_52 (by decide) rfl (by omega) (fun g52 => ?_) (fun g52 => ?_)
      · refine pw_iconst_n (q := 60) C 0 dX11_readMason_59 (by decide +kernel) rfl ?_
        refine pw_iload_n (q := 61) (j := 3) C dX11_readMason_60 rfl rfl rfl ?_
        refine pw_if_ne_n (q := 64) 69 C dX11_readMason_61 (by decide) rfl (by omega) (fun g61 => ?_) (fun g61 => absurd g61 (by omega))
        refine pw_iconst_n (q := 70) C 2 dX11_readMason_69 (by decide +kernel) rfl ?_
        by_cases hC : Dg T n (p + 3) (lo2 (T (p + 2))) (hi2 (T (p + 2)))
        · have hC9 := hC
          rw [show lo2 (T (p + 2)) = 0 from if_neg (by omega), show hi2 (T (p + 2)) = 2 from if_neg (by omega)] at hC9
          refine pw_val (q := 73) (cr_v (j := iX11_digit) C dX11_readMason_70 lX11_83 mX11_digit (ro_mk (by decide) (by decide)) mh_o rfl (m_dig_y hn hT (by omega) (by omega) hC9) rfl rfl (Nat.le_of_ble_eq_true rfl) ⟨by omega, by omega⟩) rfl (fun M70 e70 => ?_)
          subst e70
          rw [show p + 3 + 1 = p + 4 from rfl]
          refine pw_istore (q := 75) C dX11_readMason_73 rfl (by decide) rfl ?_
          refine pw_iload (q := 77) C dX11_readMason_75 rfl rfl ?_
          refine pw_bipush (q := 79) (v := (-9)) C dX11_readMason_77 (by decide +kernel) rfl ?_
          refine pw_icmp_ne (q := 82) 84 C dX11_readMason_79 (by decide) rfl (fun g79 => ?_) (fun g79 => absurd g79 (optI_ne (by omega)))
          refine pw_aload_n (q := 85) (j := 0) C dX11_readMason_84 rfl rfl rfl ?_
          refine pw_getf (q := 88) C dX11_readMason_85 fX11_13 mh_o (by rfl) rfl ?_
          refine pw_iload_n (q := 89) (j := 1) C dX11_readMason_88 rfl rfl rfl ?_
          refine pw_iload_n (q := 90) (j := 2) C dX11_readMason_89 rfl rfl rfl ?_
          refine pw_ipgst (q := 91) C dX11_readMason_90 mh_R (by omega) (by omega) rfl ?_
          rw [mh_s_R]
          refine pw_aload_n (q := 92) (j := 0) C dX11_readMason_91 rfl rfl rfl ?_
          refine pw_getf (q := 95) C dX11_readMason_92 fX11_13 mh_o (by rfl) rfl ?_
          refine pw_iload_n (q := 96) (j := 1) C dX11_readMason_95 rfl rfl rfl ?_
          refine pw_iconst_n (q := 97) C 1 dX11_readMason_96 (by decide +kernel) rfl ?_
          refine pw_iadd_n (q := 98) C dX11_readMason_97 rfl ?_
          refine pw_bipush_n (q := 100) C 10 dX11_readMason_98 (by decide +kernel) rfl ?_
          refine pw_iload_n (q := 101) (j := 3) C dX11_readMason_100 rfl rfl rfl ?_
          refine pw_imul_n (q := 102) C dX11_readMason_101 rfl ?_
          refine pw_iload (q := 104) C dX11_readMason_102 rfl rfl ?_
          refine pw_iadd_n (q := 105) C dX11_readMason_104 rfl ?_
          refine pw_ipgst (q := 106) C dX11_readMason_105 mh_R (by omega) (by omega) rfl ?_
          rw [mh_s_R]
          refine pw_aload_n (q := 107) (j := 0) C dX11_readMason_106 rfl rfl rfl ?_
          refine pw_getf (q := 110) C dX11_readMason_107 fX11_13 mh_o (by rfl) rfl ?_
          refine pw_iload_n (q := 111) (j := 1) C dX11_readMason_110 rfl rfl rfl ?_
          refine pw_iconst_n (q := 112) C 2 dX11_readMason_111 (by decide +kernel) rfl ?_
          refine pw_iadd_n (q := 113) C dX11_readMason_112 rfl ?_
          refine pw_aload_n (q := 114) (j := 0) C dX11_readMason_113 rfl rfl rfl ?_
          refine pw_getf (q := 117) C dX11_readMason_114 fX11_13 mh_o (by rfl) rfl ?_
          refine pw_iload_n (q := 118) (j := 1) C dX11_readMason_117 rfl rfl rfl ?_
          refine pw_iconst_n (q := 119) C 1 dX11_readMason_118 (by decide +kernel) rfl ?_
          refine pw_iadd_n (q := 120) C dX11_readMason_119 rfl ?_
          refine pw_ipg (q := 121) C dX11_readMason_120 mh_R (by omega) (by omega) rfl ?_
          rw [updN_at]
          refine pw_ipgst (q := 122) C dX11_readMason_121 mh_R (by omega) (by omega) rfl ?_
          rw [mh_s_R]
          refine pw_aload_n (q := 123) (j := 0) C dX11_readMason_122 rfl rfl rfl ?_
          refine pw_getf (q := 126) C dX11_readMason_123 fX11_13 mh_o (by rfl) rfl ?_
          refine pw_iload_n (q := 127) (j := 1) C dX11_readMason_126 rfl rfl rfl ?_
          refine pw_iconst_n (q := 128) C 3 dX11_readMason_127 (by decide +kernel) rfl ?_
          refine pw_iadd_n (q := 129) C dX11_readMason_128 rfl ?_
          refine pw_iconst_n (q := 130) C 0 dX11_readMason_129 (by decide +kernel) rfl ?_
          refine pw_ipgst (q := 131) C dX11_readMason_130 mh_R (by omega) (by omega) rfl ?_
          rw [mh_s_R]
          refine pw_aload_n (q := 132) (j := 0) C dX11_readMason_131 rfl rfl rfl ?_
          refine pw_getf (q := 135) C dX11_readMason_132 fX11_13 mh_o (by rfl) rfl ?_
          refine pw_bipush_n (q := 137) C 6 dX11_readMason_135 (by decide +kernel) rfl ?_
          refine pw_dup2 (q := 138) C dX11_readMason_137 rfl rfl rfl ?_
          refine pw_ipg (q := 139) C dX11_readMason_138 mh_R (by omega) (by omega) rfl ?_
          rw [updN_ne (show 6 ≠ 26 + 4 * R 6 + 3 by omega), updN_ne (show 6 ≠ 26 + 4 * R 6 + 2 by omega), updN_ne (show 6 ≠ 26 + 4 * R 6 + 1 by omega), updN_ne (show 6 ≠ 26 + 4 * R 6 by omega)]
          refine pw_iconst_n (q := 140) C 1 dX11_readMason_139 (by decide +kernel) rfl ?_
          refine pw_iadd_n (q := 141) C dX11_readMason_140 rfl ?_
          refine pw_ipgst (q := 142) C dX11_readMason_141 mh_R (by omega) (by omega) rfl ?_
          rw [mh_s_R]
          refine pw_iconst_n (q := 143) C 1 dX11_readMason_142 (by decide +kernel) rfl ?_
          exact pw_zret C dX11_readMason_143 rfl (by first | decide +kernel | exact nar_bN _ | exact nar_01 (by omega)) ⟨by omega, by omega⟩ (by
              have hs : masS T n p R ft = (1, p + 4, newMasonR R (T (p + 1) - 48) (10 * (T (p + 2) - 48) + (T (p + 3) - 48)), ft) := by rw [masS, if_pos h6, if_pos hA, if_pos hB, if_pos hC]
              rw [hs]
              exact RV.mk (by rfl) (by rfl))
        · have hC9 := hC
          rw [show lo2 (T (p + 2)) = 0 from if_neg (by omega), show hi2 (T (p + 2)) = 2 from if_neg (by omega)] at hC9
          refine pw_val (q := 73) (cr_v (j := iX11_digit) C dX11_readMason_70 lX11_83 mX11_digit (ro_mk (by decide) (by decide)) mh_o rfl (m_dig_n hn hT (by omega) (by omega) (by omega) hC9) rfl rfl (Nat.le_of_ble_eq_true rfl) ⟨by omega, by omega⟩) rfl (fun M70 e70 => ?_)
          subst e70
          refine pw_istore (q := 75) C dX11_readMason_73 rfl (by decide) rfl ?_
          refine pw_iload (q := 77) C dX11_readMason_75 rfl rfl ?_
          refine pw_bipush (q := 79) (v := (-9)) C dX11_readMason_77 (by decide +kernel) rfl ?_
          refine pw_icmp_ne (q := 82) 84 C dX11_readMason_79 (by decide) rfl (fun g79 => absurd g79 (fun q => q rfl)) (fun g79 => ?_)
          refine pw_iconst_n (q := 83) C 0 dX11_readMason_82 (by decide +kernel) rfl ?_
          exact pw_zret C dX11_readMason_83 rfl (by first | decide +kernel | exact nar_bN _ | exact nar_01 (by omega)) ⟨by omega, by omega⟩ (by
              have hs : masS T n p R ft = (0, p + 3, R, ft) := by rw [masS, if_pos h6, if_pos hA, if_pos hB, if_neg hC]
              rw [hs]
              exact RV.mk (by rfl) (by rfl))
      · refine pw_iconst_n (q := 56) C 1 dX11_readMason_55 (by decide +kernel) rfl ?_
        refine pw_goto (q := 0) 60 C dX11_readMason_56 (by decide) ?_
        refine pw_iload_n (q := 61) (j := 3) C dX11_readMason_60 rfl rfl rfl ?_
        refine pw_if_ne_n (q := 64) 69 C dX11_readMason_61 (by decide) rfl (by omega) (fun g61 => absurd g61 (by omega)) (fun g61 => ?_)
        refine pw_bipush_n (q := 66) C 9 dX11_readMason_64 (by decide +kernel) rfl ?_
        refine pw_goto (q := 0) 70 C dX11_readMason_66 (by decide) ?_
        by_cases hC : Dg T n (p + 3) (lo2 (T (p + 2))) (hi2 (T (p + 2)))
        · have hC9 := hC
          rw [show lo2 (T (p + 2)) = 1 from if_pos (by omega), show hi2 (T (p + 2)) = 9 from if_pos (by omega)] at hC9
          refine pw_val (q := 73) (cr_v (j := iX11_digit) C dX11_readMason_70 lX11_83 mX11_digit (ro_mk (by decide) (by decide)) mh_o rfl (m_dig_y hn hT (by omega) (by omega) hC9) rfl rfl (Nat.le_of_ble_eq_true rfl) ⟨by omega, by omega⟩) rfl (fun M70 e70 => ?_)
          subst e70
          rw [show p + 3 + 1 = p + 4 from rfl]
          refine pw_istore (q := 75) C dX11_readMason_73 rfl (by decide) rfl ?_
          refine pw_iload (q := 77) C dX11_readMason_75 rfl rfl ?_
          refine pw_bipush (q := 79) (v := (-9)) C dX11_readMason_77 (by decide +kernel) rfl ?_
          refine pw_icmp_ne (q := 82) 84 C dX11_readMason_79 (by decide) rfl (fun g79 => ?_) (fun g79 => absurd g79 (optI_ne (by omega)))
          refine pw_aload_n (q := 85) (j := 0) C dX11_readMason_84 rfl rfl rfl ?_
          refine pw_getf (q := 88) C dX11_readMason_85 fX11_13 mh_o (by rfl) rfl ?_
          refine pw_iload_n (q := 89) (j := 1) C dX11_readMason_88 rfl rfl rfl ?_
          refine pw_iload_n (q := 90) (j := 2) C dX11_readMason_89 rfl rfl rfl ?_
          refine pw_ipgst (q := 91) C dX11_readMason_90 mh_R (by omega) (by omega) rfl ?_
          rw [mh_s_R]
          refine pw_aload_n (q := 92) (j := 0) C dX11_readMason_91 rfl rfl rfl ?_
          refine pw_getf (q := 95) C dX11_readMason_92 fX11_13 mh_o (by rfl) rfl ?_
          refine pw_iload_n (q := 96) (j := 1) C dX11_readMason_95 rfl rfl rfl ?_
          refine pw_iconst_n (q := 97) C 1 dX11_readMason_96 (by decide +kernel) rfl ?_
          refine pw_iadd_n (q := 98) C dX11_readMason_97 rfl ?_
          refine pw_bipush_n (q := 100) C 10 dX11_readMason_98 (by decide +kernel) rfl ?_
          refine pw_iload_n (q := 101) (j := 3) C dX11_readMason_100 rfl rfl rfl ?_
          refine pw_imul_n (q := 102) C dX11_readMason_101 rfl ?_
          refine pw_iload (q := 104) C dX11_readMason_102 rfl rfl ?_
          refine pw_iadd_n (q := 105) C dX11_readMason_104 rfl ?_
          refine pw_ipgst (q := 106) C dX11_readMason_105 mh_R (by omega) (by omega) rfl ?_
          rw [mh_s_R]
          refine pw_aload_n (q := 107) (j := 0) C dX11_readMason_106 rfl rfl rfl ?_
          refine pw_getf (q := 110) C dX11_readMason_107 fX11_13 mh_o (by rfl) rfl ?_
          refine pw_iload_n (q := 111) (j := 1) C dX11_readMason_110 rfl rfl rfl ?_
          refine pw_iconst_n (q := 112) C 2 dX11_readMason_111 (by decide +kernel) rfl ?_
          refine pw_iadd_n (q := 113) C dX11_readMason_112 rfl ?_
          refine pw_aload_n (q := 114) (j := 0) C dX11_readMason_113 rfl rfl rfl ?_
          refine pw_getf (q := 117) C dX11_readMason_114 fX11_13 mh_o (by rfl) rfl ?_
          refine pw_iload_n (q := 118) (j := 1) C dX11_readMason_117 rfl rfl rfl ?_
          refine pw_iconst_n (q := 119) C 1 dX11_readMason_118 (by decide +kernel) rfl ?_
          refine pw_iadd_n (q := 120) C dX11_readMason_119 rfl ?_
          refine pw_ipg (q := 121) C dX11_readMason_120 mh_R (by omega) (by omega) rfl ?_
          rw [updN_at]
          refine pw_ipgst (q := 122) C dX11_readMason_121 mh_R (by omega) (by omega) rfl ?_
          rw [mh_s_R]
          refine pw_aload_n (q := 123) (j := 0) C dX11_readMason_122 rfl rfl rfl ?_
          refine pw_getf (q := 126) C dX11_readMason_123 fX11_13 mh_o (by rfl) rfl ?_
          refine pw_iload_n (q := 127) (j := 1) C dX11_readMason_126 rfl rfl rfl ?_
          refine pw_iconst_n (q := 128) C 3 dX11_readMason_127 (by decide +kernel) rfl ?_
          refine pw_iadd_n (q := 129) C dX11_readMason_128 rfl ?_
          refine pw_iconst_n (q := 130) C 0 dX11_readMason_129 (by decide +kernel) rfl ?_
          refine pw_ipgst (q := 131) C dX11_readMason_130 mh_R (by omega) (by omega) rfl ?_
          rw [mh_s_R]
          refine pw_aload_n (q := 132) (j := 0) C dX11_readMason_131 rfl rfl rfl ?_
          refine pw_getf (q := 135) C dX11_readMason_132 fX11_13 mh_o (by rfl) rfl ?_
          refine pw_bipush_n (q := 137) C 6 dX11_readMason_135 (by decide +kernel) rfl ?_
          refine pw_dup2 (q := 138) C dX11_readMason_137 rfl rfl rfl ?_
          refine pw_ipg (q := 139) C dX11_readMason_138 mh_R (by omega) (by omega) rfl ?_
          rw [updN_ne (show 6 ≠ 26 + 4 * R 6 + 3 by omega), updN_ne (show 6 ≠ 26 + 4 * R 6 + 2 by omega), updN_ne (show 6 ≠ 26 + 4 * R 6 + 1 by omega), updN_ne (show 6 ≠ 26 + 4 * R 6 by omega)]
          refine pw_iconst_n (q := 140) C 1 dX11_readMason_139 (by decide +kernel) rfl ?_
          refine pw_iadd_n (q := 141) C dX11_readMason_140 rfl ?_
          refine pw_ipgst (q := 142) C dX11_readMason_141 mh_R (by omega) (by omega) rfl ?_
          rw [mh_s_R]
          refine pw_iconst_n (q := 143) C 1 dX11_readMason_142 (by decide +kernel) rfl ?_
          exact pw_zret C dX11_readMason_143 rfl (by first | decide +kernel | exact nar_bN _ | exact nar_01 (by omega)) ⟨by omega, by omega⟩ (by
              have hs : masS T n p R ft = (1, p + 4, newMasonR R (T (p + 1) - 48) (10 * (T (p + 2) - 48) + (T (p + 3) - 48)), ft) := by rw [masS, if_pos h6, if_pos hA, if_pos hB, if_pos hC]
              rw [hs]
              exact RV.mk (by rfl) (by rfl))
        · have hC9 := hC
          rw [show lo2 (T (p + 2)) = 1 from if_pos (by omega), show hi2 (T (p + 2)) = 9 from if_pos (by omega)] at hC9
          refine pw_val (q := 73) (cr_v (j := iX11_digit) C dX11_readMason_70 lX11_83 mX11_digit (ro_mk (by decide) (by decide)) mh_o rfl (m_dig_n hn hT (by omega) (by omega) (by omega) hC9) rfl rfl (Nat.le_of_ble_eq_true rfl) ⟨by omega, by omega⟩) rfl (fun M70 e70 => ?_)
          subst e70
          refine pw_istore (q := 75) C dX11_readMason_73 rfl (by decide) rfl ?_
          refine pw_iload (q := 77) C dX11_readMason_75 rfl rfl ?_
          refine pw_bipush (q := 79) (v := (-9)) C dX11_readMason_77 (by decide +kernel) rfl ?_
          refine pw_icmp_ne (q := 82) 84 C dX11_readMason_79 (by decide) rfl (fun g79 => absurd g79 (fun q => q rfl)) (fun g79 => ?_)
          refine pw_iconst_n (q := 83) C 0 dX11_readMason_82 (by decide +kernel) rfl ?_
          exact pw_zret C dX11_readMason_83 rfl (by first | decide +kernel | exact nar_bN _ | exact nar_01 (by omega)) ⟨by omega, by omega⟩ (by
              have hs : masS T n p R ft = (0, p + 3, R, ft) := by rw [masS, if_pos h6, if_pos hA, if_pos hB, if_neg hC]
              rw [hs]
              exact RV.mk (by rfl) (by rfl))
    · refine pw_val (q := 38) (cr_v (j := iX11_digit) C dX11_readMason_35 lX11_83 mX11_digit (ro_mk (by decide) (by decide)) mh_o rfl (m_dig_n hn hT (by omega) (by omega) (by omega) hB) rfl rfl (Nat.le_of_ble_eq_true rfl) ⟨by omega, by omega⟩) rfl (fun M35 e35 => ?_)
      subst e35
      refine pw_istore_n (q := 39) (j := 3) C dX11_readMason_38 rfl rfl (by decide) rfl ?_
      refine pw_iload_n (q := 40) (j := 3) C dX11_readMason_39 rfl rfl rfl ?_
      refine pw_bipush (q := 42) (v := (-9)) C dX11_readMason_40 (by decide +kernel) rfl ?_
      refine pw_icmp_ne (q := 45) 50 C dX11_readMason_42 (by decide) rfl (fun g42 => absurd g42 (fun q => q rfl)) (fun g42 => ?_)
      refine pw_bipush (q := 47) (v := (-9)) C dX11_readMason_45 (by decide +kernel) rfl ?_
      refine pw_goto (q := 0) 73 C dX11_readMason_47 (by decide) ?_
      refine pw_istore (q := 75) C dX11_readMason_73 rfl (by decide) rfl ?_
      refine pw_iload (q := 77) C dX11_readMason_75 rfl rfl ?_
      refine pw_bipush (q := 79) (v := (-9)) C dX11_readMason_77 (by decide +kernel) rfl ?_
      refine pw_icmp_ne (q := 82) 84 C dX11_readMason_79 (by decide) rfl (fun g79 => absurd g79 (fun q => q rfl)) (fun g79 => ?_)
      refine pw_iconst_n (q := 83) C 0 dX11_readMason_82 (by decide +kernel) rfl ?_
      exact pw_zret C dX11_readMason_83 rfl (by first | decide +kernel | exact nar_bN _ | exact nar_01 (by omega)) ⟨by omega, by omega⟩ (by
          have hs : masS T n p R ft = (0, p + 2, R, ft) := by rw [masS, if_pos h6, if_pos hA, if_neg hB]
          rw [hs]
          exact RV.mk (by rfl) (by rfl))
  · refine pw_val (q := 20) (cr_v (j := iX11_digit) C dX11_readMason_17 lX11_83 mX11_digit (ro_mk (by decide) (by decide)) mh_o rfl (m_dig_n hn hT (by omega) (by omega) (by omega) hA) rfl rfl (Nat.le_of_ble_eq_true rfl) ⟨by omega, by omega⟩) rfl (fun M17 e17 => ?_)
    subst e17
    refine pw_istore_n (q := 21) (j := 2) C dX11_readMason_20 rfl rfl (by decide) rfl ?_
    refine pw_iload_n (q := 22) (j := 2) C dX11_readMason_21 rfl rfl rfl ?_
    refine pw_bipush (q := 24) (v := (-9)) C dX11_readMason_22 (by decide +kernel) rfl ?_
    refine pw_icmp_ne (q := 27) 32 C dX11_readMason_24 (by decide) rfl (fun g24 => absurd g24 (fun q => q rfl)) (fun g24 => ?_)
    refine pw_bipush (q := 29) (v := (-9)) C dX11_readMason_27 (by decide +kernel) rfl ?_
    refine pw_goto (q := 0) 38 C dX11_readMason_29 (by decide) ?_
    refine pw_istore_n (q := 39) (j := 3) C dX11_readMason_38 rfl rfl (by decide) rfl ?_
    refine pw_iload_n (q := 40) (j := 3) C dX11_readMason_39 rfl rfl rfl ?_
    refine pw_bipush (q := 42) (v := (-9)) C dX11_readMason_40 (by decide +kernel) rfl ?_
    refine pw_icmp_ne (q := 45) 50 C dX11_readMason_42 (by decide) rfl (fun g42 => absurd g42 (fun q => q rfl)) (fun g42 => ?_)
    refine pw_bipush (q := 47) (v := (-9)) C dX11_readMason_45 (by decide +kernel) rfl ?_
    refine pw_goto (q := 0) 73 C dX11_readMason_47 (by decide) ?_
    refine pw_istore (q := 75) C dX11_readMason_73 rfl (by decide) rfl ?_
    refine pw_iload (q := 77) C dX11_readMason_75 rfl rfl ?_
    refine pw_bipush (q := 79) (v := (-9)) C dX11_readMason_77 (by decide +kernel) rfl ?_
    refine pw_icmp_ne (q := 82) 84 C dX11_readMason_79 (by decide) rfl (fun g79 => absurd g79 (fun q => q rfl)) (fun g79 => ?_)
    refine pw_iconst_n (q := 83) C 0 dX11_readMason_82 (by decide +kernel) rfl ?_
    exact pw_zret C dX11_readMason_83 rfl (by first | decide +kernel | exact nar_bN _ | exact nar_01 (by omega)) ⟨by omega, by omega⟩ (by
        have hs : masS T n p R ft = (0, p + 1, R, ft) := by rw [masS, if_pos h6, if_neg hA]
        rw [hs]
        exact RV.mk (by rfl) (by rfl))
set_option maxHeartbeats 200000 in
set_option maxRecDepth 100000 in
theorem m_readStone {M : PH} {m rf n ft ac : Nat} {T R P Q D K B L : Nat → Nat} {p : Nat} (hn : n ≤ 80) (hT : ∀ k, k < n → T k ≤ 255) (hp : p ≤ 80) (b5 : R 5 ≤ 6) (b6 : R 6 ≤ 6) (b7 : R 7 ≤ 24) (h9 : 0 < R 6 ∧ 0 < R 5 ∧ R 7 < 24) : Run iX11_readStone [.ref m] (mh M m rf n ((p + 1)) ft ac T R P Q D K B L) 0 0 (RV (.int (nI (stoS T n p R ft).1)) (fun M1 => M1 = mh M m rf n ((stoS T n p R ft).2.1) ft ac T ((stoS T n p R ft).2.2.1) P Q D K B L)) := by
  refine Run.of (l0 := [some (.ref m), none, none, none, none]) (by decide +kernel) (Nat.le_of_ble_eq_true rfl) (by rfl) (fun Γ G C => ?_)
  refine pw_aload_n (q := 1) (j := 0) C dX11_readStone_0 rfl rfl rfl ?_
  refine pw_iconst_n (q := 2) C 0 dX11_readStone_1 (by decide +kernel) rfl ?_
  refine pw_aload_n (q := 3) (j := 0) C dX11_readStone_2 rfl rfl rfl ?_
  refine pw_getf (q := 6) C dX11_readStone_3 fX11_13 mh_o (by rfl) rfl ?_
  refine pw_bipush_n (q := 8) C 6 dX11_readStone_6 (by decide +kernel) rfl ?_
  refine pw_ipg (q := 9) C dX11_readStone_8 mh_R (by omega) (by omega) rfl ?_
  refine pw_iconst_n (q := 10) C 1 dX11_readStone_9 (by decide +kernel) rfl ?_
  refine pw_isub_n (q := 11) C dX11_readStone_10 (by omega) rfl ?_
  by_cases hA : Dg T n (p + 1) 0 (R 6 - 1)
  · refine pw_val (q := 14) (cr_v (j := iX11_digit) C dX11_readStone_11 lX11_83 mX11_digit (ro_mk (by decide) (by decide)) mh_o rfl (m_dig_y hn hT (by omega) (by omega) hA) rfl rfl (Nat.le_of_ble_eq_true rfl) ⟨by omega, by omega⟩) rfl (fun M11 e11 => ?_)
    subst e11
    rw [show p + 1 + 1 = p + 2 from rfl]
    refine pw_istore_n (q := 15) (j := 1) C dX11_readStone_14 rfl rfl (by decide) rfl ?_
    refine pw_iload_n (q := 16) (j := 1) C dX11_readStone_15 rfl rfl rfl ?_
    refine pw_bipush (q := 18) (v := (-9)) C dX11_readStone_16 (by decide +kernel) rfl ?_
    refine pw_icmp_ne (q := 21) 26 C dX11_readStone_18 (by decide) rfl (fun g18 => ?_) (fun g18 => absurd g18 (optI_ne (by omega)))
    refine pw_aload_n (q := 27) (j := 0) C dX11_readStone_26 rfl rfl rfl ?_
    refine pw_iconst_n (q := 28) C 0 dX11_readStone_27 (by decide +kernel) rfl ?_
    refine pw_aload_n (q := 29) (j := 0) C dX11_readStone_28 rfl rfl rfl ?_
    refine pw_getf (q := 32) C dX11_readStone_29 fX11_13 mh_o (by rfl) rfl ?_
    refine pw_iconst_n (q := 33) C 5 dX11_readStone_32 (by decide +kernel) rfl ?_
    refine pw_ipg (q := 34) C dX11_readStone_33 mh_R (by omega) (by omega) rfl ?_
    refine pw_iconst_n (q := 35) C 1 dX11_readStone_34 (by decide +kernel) rfl ?_
    refine pw_isub_n (q := 36) C dX11_readStone_35 (by omega) rfl ?_
    by_cases hB : Dg T n (p + 2) 0 (R 5 - 1)
    · refine pw_val (q := 39) (cr_v (j := iX11_digit) C dX11_readStone_36 lX11_83 mX11_digit (ro_mk (by decide) (by decide)) mh_o rfl (m_dig_y hn hT (by omega) (by omega) hB) rfl rfl (Nat.le_of_ble_eq_true rfl) ⟨by omega, by omega⟩) rfl (fun M36 e36 => ?_)
      subst e36
      rw [show p + 2 + 1 = p + 3 from rfl]
      refine pw_istore_n (q := 40) (j := 2) C dX11_readStone_39 rfl rfl (by decide) rfl ?_
      refine pw_iload_n (q := 41) (j := 2) C dX11_readStone_40 rfl rfl rfl ?_
      refine pw_bipush (q := 43) (v := (-9)) C dX11_readStone_41 (by decide +kernel) rfl ?_
      refine pw_icmp_ne (q := 46) 51 C dX11_readStone_43 (by decide) rfl (fun g43 => ?_) (fun g43 => absurd g43 (optI_ne (by omega)))
      refine pw_aload_n (q := 52) (j := 0) C dX11_readStone_51 rfl rfl rfl ?_
      refine pw_iconst_n (q := 53) C 0 dX11_readStone_52 (by decide +kernel) rfl ?_
      refine pw_bipush_n (q := 55) C 9 dX11_readStone_53 (by decide +kernel) rfl ?_
      by_cases hC : Dg T n (p + 3) 0 9
      · refine pw_val (q := 58) (cr_v (j := iX11_digit) C dX11_readStone_55 lX11_83 mX11_digit (ro_mk (by decide) (by decide)) mh_o rfl (m_dig_y hn hT (by omega) (by omega) hC) rfl rfl (Nat.le_of_ble_eq_true rfl) ⟨by omega, by omega⟩) rfl (fun M55 e55 => ?_)
        subst e55
        rw [show p + 3 + 1 = p + 4 from rfl]
        refine pw_istore_n (q := 59) (j := 3) C dX11_readStone_58 rfl rfl (by decide) rfl ?_
        refine pw_iload_n (q := 60) (j := 3) C dX11_readStone_59 rfl rfl rfl ?_
        refine pw_bipush (q := 62) (v := (-9)) C dX11_readStone_60 (by decide +kernel) rfl ?_
        refine pw_icmp_ne (q := 65) 67 C dX11_readStone_62 (by decide) rfl (fun g62 => ?_) (fun g62 => absurd g62 (optI_ne (by omega)))
        refine pw_aload_n (q := 68) (j := 0) C dX11_readStone_67 rfl rfl rfl ?_
        refine pw_getf (q := 71) C dX11_readStone_68 fX11_13 mh_o (by rfl) rfl ?_
        refine pw_iload_n (q := 72) (j := 1) C dX11_readStone_71 rfl rfl rfl ?_
        refine pw_iload_n (q := 73) (j := 2) C dX11_readStone_72 rfl rfl rfl ?_
        refine pw_iload_n (q := 74) (j := 3) C dX11_readStone_73 rfl rfl rfl ?_
        refine pw_val (q := 77) (cr_s (j := iX11_layStone) C dX11_readStone_74 lX11_54 mX11_layStone (ro_mk (by decide) (by decide))  (m_layStone mh_R (by omega)) rfl rfl (Nat.le_of_ble_eq_true rfl) ⟨by omega, by omega⟩) rfl (fun M74 e74 => ?_)
        rw [mh_s_R] at e74
        subst e74
        refine pw_istore (q := 79) C dX11_readStone_77 rfl (by decide) rfl ?_
        refine pw_iload (q := 81) C dX11_readStone_79 rfl rfl ?_
        refine pw_if_lt (q := 84) 88 C dX11_readStone_81 (by decide) rfl (fun g81 => absurd g81 (nI_pos (by omega))) (fun g81 => ?_)
        refine pw_iconst_n (q := 85) C 1 dX11_readStone_84 (by decide +kernel) rfl ?_
        refine pw_goto (q := 0) 89 C dX11_readStone_85 (by decide) ?_
        exact pw_zret C dX11_readStone_89 rfl (by first | decide +kernel | exact nar_bN _ | exact nar_01 (by omega)) ⟨by omega, by omega⟩ (by
            have hs : stoS T n p R ft = (1, p + 4, newStoneP R (T (p + 1) - 48) (T (p + 2) - 48) (T (p + 3) - 48), ft) := by rw [stoS, if_pos h9, if_pos hA, if_pos hB, if_pos hC]
            rw [hs]
            exact RV.mk (by rfl) (by rfl))
      · refine pw_val (q := 58) (cr_v (j := iX11_digit) C dX11_readStone_55 lX11_83 mX11_digit (ro_mk (by decide) (by decide)) mh_o rfl (m_dig_n hn hT (by omega) (by omega) (by omega) hC) rfl rfl (Nat.le_of_ble_eq_true rfl) ⟨by omega, by omega⟩) rfl (fun M55 e55 => ?_)
        subst e55
        refine pw_istore_n (q := 59) (j := 3) C dX11_readStone_58 rfl rfl (by decide) rfl ?_
        refine pw_iload_n (q := 60) (j := 3) C dX11_readStone_59 rfl rfl rfl ?_
        refine pw_bipush (q := 62) (v := (-9)) C dX11_readStone_60 (by decide +kernel) rfl ?_
        refine pw_icmp_ne (q := 65) 67 C dX11_readStone_62 (by decide) rfl (fun g62 => absurd g62 (fun q => q rfl)) (fun g62 => ?_)
        refine pw_iconst_n (q := 66) C 0 dX11_readStone_65 (by decide +kernel) rfl ?_
        exact pw_zret C dX11_readStone_66 rfl (by first | decide +kernel | exact nar_bN _ | exact nar_01 (by omega)) ⟨by omega, by omega⟩ (by
            have hs : stoS T n p R ft = (0, p + 3, R, ft) := by rw [stoS, if_pos h9, if_pos hA, if_pos hB, if_neg hC]
            rw [hs]
            exact RV.mk (by rfl) (by rfl))
    · refine pw_val (q := 39) (cr_v (j := iX11_digit) C dX11_readStone_36 lX11_83 mX11_digit (ro_mk (by decide) (by decide)) mh_o rfl (m_dig_n hn hT (by omega) (by omega) (by omega) hB) rfl rfl (Nat.le_of_ble_eq_true rfl) ⟨by omega, by omega⟩) rfl (fun M36 e36 => ?_)
      subst e36
      refine pw_istore_n (q := 40) (j := 2) C dX11_readStone_39 rfl rfl (by decide) rfl ?_
      refine pw_iload_n (q := 41) (j := 2) C dX11_readStone_40 rfl rfl rfl ?_
      refine pw_bipush (q := 43) (v := (-9)) C dX11_readStone_41 (by decide +kernel) rfl ?_
      refine pw_icmp_ne (q := 46) 51 C dX11_readStone_43 (by decide) rfl (fun g43 => absurd g43 (fun q => q rfl)) (fun g43 => ?_)
      refine pw_bipush (q := 48) (v := (-9)) C dX11_readStone_46 (by decide +kernel) rfl ?_
      refine pw_goto (q := 0) 58 C dX11_readStone_48 (by decide) ?_
      refine pw_istore_n (q := 59) (j := 3) C dX11_readStone_58 rfl rfl (by decide) rfl ?_
      refine pw_iload_n (q := 60) (j := 3) C dX11_readStone_59 rfl rfl rfl ?_
      refine pw_bipush (q := 62) (v := (-9)) C dX11_readStone_60 (by decide +kernel) rfl ?_
      refine pw_icmp_ne (q := 65) 67 C dX11_readStone_62 (by decide) rfl (fun g62 => absurd g62 (fun q => q rfl)) (fun g62 => ?_)
      refine pw_iconst_n (q := 66) C 0 dX11_readStone_65 (by decide +kernel) rfl ?_
      exact pw_zret C dX11_readStone_66 rfl (by first | decide +kernel | exact nar_bN _ | exact nar_01 (by omega)) ⟨by omega, by omega⟩ (by
          have hs : stoS T n p R ft = (0, p + 2, R, ft) := by rw [stoS, if_pos h9, if_pos hA, if_neg hB]
          rw [hs]
          exact RV.mk (by rfl) (by rfl))
  · refine pw_val (q := 14) (cr_v (j := iX11_digit) C dX11_readStone_11 lX11_83 mX11_digit (ro_mk (by decide) (by decide)) mh_o rfl (m_dig_n hn hT (by omega) (by omega) (by omega) hA) rfl rfl (Nat.le_of_ble_eq_true rfl) ⟨by omega, by omega⟩) rfl (fun M11 e11 => ?_)
    subst e11
    refine pw_istore_n (q := 15) (j := 1) C dX11_readStone_14 rfl rfl (by decide) rfl ?_
    refine pw_iload_n (q := 16) (j := 1) C dX11_readStone_15 rfl rfl rfl ?_
    refine pw_bipush (q := 18) (v := (-9)) C dX11_readStone_16 (by decide +kernel) rfl ?_
    refine pw_icmp_ne (q := 21) 26 C dX11_readStone_18 (by decide) rfl (fun g18 => absurd g18 (fun q => q rfl)) (fun g18 => ?_)
    refine pw_bipush (q := 23) (v := (-9)) C dX11_readStone_21 (by decide +kernel) rfl ?_
    refine pw_goto (q := 0) 39 C dX11_readStone_23 (by decide) ?_
    refine pw_istore_n (q := 40) (j := 2) C dX11_readStone_39 rfl rfl (by decide) rfl ?_
    refine pw_iload_n (q := 41) (j := 2) C dX11_readStone_40 rfl rfl rfl ?_
    refine pw_bipush (q := 43) (v := (-9)) C dX11_readStone_41 (by decide +kernel) rfl ?_
    refine pw_icmp_ne (q := 46) 51 C dX11_readStone_43 (by decide) rfl (fun g43 => absurd g43 (fun q => q rfl)) (fun g43 => ?_)
    refine pw_bipush (q := 48) (v := (-9)) C dX11_readStone_46 (by decide +kernel) rfl ?_
    refine pw_goto (q := 0) 58 C dX11_readStone_48 (by decide) ?_
    refine pw_istore_n (q := 59) (j := 3) C dX11_readStone_58 rfl rfl (by decide) rfl ?_
    refine pw_iload_n (q := 60) (j := 3) C dX11_readStone_59 rfl rfl rfl ?_
    refine pw_bipush (q := 62) (v := (-9)) C dX11_readStone_60 (by decide +kernel) rfl ?_
    refine pw_icmp_ne (q := 65) 67 C dX11_readStone_62 (by decide) rfl (fun g62 => absurd g62 (fun q => q rfl)) (fun g62 => ?_)
    refine pw_iconst_n (q := 66) C 0 dX11_readStone_65 (by decide +kernel) rfl ?_
    exact pw_zret C dX11_readStone_66 rfl (by first | decide +kernel | exact nar_bN _ | exact nar_01 (by omega)) ⟨by omega, by omega⟩ (by
        have hs : stoS T n p R ft = (0, p + 1, R, ft) := by rw [stoS, if_pos h9, if_neg hA]
        rw [hs]
        exact RV.mk (by rfl) (by rfl))
theorem parS_no {T : Nat → Nat} {n p : Nat} {R : Nat → Nat} {fr : Nat} (h1 : 6 ≤ R 5 ∨ T p ≠ 99) (h2 : 6 ≤ R 6 ∨ T p ≠ 109) (h3 : R 6 = 0 ∨ R 5 = 0 ∨ 24 ≤ R 7 ∨ T p ≠ 115) (h4 : fr ≠ 0 ∨ T p ≠ 102) : parS T n p R fr = (0, p, R, fr) := by
  unfold parS
  split
  · unfold crsS; rw [if_neg (by omega)]
  · split
    · unfold masS; rw [if_neg (by omega)]
    · split
      · unfold stoS; rw [if_neg (by omega)]
      · split
        · unfold froS; rw [if_neg (by omega)]
        · rfl
set_option maxHeartbeats 200000 in
set_option maxRecDepth 100000 in
theorem m_readPart {M : PH} {m rf n ft ac : Nat} {T R P Q D K B L : Nat → Nat} {p : Nat} (hn : n ≤ 80) (hT : ∀ k, k < n → T k ≤ 255) (hp : p ≤ 80) (b5 : R 5 ≤ 6) (b6 : R 6 ≤ 6) (b7 : R 7 ≤ 24) (hpn : p < n) (hf : ft ≤ 1) : Run iX11_readPart [.ref m] (mh M m rf n p ft ac T R P Q D K B L) 0 0 (RV (.int (nI (parS T n p R ft).1)) (fun M1 => M1 = mh M m rf n ((parS T n p R ft).2.1) ((parS T n p R ft).2.2.2) ac T ((parS T n p R ft).2.2.1) P Q D K B L)) := by
  refine Run.of (l0 := [some (.ref m)]) (by decide +kernel) (Nat.le_of_ble_eq_true rfl) (by rfl) (fun Γ G C => ?_)
  refine pw_aload_n (q := 1) (j := 0) C dX11_readPart_0 rfl rfl rfl ?_
  refine pw_getf (q := 4) C dX11_readPart_1 fX11_13 mh_o (by rfl) rfl ?_
  refine pw_iconst_n (q := 5) C 5 dX11_readPart_4 (by decide +kernel) rfl ?_
  refine pw_ipg (q := 6) C dX11_readPart_5 mh_R (by omega) (by omega) rfl ?_
  refine pw_bipush_n (q := 8) C 6 dX11_readPart_6 (by decide +kernel) rfl ?_
  refine pw_icmp_ge_n (q := 11) 25 C dX11_readPart_8 (by decide) rfl (by omega) (by omega) (fun g8 => ?_) (fun g8 => ?_)
  · refine pw_aload_n (q := 26) (j := 0) C dX11_readPart_25 rfl rfl rfl ?_
    refine pw_getf (q := 29) C dX11_readPart_26 fX11_13 mh_o (by rfl) rfl ?_
    refine pw_bipush_n (q := 31) C 6 dX11_readPart_29 (by decide +kernel) rfl ?_
    refine pw_ipg (q := 32) C dX11_readPart_31 mh_R (by omega) (by omega) rfl ?_
    refine pw_bipush_n (q := 34) C 6 dX11_readPart_32 (by decide +kernel) rfl ?_
    refine pw_icmp_ge_n (q := 37) 51 C dX11_readPart_34 (by decide) rfl (by omega) (by omega) (fun g34 => ?_) (fun g34 => ?_)
    · refine pw_aload_n (q := 52) (j := 0) C dX11_readPart_51 rfl rfl rfl ?_
      refine pw_getf (q := 55) C dX11_readPart_52 fX11_13 mh_o (by rfl) rfl ?_
      refine pw_bipush_n (q := 57) C 6 dX11_readPart_55 (by decide +kernel) rfl ?_
      refine pw_ipg (q := 58) C dX11_readPart_57 mh_R (by omega) (by omega) rfl ?_
      refine pw_if_le_n (q := 61) 96 C dX11_readPart_58 (by decide) rfl (by omega) (fun g58 => ?_) (fun g58 => ?_)
      · refine pw_aload_n (q := 97) (j := 0) C dX11_readPart_96 rfl rfl rfl ?_
        refine pw_getf (q := 100) C dX11_readPart_97 fX11_100 mh_o (by rfl) rfl ?_
        refine pw_if_ne_n (q := 103) 119 C dX11_readPart_100 (by decide) rfl (by omega) (fun g100 => ?_) (fun g100 => ?_)
        · refine pw_iconst_n (q := 120) C 0 dX11_readPart_119 (by decide +kernel) rfl ?_
          exact pw_zret C dX11_readPart_120 rfl (by first | decide +kernel | exact nar_bN _ | exact nar_01 (by omega)) ⟨by omega, by omega⟩ (by
              have hs : parS T n p R ft = (0, p, R, ft) := parS_no (by omega) (by omega) (by omega) (by omega)
              rw [hs]
              exact RV.mk (by rfl) (by first | rfl | rw [crsS_f]))
        · refine pw_aload_n (q := 104) (j := 0) C dX11_readPart_103 rfl rfl rfl ?_
          refine pw_bipush_n (q := 106) C 102 dX11_readPart_104 (by decide +kernel) rfl ?_
          by_cases he102 : T p = 102
          · refine pw_val (q := 109) (cr_v (j := iX11_eat) C dX11_readPart_106 lX11_87 mX11_eat (ro_mk (by decide) (by decide)) mh_o rfl (m_eat_y hn hT ⟨hpn, he102⟩) rfl rfl (Nat.le_of_ble_eq_true rfl) ⟨by omega, by omega⟩) rfl (fun M106 e106 => ?_)
            subst e106
            refine pw_if_eq_n (q := 112) 119 C dX11_readPart_109 (by decide) rfl (by omega) (fun g109 => absurd g109 (by decide)) (fun g109 => ?_)
            refine pw_aload_n (q := 113) (j := 0) C dX11_readPart_112 rfl rfl rfl ?_
            refine pw_iconst_n (q := 114) C 1 dX11_readPart_113 (by decide +kernel) rfl ?_
            refine pw_put (q := 117) C dX11_readPart_114 fX11_100 mh_o (nar_01 (a := 1) (by omega)) (fit_01 (a := 1) (by omega)) (Nat.le_of_ble_eq_true rfl) rfl ?_
            rw [mh_s_ft]
            refine pw_iconst_n (q := 118) C 1 dX11_readPart_117 (by decide +kernel) rfl ?_
            exact pw_zret C dX11_readPart_118 rfl (by first | decide +kernel | exact nar_bN _ | exact nar_01 (by omega)) ⟨by omega, by omega⟩ (by
                have hs : parS T n p R ft = (1, p + 1, R, 1) := by rw [parS, if_neg (by omega), if_neg (by omega), if_neg (by omega), if_pos he102, froS, if_pos (by omega)]
                rw [hs]
                exact RV.mk (by rfl) (by first | rfl | rw [crsS_f]))
          · refine pw_val (q := 109) (cr_v (j := iX11_eat) C dX11_readPart_106 lX11_87 mX11_eat (ro_mk (by decide) (by decide)) mh_o rfl (m_eat_n hn hT (by omega) (by decide) (fun q => he102 q.2)) rfl rfl (Nat.le_of_ble_eq_true rfl) ⟨by omega, by omega⟩) rfl (fun M106 e106 => ?_)
            subst e106
            refine pw_if_eq_n (q := 112) 119 C dX11_readPart_109 (by decide) rfl (by omega) (fun g109 => ?_) (fun g109 => absurd g109 (fun q => q rfl))
            refine pw_iconst_n (q := 120) C 0 dX11_readPart_119 (by decide +kernel) rfl ?_
            exact pw_zret C dX11_readPart_120 rfl (by first | decide +kernel | exact nar_bN _ | exact nar_01 (by omega)) ⟨by omega, by omega⟩ (by
                have hs : parS T n p R ft = (0, p, R, ft) := parS_no (by omega) (by omega) (by omega) (by omega)
                rw [hs]
                exact RV.mk (by rfl) (by first | rfl | rw [crsS_f]))
      · refine pw_aload_n (q := 62) (j := 0) C dX11_readPart_61 rfl rfl rfl ?_
        refine pw_getf (q := 65) C dX11_readPart_62 fX11_13 mh_o (by rfl) rfl ?_
        refine pw_iconst_n (q := 66) C 5 dX11_readPart_65 (by decide +kernel) rfl ?_
        refine pw_ipg (q := 67) C dX11_readPart_66 mh_R (by omega) (by omega) rfl ?_
        refine pw_if_le_n (q := 70) 96 C dX11_readPart_67 (by decide) rfl (by omega) (fun g67 => ?_) (fun g67 => ?_)
        · refine pw_aload_n (q := 97) (j := 0) C dX11_readPart_96 rfl rfl rfl ?_
          refine pw_getf (q := 100) C dX11_readPart_97 fX11_100 mh_o (by rfl) rfl ?_
          refine pw_if_ne_n (q := 103) 119 C dX11_readPart_100 (by decide) rfl (by omega) (fun g100 => ?_) (fun g100 => ?_)
          · refine pw_iconst_n (q := 120) C 0 dX11_readPart_119 (by decide +kernel) rfl ?_
            exact pw_zret C dX11_readPart_120 rfl (by first | decide +kernel | exact nar_bN _ | exact nar_01 (by omega)) ⟨by omega, by omega⟩ (by
                have hs : parS T n p R ft = (0, p, R, ft) := parS_no (by omega) (by omega) (by omega) (by omega)
                rw [hs]
                exact RV.mk (by rfl) (by first | rfl | rw [crsS_f]))
          · refine pw_aload_n (q := 104) (j := 0) C dX11_readPart_103 rfl rfl rfl ?_
            refine pw_bipush_n (q := 106) C 102 dX11_readPart_104 (by decide +kernel) rfl ?_
            by_cases he102 : T p = 102
            · refine pw_val (q := 109) (cr_v (j := iX11_eat) C dX11_readPart_106 lX11_87 mX11_eat (ro_mk (by decide) (by decide)) mh_o rfl (m_eat_y hn hT ⟨hpn, he102⟩) rfl rfl (Nat.le_of_ble_eq_true rfl) ⟨by omega, by omega⟩) rfl (fun M106 e106 => ?_)
              subst e106
              refine pw_if_eq_n (q := 112) 119 C dX11_readPart_109 (by decide) rfl (by omega) (fun g109 => absurd g109 (by decide)) (fun g109 => ?_)
              refine pw_aload_n (q := 113) (j := 0) C dX11_readPart_112 rfl rfl rfl ?_
              refine pw_iconst_n (q := 114) C 1 dX11_readPart_113 (by decide +kernel) rfl ?_
              refine pw_put (q := 117) C dX11_readPart_114 fX11_100 mh_o (nar_01 (a := 1) (by omega)) (fit_01 (a := 1) (by omega)) (Nat.le_of_ble_eq_true rfl) rfl ?_
              rw [mh_s_ft]
              refine pw_iconst_n (q := 118) C 1 dX11_readPart_117 (by decide +kernel) rfl ?_
              exact pw_zret C dX11_readPart_118 rfl (by first | decide +kernel | exact nar_bN _ | exact nar_01 (by omega)) ⟨by omega, by omega⟩ (by
                  have hs : parS T n p R ft = (1, p + 1, R, 1) := by rw [parS, if_neg (by omega), if_neg (by omega), if_neg (by omega), if_pos he102, froS, if_pos (by omega)]
                  rw [hs]
                  exact RV.mk (by rfl) (by first | rfl | rw [crsS_f]))
            · refine pw_val (q := 109) (cr_v (j := iX11_eat) C dX11_readPart_106 lX11_87 mX11_eat (ro_mk (by decide) (by decide)) mh_o rfl (m_eat_n hn hT (by omega) (by decide) (fun q => he102 q.2)) rfl rfl (Nat.le_of_ble_eq_true rfl) ⟨by omega, by omega⟩) rfl (fun M106 e106 => ?_)
              subst e106
              refine pw_if_eq_n (q := 112) 119 C dX11_readPart_109 (by decide) rfl (by omega) (fun g109 => ?_) (fun g109 => absurd g109 (fun q => q rfl))
              refine pw_iconst_n (q := 120) C 0 dX11_readPart_119 (by decide +kernel) rfl ?_
              exact pw_zret C dX11_readPart_120 rfl (by first | decide +kernel | exact nar_bN _ | exact nar_01 (by omega)) ⟨by omega, by omega⟩ (by
                  have hs : parS T n p R ft = (0, p, R, ft) := parS_no (by omega) (by omega) (by omega) (by omega)
                  rw [hs]
                  exact RV.mk (by rfl) (by first | rfl | rw [crsS_f]))
        · refine pw_aload_n (q := 71) (j := 0) C dX11_readPart_70 rfl rfl rfl ?_
          refine pw_getf (q := 74) C dX11_readPart_71 fX11_13 mh_o (by rfl) rfl ?_
          refine pw_bipush_n (q := 76) C 7 dX11_readPart_74 (by decide +kernel) rfl ?_
          refine pw_ipg (q := 77) C dX11_readPart_76 mh_R (by omega) (by omega) rfl ?_
          refine pw_bipush_n (q := 79) C 24 dX11_readPart_77 (by decide +kernel) rfl ?_
          refine pw_icmp_ge_n (q := 82) 96 C dX11_readPart_79 (by decide) rfl (by omega) (by omega) (fun g79 => ?_) (fun g79 => ?_)
          · refine pw_aload_n (q := 97) (j := 0) C dX11_readPart_96 rfl rfl rfl ?_
            refine pw_getf (q := 100) C dX11_readPart_97 fX11_100 mh_o (by rfl) rfl ?_
            refine pw_if_ne_n (q := 103) 119 C dX11_readPart_100 (by decide) rfl (by omega) (fun g100 => ?_) (fun g100 => ?_)
            · refine pw_iconst_n (q := 120) C 0 dX11_readPart_119 (by decide +kernel) rfl ?_
              exact pw_zret C dX11_readPart_120 rfl (by first | decide +kernel | exact nar_bN _ | exact nar_01 (by omega)) ⟨by omega, by omega⟩ (by
                  have hs : parS T n p R ft = (0, p, R, ft) := parS_no (by omega) (by omega) (by omega) (by omega)
                  rw [hs]
                  exact RV.mk (by rfl) (by first | rfl | rw [crsS_f]))
            · refine pw_aload_n (q := 104) (j := 0) C dX11_readPart_103 rfl rfl rfl ?_
              refine pw_bipush_n (q := 106) C 102 dX11_readPart_104 (by decide +kernel) rfl ?_
              by_cases he102 : T p = 102
              · refine pw_val (q := 109) (cr_v (j := iX11_eat) C dX11_readPart_106 lX11_87 mX11_eat (ro_mk (by decide) (by decide)) mh_o rfl (m_eat_y hn hT ⟨hpn, he102⟩) rfl rfl (Nat.le_of_ble_eq_true rfl) ⟨by omega, by omega⟩) rfl (fun M106 e106 => ?_)
                subst e106
                refine pw_if_eq_n (q := 112) 119 C dX11_readPart_109 (by decide) rfl (by omega) (fun g109 => absurd g109 (by decide)) (fun g109 => ?_)
                refine pw_aload_n (q := 113) (j := 0) C dX11_readPart_112 rfl rfl rfl ?_
                refine pw_iconst_n (q := 114) C 1 dX11_readPart_113 (by decide +kernel) rfl ?_
                refine pw_put (q := 117) C dX11_readPart_114 fX11_100 mh_o (nar_01 (a := 1) (by omega)) (fit_01 (a := 1) (by omega)) (Nat.le_of_ble_eq_true rfl) rfl ?_
                rw [mh_s_ft]
                refine pw_iconst_n (q := 118) C 1 dX11_readPart_117 (by decide +kernel) rfl ?_
                exact pw_zret C dX11_readPart_118 rfl (by first | decide +kernel | exact nar_bN _ | exact nar_01 (by omega)) ⟨by omega, by omega⟩ (by
                    have hs : parS T n p R ft = (1, p + 1, R, 1) := by rw [parS, if_neg (by omega), if_neg (by omega), if_neg (by omega), if_pos he102, froS, if_pos (by omega)]
                    rw [hs]
                    exact RV.mk (by rfl) (by first | rfl | rw [crsS_f]))
              · refine pw_val (q := 109) (cr_v (j := iX11_eat) C dX11_readPart_106 lX11_87 mX11_eat (ro_mk (by decide) (by decide)) mh_o rfl (m_eat_n hn hT (by omega) (by decide) (fun q => he102 q.2)) rfl rfl (Nat.le_of_ble_eq_true rfl) ⟨by omega, by omega⟩) rfl (fun M106 e106 => ?_)
                subst e106
                refine pw_if_eq_n (q := 112) 119 C dX11_readPart_109 (by decide) rfl (by omega) (fun g109 => ?_) (fun g109 => absurd g109 (fun q => q rfl))
                refine pw_iconst_n (q := 120) C 0 dX11_readPart_119 (by decide +kernel) rfl ?_
                exact pw_zret C dX11_readPart_120 rfl (by first | decide +kernel | exact nar_bN _ | exact nar_01 (by omega)) ⟨by omega, by omega⟩ (by
                    have hs : parS T n p R ft = (0, p, R, ft) := parS_no (by omega) (by omega) (by omega) (by omega)
                    rw [hs]
                    exact RV.mk (by rfl) (by first | rfl | rw [crsS_f]))
          · refine pw_aload_n (q := 83) (j := 0) C dX11_readPart_82 rfl rfl rfl ?_
            refine pw_bipush_n (q := 85) C 115 dX11_readPart_83 (by decide +kernel) rfl ?_
            by_cases he115 : T p = 115
            · refine pw_val (q := 88) (cr_v (j := iX11_eat) C dX11_readPart_85 lX11_87 mX11_eat (ro_mk (by decide) (by decide)) mh_o rfl (m_eat_y hn hT ⟨hpn, he115⟩) rfl rfl (Nat.le_of_ble_eq_true rfl) ⟨by omega, by omega⟩) rfl (fun M85 e85 => ?_)
              subst e85
              refine pw_if_eq_n (q := 91) 96 C dX11_readPart_88 (by decide) rfl (by omega) (fun g88 => absurd g88 (by decide)) (fun g88 => ?_)
              refine pw_aload_n (q := 92) (j := 0) C dX11_readPart_91 rfl rfl rfl ?_
              refine pw_val (q := 95) (cr_v (j := iX11_readStone) C dX11_readPart_92 lX11_97 mX11_readStone (ro_mk (by decide) (by decide)) mh_o rfl (m_readStone hn hT (by omega) b5 b6 b7 ⟨by omega, by omega, by omega⟩) rfl rfl (Nat.le_of_ble_eq_true rfl) ⟨by omega, by omega⟩) rfl (fun M92 e92 => ?_)
              subst e92
              exact pw_zret C dX11_readPart_95 rfl (nar_01 (stoS_1 ..)) ⟨by omega, by omega⟩ (by
                  have hs : parS T n p R ft = stoS T n p R ft := by rw [parS, if_neg (by omega), if_neg (by omega), if_pos he115]
                  rw [hs]
                  exact RV.mk (by rfl) (by first | rfl | rw [stoS_f]))
            · refine pw_val (q := 88) (cr_v (j := iX11_eat) C dX11_readPart_85 lX11_87 mX11_eat (ro_mk (by decide) (by decide)) mh_o rfl (m_eat_n hn hT (by omega) (by decide) (fun q => he115 q.2)) rfl rfl (Nat.le_of_ble_eq_true rfl) ⟨by omega, by omega⟩) rfl (fun M85 e85 => ?_)
              subst e85
              refine pw_if_eq_n (q := 91) 96 C dX11_readPart_88 (by decide) rfl (by omega) (fun g88 => ?_) (fun g88 => absurd g88 (fun q => q rfl))
              refine pw_aload_n (q := 97) (j := 0) C dX11_readPart_96 rfl rfl rfl ?_
              refine pw_getf (q := 100) C dX11_readPart_97 fX11_100 mh_o (by rfl) rfl ?_
              refine pw_if_ne_n (q := 103) 119 C dX11_readPart_100 (by decide) rfl (by omega) (fun g100 => ?_) (fun g100 => ?_)
              · refine pw_iconst_n (q := 120) C 0 dX11_readPart_119 (by decide +kernel) rfl ?_
                exact pw_zret C dX11_readPart_120 rfl (by first | decide +kernel | exact nar_bN _ | exact nar_01 (by omega)) ⟨by omega, by omega⟩ (by
                    have hs : parS T n p R ft = (0, p, R, ft) := parS_no (by omega) (by omega) (by omega) (by omega)
                    rw [hs]
                    exact RV.mk (by rfl) (by first | rfl | rw [crsS_f]))
              · refine pw_aload_n (q := 104) (j := 0) C dX11_readPart_103 rfl rfl rfl ?_
                refine pw_bipush_n (q := 106) C 102 dX11_readPart_104 (by decide +kernel) rfl ?_
                by_cases he102 : T p = 102
                · refine pw_val (q := 109) (cr_v (j := iX11_eat) C dX11_readPart_106 lX11_87 mX11_eat (ro_mk (by decide) (by decide)) mh_o rfl (m_eat_y hn hT ⟨hpn, he102⟩) rfl rfl (Nat.le_of_ble_eq_true rfl) ⟨by omega, by omega⟩) rfl (fun M106 e106 => ?_)
                  subst e106
                  refine pw_if_eq_n (q := 112) 119 C dX11_readPart_109 (by decide) rfl (by omega) (fun g109 => absurd g109 (by decide)) (fun g109 => ?_)
                  refine pw_aload_n (q := 113) (j := 0) C dX11_readPart_112 rfl rfl rfl ?_
                  refine pw_iconst_n (q := 114) C 1 dX11_readPart_113 (by decide +kernel) rfl ?_
                  refine pw_put (q := 117) C dX11_readPart_114 fX11_100 mh_o (nar_01 (a := 1) (by omega)) (fit_01 (a := 1) (by omega)) (Nat.le_of_ble_eq_true rfl) rfl ?_
                  rw [mh_s_ft]
                  refine pw_iconst_n (q := 118) C 1 dX11_readPart_117 (by decide +kernel) rfl ?_
                  exact pw_zret C dX11_readPart_118 rfl (by first | decide +kernel | exact nar_bN _ | exact nar_01 (by omega)) ⟨by omega, by omega⟩ (by
                      have hs : parS T n p R ft = (1, p + 1, R, 1) := by rw [parS, if_neg (by omega), if_neg (by omega), if_neg (by omega), if_pos he102, froS, if_pos (by omega)]
                      rw [hs]
                      exact RV.mk (by rfl) (by first | rfl | rw [crsS_f]))
                · refine pw_val (q := 109) (cr_v (j := iX11_eat) C dX11_readPart_106 lX11_87 mX11_eat (ro_mk (by decide) (by decide)) mh_o rfl (m_eat_n hn hT (by omega) (by decide) (fun q => he102 q.2)) rfl rfl (Nat.le_of_ble_eq_true rfl) ⟨by omega, by omega⟩) rfl (fun M106 e106 => ?_)
                  subst e106
                  refine pw_if_eq_n (q := 112) 119 C dX11_readPart_109 (by decide) rfl (by omega) (fun g109 => ?_) (fun g109 => absurd g109 (fun q => q rfl))
                  refine pw_iconst_n (q := 120) C 0 dX11_readPart_119 (by decide +kernel) rfl ?_
                  exact pw_zret C dX11_readPart_120 rfl (by first | decide +kernel | exact nar_bN _ | exact nar_01 (by omega)) ⟨by omega, by omega⟩ (by
                      have hs : parS T n p R ft = (0, p, R, ft) := parS_no (by omega) (by omega) (by omega) (by omega)
                      rw [hs]
                      exact RV.mk (by rfl) (by first | rfl | rw [crsS_f]))
    · refine pw_aload_n (q := 38) (j := 0) C dX11_readPart_37 rfl rfl rfl ?_
      refine pw_bipush_n (q := 40) C 109 dX11_readPart_38 (by decide +kernel) rfl ?_
      by_cases he109 : T p = 109
      · refine pw_val (q := 43) (cr_v (j := iX11_eat) C dX11_readPart_40 lX11_87 mX11_eat (ro_mk (by decide) (by decide)) mh_o rfl (m_eat_y hn hT ⟨hpn, he109⟩) rfl rfl (Nat.le_of_ble_eq_true rfl) ⟨by omega, by omega⟩) rfl (fun M40 e40 => ?_)
        subst e40
        refine pw_if_eq_n (q := 46) 51 C dX11_readPart_43 (by decide) rfl (by omega) (fun g43 => absurd g43 (by decide)) (fun g43 => ?_)
        refine pw_aload_n (q := 47) (j := 0) C dX11_readPart_46 rfl rfl rfl ?_
        refine pw_val (q := 50) (cr_v (j := iX11_readMason) C dX11_readPart_47 lX11_94 mX11_readMason (ro_mk (by decide) (by decide)) mh_o rfl (m_readMason hn hT (by omega) b5 b6 b7 (by omega)) rfl rfl (Nat.le_of_ble_eq_true rfl) ⟨by omega, by omega⟩) rfl (fun M47 e47 => ?_)
        subst e47
        exact pw_zret C dX11_readPart_50 rfl (nar_01 (masS_1 ..)) ⟨by omega, by omega⟩ (by
            have hs : parS T n p R ft = masS T n p R ft := by rw [parS, if_neg (by omega), if_pos he109]
            rw [hs]
            exact RV.mk (by rfl) (by first | rfl | rw [masS_f]))
      · refine pw_val (q := 43) (cr_v (j := iX11_eat) C dX11_readPart_40 lX11_87 mX11_eat (ro_mk (by decide) (by decide)) mh_o rfl (m_eat_n hn hT (by omega) (by decide) (fun q => he109 q.2)) rfl rfl (Nat.le_of_ble_eq_true rfl) ⟨by omega, by omega⟩) rfl (fun M40 e40 => ?_)
        subst e40
        refine pw_if_eq_n (q := 46) 51 C dX11_readPart_43 (by decide) rfl (by omega) (fun g43 => ?_) (fun g43 => absurd g43 (fun q => q rfl))
        refine pw_aload_n (q := 52) (j := 0) C dX11_readPart_51 rfl rfl rfl ?_
        refine pw_getf (q := 55) C dX11_readPart_52 fX11_13 mh_o (by rfl) rfl ?_
        refine pw_bipush_n (q := 57) C 6 dX11_readPart_55 (by decide +kernel) rfl ?_
        refine pw_ipg (q := 58) C dX11_readPart_57 mh_R (by omega) (by omega) rfl ?_
        refine pw_if_le_n (q := 61) 96 C dX11_readPart_58 (by decide) rfl (by omega) (fun g58 => ?_) (fun g58 => ?_)
        · refine pw_aload_n (q := 97) (j := 0) C dX11_readPart_96 rfl rfl rfl ?_
          refine pw_getf (q := 100) C dX11_readPart_97 fX11_100 mh_o (by rfl) rfl ?_
          refine pw_if_ne_n (q := 103) 119 C dX11_readPart_100 (by decide) rfl (by omega) (fun g100 => ?_) (fun g100 => ?_)
          · refine pw_iconst_n (q := 120) C 0 dX11_readPart_119 (by decide +kernel) rfl ?_
            exact pw_zret C dX11_readPart_120 rfl (by first | decide +kernel | exact nar_bN _ | exact nar_01 (by omega)) ⟨by omega, by omega⟩ (by
                have hs : parS T n p R ft = (0, p, R, ft) := parS_no (by omega) (by omega) (by omega) (by omega)
                rw [hs]
                exact RV.mk (by rfl) (by first | rfl | rw [crsS_f]))
          · refine pw_aload_n (q := 104) (j := 0) C dX11_readPart_103 rfl rfl rfl ?_
            refine pw_bipush_n (q := 106) C 102 dX11_readPart_104 (by decide +kernel) rfl ?_
            by_cases he102 : T p = 102
            · refine pw_val (q := 109) (cr_v (j := iX11_eat) C dX11_readPart_106 lX11_87 mX11_eat (ro_mk (by decide) (by decide)) mh_o rfl (m_eat_y hn hT ⟨hpn, he102⟩) rfl rfl (Nat.le_of_ble_eq_true rfl) ⟨by omega, by omega⟩) rfl (fun M106 e106 => ?_)
              subst e106
              refine pw_if_eq_n (q := 112) 119 C dX11_readPart_109 (by decide) rfl (by omega) (fun g109 => absurd g109 (by decide)) (fun g109 => ?_)
              refine pw_aload_n (q := 113) (j := 0) C dX11_readPart_112 rfl rfl rfl ?_
              refine pw_iconst_n (q := 114) C 1 dX11_readPart_113 (by decide +kernel) rfl ?_
              refine pw_put (q := 117) C dX11_readPart_114 fX11_100 mh_o (nar_01 (a := 1) (by omega)) (fit_01 (a := 1) (by omega)) (Nat.le_of_ble_eq_true rfl) rfl ?_
              rw [mh_s_ft]
              refine pw_iconst_n (q := 118) C 1 dX11_readPart_117 (by decide +kernel) rfl ?_
              exact pw_zret C dX11_readPart_118 rfl (by first | decide +kernel | exact nar_bN _ | exact nar_01 (by omega)) ⟨by omega, by omega⟩ (by
                  have hs : parS T n p R ft = (1, p + 1, R, 1) := by rw [parS, if_neg (by omega), if_neg (by omega), if_neg (by omega), if_pos he102, froS, if_pos (by omega)]
                  rw [hs]
                  exact RV.mk (by rfl) (by first | rfl | rw [crsS_f]))
            · refine pw_val (q := 109) (cr_v (j := iX11_eat) C dX11_readPart_106 lX11_87 mX11_eat (ro_mk (by decide) (by decide)) mh_o rfl (m_eat_n hn hT (by omega) (by decide) (fun q => he102 q.2)) rfl rfl (Nat.le_of_ble_eq_true rfl) ⟨by omega, by omega⟩) rfl (fun M106 e106 => ?_)
              subst e106
              refine pw_if_eq_n (q := 112) 119 C dX11_readPart_109 (by decide) rfl (by omega) (fun g109 => ?_) (fun g109 => absurd g109 (fun q => q rfl))
              refine pw_iconst_n (q := 120) C 0 dX11_readPart_119 (by decide +kernel) rfl ?_
              exact pw_zret C dX11_readPart_120 rfl (by first | decide +kernel | exact nar_bN _ | exact nar_01 (by omega)) ⟨by omega, by omega⟩ (by
                  have hs : parS T n p R ft = (0, p, R, ft) := parS_no (by omega) (by omega) (by omega) (by omega)
                  rw [hs]
                  exact RV.mk (by rfl) (by first | rfl | rw [crsS_f]))
        · refine pw_aload_n (q := 62) (j := 0) C dX11_readPart_61 rfl rfl rfl ?_
          refine pw_getf (q := 65) C dX11_readPart_62 fX11_13 mh_o (by rfl) rfl ?_
          refine pw_iconst_n (q := 66) C 5 dX11_readPart_65 (by decide +kernel) rfl ?_
          refine pw_ipg (q := 67) C dX11_readPart_66 mh_R (by omega) (by omega) rfl ?_
          refine pw_if_le_n (q := 70) 96 C dX11_readPart_67 (by decide) rfl (by omega) (fun g67 => ?_) (fun g67 => ?_)
          · refine pw_aload_n (q := 97) (j := 0) C dX11_readPart_96 rfl rfl rfl ?_
            refine pw_getf (q := 100) C dX11_readPart_97 fX11_100 mh_o (by rfl) rfl ?_
            refine pw_if_ne_n (q := 103) 119 C dX11_readPart_100 (by decide) rfl (by omega) (fun g100 => ?_) (fun g100 => ?_)
            · refine pw_iconst_n (q := 120) C 0 dX11_readPart_119 (by decide +kernel) rfl ?_
              exact pw_zret C dX11_readPart_120 rfl (by first | decide +kernel | exact nar_bN _ | exact nar_01 (by omega)) ⟨by omega, by omega⟩ (by
                  have hs : parS T n p R ft = (0, p, R, ft) := parS_no (by omega) (by omega) (by omega) (by omega)
                  rw [hs]
                  exact RV.mk (by rfl) (by first | rfl | rw [crsS_f]))
            · refine pw_aload_n (q := 104) (j := 0) C dX11_readPart_103 rfl rfl rfl ?_
              refine pw_bipush_n (q := 106) C 102 dX11_readPart_104 (by decide +kernel) rfl ?_
              by_cases he102 : T p = 102
              · refine pw_val (q := 109) (cr_v (j := iX11_eat) C dX11_readPart_106 lX11_87 mX11_eat (ro_mk (by decide) (by decide)) mh_o rfl (m_eat_y hn hT ⟨hpn, he102⟩) rfl rfl (Nat.le_of_ble_eq_true rfl) ⟨by omega, by omega⟩) rfl (fun M106 e106 => ?_)
                subst e106
                refine pw_if_eq_n (q := 112) 119 C dX11_readPart_109 (by decide) rfl (by omega) (fun g109 => absurd g109 (by decide)) (fun g109 => ?_)
                refine pw_aload_n (q := 113) (j := 0) C dX11_readPart_112 rfl rfl rfl ?_
                refine pw_iconst_n (q := 114) C 1 dX11_readPart_113 (by decide +kernel) rfl ?_
                refine pw_put (q := 117) C dX11_readPart_114 fX11_100 mh_o (nar_01 (a := 1) (by omega)) (fit_01 (a := 1) (by omega)) (Nat.le_of_ble_eq_true rfl) rfl ?_
                rw [mh_s_ft]
                refine pw_iconst_n (q := 118) C 1 dX11_readPart_117 (by decide +kernel) rfl ?_
                exact pw_zret C dX11_readPart_118 rfl (by first | decide +kernel | exact nar_bN _ | exact nar_01 (by omega)) ⟨by omega, by omega⟩ (by
                    have hs : parS T n p R ft = (1, p + 1, R, 1) := by rw [parS, if_neg (by omega), if_neg (by omega), if_neg (by omega), if_pos he102, froS, if_pos (by omega)]
                    rw [hs]
                    exact RV.mk (by rfl) (by first | rfl | rw [crsS_f]))
              · refine pw_val (q := 109) (cr_v (j := iX11_eat) C dX11_readPart_106 lX11_87 mX11_eat (ro_mk (by decide) (by decide)) mh_o rfl (m_eat_n hn hT (by omega) (by decide) (fun q => he102 q.2)) rfl rfl (Nat.le_of_ble_eq_true rfl) ⟨by omega, by omega⟩) rfl (fun M106 e106 => ?_)
                subst e106
                refine pw_if_eq_n (q := 112) 119 C dX11_readPart_109 (by decide) rfl (by omega) (fun g109 => ?_) (fun g109 => absurd g109 (fun q => q rfl))
                refine pw_iconst_n (q := 120) C 0 dX11_readPart_119 (by decide +kernel) rfl ?_
                exact pw_zret C dX11_readPart_120 rfl (by first | decide +kernel | exact nar_bN _ | exact nar_01 (by omega)) ⟨by omega, by omega⟩ (by
                    have hs : parS T n p R ft = (0, p, R, ft) := parS_no (by omega) (by omega) (by omega) (by omega)
                    rw [hs]
                    exact RV.mk (by rfl) (by first | rfl | rw [crsS_f]))
          · refine pw_aload_n (q := 71) (j := 0) C dX11_readPart_70 rfl rfl rfl ?_
            refine pw_getf (q := 74) C dX11_readPart_71 fX11_13 mh_o (by rfl) rfl ?_
            refine pw_bipush_n (q := 76) C 7 dX11_readPart_74 (by decide +kernel) rfl ?_
            refine pw_ipg (q := 77) C dX11_readPart_76 mh_R (by omega) (by omega) rfl ?_
            refine pw_bipush_n (q := 79) C 24 dX11_readPart_77 (by decide +kernel) rfl ?_
            refine pw_icmp_ge_n (q := 82) 96 C dX11_readPart_79 (by decide) rfl (by omega) (by omega) (fun g79 => ?_) (fun g79 => ?_)
            · refine pw_aload_n (q := 97) (j := 0) C dX11_readPart_96 rfl rfl rfl ?_
              refine pw_getf (q := 100) C dX11_readPart_97 fX11_100 mh_o (by rfl) rfl ?_
              refine pw_if_ne_n (q := 103) 119 C dX11_readPart_100 (by decide) rfl (by omega) (fun g100 => ?_) (fun g100 => ?_)
              · refine pw_iconst_n (q := 120) C 0 dX11_readPart_119 (by decide +kernel) rfl ?_
                exact pw_zret C dX11_readPart_120 rfl (by first | decide +kernel | exact nar_bN _ | exact nar_01 (by omega)) ⟨by omega, by omega⟩ (by
                    have hs : parS T n p R ft = (0, p, R, ft) := parS_no (by omega) (by omega) (by omega) (by omega)
                    rw [hs]
                    exact RV.mk (by rfl) (by first | rfl | rw [crsS_f]))
              · refine pw_aload_n (q := 104) (j := 0) C dX11_readPart_103 rfl rfl rfl ?_
                refine pw_bipush_n (q := 106) C 102 dX11_readPart_104 (by decide +kernel) rfl ?_
                by_cases he102 : T p = 102
                · refine pw_val (q := 109) (cr_v (j := iX11_eat) C dX11_readPart_106 lX11_87 mX11_eat (ro_mk (by decide) (by decide)) mh_o rfl (m_eat_y hn hT ⟨hpn, he102⟩) rfl rfl (Nat.le_of_ble_eq_true rfl) ⟨by omega, by omega⟩) rfl (fun M106 e106 => ?_)
                  subst e106
                  refine pw_if_eq_n (q := 112) 119 C dX11_readPart_109 (by decide) rfl (by omega) (fun g109 => absurd g109 (by decide)) (fun g109 => ?_)
                  refine pw_aload_n (q := 113) (j := 0) C dX11_readPart_112 rfl rfl rfl ?_
                  refine pw_iconst_n (q := 114) C 1 dX11_readPart_113 (by decide +kernel) rfl ?_
                  refine pw_put (q := 117) C dX11_readPart_114 fX11_100 mh_o (nar_01 (a := 1) (by omega)) (fit_01 (a := 1) (by omega)) (Nat.le_of_ble_eq_true rfl) rfl ?_
                  rw [mh_s_ft]
                  refine pw_iconst_n (q := 118) C 1 dX11_readPart_117 (by decide +kernel) rfl ?_
                  exact pw_zret C dX11_readPart_118 rfl (by first | decide +kernel | exact nar_bN _ | exact nar_01 (by omega)) ⟨by omega, by omega⟩ (by
                      have hs : parS T n p R ft = (1, p + 1, R, 1) := by rw [parS, if_neg (by omega), if_neg (by omega), if_neg (by omega), if_pos he102, froS, if_pos (by omega)]
                      rw [hs]
                      exact RV.mk (by rfl) (by first | rfl | rw [crsS_f]))
                · refine pw_val (q := 109) (cr_v (j := iX11_eat) C dX11_readPart_106 lX11_87 mX11_eat (ro_mk (by decide) (by decide)) mh_o rfl (m_eat_n hn hT (by omega) (by decide) (fun q => he102 q.2)) rfl rfl (Nat.le_of_ble_eq_true rfl) ⟨by omega, by omega⟩) rfl (fun M106 e106 => ?_)
                  subst e106
                  refine pw_if_eq_n (q := 112) 119 C dX11_readPart_109 (by decide) rfl (by omega) (fun g109 => ?_) (fun g109 => absurd g109 (fun q => q rfl))
                  refine pw_iconst_n (q := 120) C 0 dX11_readPart_119 (by decide +kernel) rfl ?_
                  exact pw_zret C dX11_readPart_120 rfl (by first | decide +kernel | exact nar_bN _ | exact nar_01 (by omega)) ⟨by omega, by omega⟩ (by
                      have hs : parS T n p R ft = (0, p, R, ft) := parS_no (by omega) (by omega) (by omega) (by omega)
                      rw [hs]
                      exact RV.mk (by rfl) (by first | rfl | rw [crsS_f]))
            · refine pw_aload_n (q := 83) (j := 0) C dX11_readPart_82 rfl rfl rfl ?_
              refine pw_bipush_n (q := 85) C 115 dX11_readPart_83 (by decide +kernel) rfl ?_
              by_cases he115 : T p = 115
              · refine pw_val (q := 88) (cr_v (j := iX11_eat) C dX11_readPart_85 lX11_87 mX11_eat (ro_mk (by decide) (by decide)) mh_o rfl (m_eat_y hn hT ⟨hpn, he115⟩) rfl rfl (Nat.le_of_ble_eq_true rfl) ⟨by omega, by omega⟩) rfl (fun M85 e85 => ?_)
                subst e85
                refine pw_if_eq_n (q := 91) 96 C dX11_readPart_88 (by decide) rfl (by omega) (fun g88 => absurd g88 (by decide)) (fun g88 => ?_)
                refine pw_aload_n (q := 92) (j := 0) C dX11_readPart_91 rfl rfl rfl ?_
                refine pw_val (q := 95) (cr_v (j := iX11_readStone) C dX11_readPart_92 lX11_97 mX11_readStone (ro_mk (by decide) (by decide)) mh_o rfl (m_readStone hn hT (by omega) b5 b6 b7 ⟨by omega, by omega, by omega⟩) rfl rfl (Nat.le_of_ble_eq_true rfl) ⟨by omega, by omega⟩) rfl (fun M92 e92 => ?_)
                subst e92
                exact pw_zret C dX11_readPart_95 rfl (nar_01 (stoS_1 ..)) ⟨by omega, by omega⟩ (by
                    have hs : parS T n p R ft = stoS T n p R ft := by rw [parS, if_neg (by omega), if_neg (by omega), if_pos he115]
                    rw [hs]
                    exact RV.mk (by rfl) (by first | rfl | rw [stoS_f]))
              · refine pw_val (q := 88) (cr_v (j := iX11_eat) C dX11_readPart_85 lX11_87 mX11_eat (ro_mk (by decide) (by decide)) mh_o rfl (m_eat_n hn hT (by omega) (by decide) (fun q => he115 q.2)) rfl rfl (Nat.le_of_ble_eq_true rfl) ⟨by omega, by omega⟩) rfl (fun M85 e85 => ?_)
                subst e85
                refine pw_if_eq_n (q := 91) 96 C dX11_readPart_88 (by decide) rfl (by omega) (fun g88 => ?_) (fun g88 => absurd g88 (fun q => q rfl))
                refine pw_aload_n (q := 97) (j := 0) C dX11_readPart_96 rfl rfl rfl ?_
                refine pw_getf (q := 100) C dX11_readPart_97 fX11_100 mh_o (by rfl) rfl ?_
                refine pw_if_ne_n (q := 103) 119 C dX11_readPart_100 (by decide) rfl (by omega) (fun g100 => ?_) (fun g100 => ?_)
                · refine pw_iconst_n (q := 120) C 0 dX11_readPart_119 (by decide +kernel) rfl ?_
                  exact pw_zret C dX11_readPart_120 rfl (by first | decide +kernel | exact nar_bN _ | exact nar_01 (by omega)) ⟨by omega, by omega⟩ (by
                      have hs : parS T n p R ft = (0, p, R, ft) := parS_no (by omega) (by omega) (by omega) (by omega)
                      rw [hs]
                      exact RV.mk (by rfl) (by first | rfl | rw [crsS_f]))
                · refine pw_aload_n (q := 104) (j := 0) C dX11_readPart_103 rfl rfl rfl ?_
                  refine pw_bipush_n (q := 106) C 102 dX11_readPart_104 (by decide +kernel) rfl ?_
                  by_cases he102 : T p = 102
                  · refine pw_val (q := 109) (cr_v (j := iX11_eat) C dX11_readPart_106 lX11_87 mX11_eat (ro_mk (by decide) (by decide)) mh_o rfl (m_eat_y hn hT ⟨hpn, he102⟩) rfl rfl (Nat.le_of_ble_eq_true rfl) ⟨by omega, by omega⟩) rfl (fun M106 e106 => ?_)
                    subst e106
                    refine pw_if_eq_n (q := 112) 119 C dX11_readPart_109 (by decide) rfl (by omega) (fun g109 => absurd g109 (by decide)) (fun g109 => ?_)
                    refine pw_aload_n (q := 113) (j := 0) C dX11_readPart_112 rfl rfl rfl ?_
                    refine pw_iconst_n (q := 114) C 1 dX11_readPart_113 (by decide +kernel) rfl ?_
                    refine pw_put (q := 117) C dX11_readPart_114 fX11_100 mh_o (nar_01 (a := 1) (by omega)) (fit_01 (a := 1) (by omega)) (Nat.le_of_ble_eq_true rfl) rfl ?_
                    rw [mh_s_ft]
                    refine pw_iconst_n (q := 118) C 1 dX11_readPart_117 (by decide +kernel) rfl ?_
                    exact pw_zret C dX11_readPart_118 rfl (by first | decide +kernel | exact nar_bN _ | exact nar_01 (by omega)) ⟨by omega, by omega⟩ (by
                        have hs : parS T n p R ft = (1, p + 1, R, 1) := by rw [parS, if_neg (by omega), if_neg (by omega), if_neg (by omega), if_pos he102, froS, if_pos (by omega)]
                        rw [hs]
                        exact RV.mk (by rfl) (by first | rfl | rw [crsS_f]))
                  · refine pw_val (q := 109) (cr_v (j := iX11_eat) C dX11_readPart_106 lX11_87 mX11_eat (ro_mk (by decide) (by decide)) mh_o rfl (m_eat_n hn hT (by omega) (by decide) (fun q => he102 q.2)) rfl rfl (Nat.le_of_ble_eq_true rfl) ⟨by omega, by omega⟩) rfl (fun M106 e106 => ?_)
                    subst e106
                    refine pw_if_eq_n (q := 112) 119 C dX11_readPart_109 (by decide) rfl (by omega) (fun g109 => ?_) (fun g109 => absurd g109 (fun q => q rfl))
                    refine pw_iconst_n (q := 120) C 0 dX11_readPart_119 (by decide +kernel) rfl ?_
                    exact pw_zret C dX11_readPart_120 rfl (by first | decide +kernel | exact nar_bN _ | exact nar_01 (by omega)) ⟨by omega, by omega⟩ (by
                        have hs : parS T n p R ft = (0, p, R, ft) := parS_no (by omega) (by omega) (by omega) (by omega)
                        rw [hs]
                        exact RV.mk (by rfl) (by first | rfl | rw [crsS_f]))
  · refine pw_aload_n (q := 12) (j := 0) C dX11_readPart_11 rfl rfl rfl ?_
    refine pw_bipush_n (q := 14) C 99 dX11_readPart_12 (by decide +kernel) rfl ?_
    by_cases he99 : T p = 99
    · refine pw_val (q := 17) (cr_v (j := iX11_eat) C dX11_readPart_14 lX11_87 mX11_eat (ro_mk (by decide) (by decide)) mh_o rfl (m_eat_y hn hT ⟨hpn, he99⟩) rfl rfl (Nat.le_of_ble_eq_true rfl) ⟨by omega, by omega⟩) rfl (fun M14 e14 => ?_)
      subst e14
      refine pw_if_eq_n (q := 20) 25 C dX11_readPart_17 (by decide) rfl (by omega) (fun g17 => absurd g17 (by decide)) (fun g17 => ?_)
      refine pw_aload_n (q := 21) (j := 0) C dX11_readPart_20 rfl rfl rfl ?_
      refine pw_val (q := 24) (cr_v (j := iX11_readCourse) C dX11_readPart_21 lX11_90 mX11_readCourse (ro_mk (by decide) (by decide)) mh_o rfl (m_readCourse hn hT (by omega) b5 b6 b7 (by omega)) rfl rfl (Nat.le_of_ble_eq_true rfl) ⟨by omega, by omega⟩) rfl (fun M21 e21 => ?_)
      subst e21
      exact pw_zret C dX11_readPart_24 rfl (nar_01 (crsS_1 ..)) ⟨by omega, by omega⟩ (by
          have hs : parS T n p R ft = crsS T n p R ft := by rw [parS, if_pos he99]
          rw [hs]
          exact RV.mk (by rfl) (by first | rfl | rw [crsS_f]))
    · refine pw_val (q := 17) (cr_v (j := iX11_eat) C dX11_readPart_14 lX11_87 mX11_eat (ro_mk (by decide) (by decide)) mh_o rfl (m_eat_n hn hT (by omega) (by decide) (fun q => he99 q.2)) rfl rfl (Nat.le_of_ble_eq_true rfl) ⟨by omega, by omega⟩) rfl (fun M14 e14 => ?_)
      subst e14
      refine pw_if_eq_n (q := 20) 25 C dX11_readPart_17 (by decide) rfl (by omega) (fun g17 => ?_) (fun g17 => absurd g17 (fun q => q rfl))
      refine pw_aload_n (q := 26) (j := 0) C dX11_readPart_25 rfl rfl rfl ?_
      refine pw_getf (q := 29) C dX11_readPart_26 fX11_13 mh_o (by rfl) rfl ?_
      refine pw_bipush_n (q := 31) C 6 dX11_readPart_29 (by decide +kernel) rfl ?_
      refine pw_ipg (q := 32) C dX11_readPart_31 mh_R (by omega) (by omega) rfl ?_
      refine pw_bipush_n (q := 34) C 6 dX11_readPart_32 (by decide +kernel) rfl ?_
      refine pw_icmp_ge_n (q := 37) 51 C dX11_readPart_34 (by decide) rfl (by omega) (by omega) (fun g34 => ?_) (fun g34 => ?_)
      · refine pw_aload_n (q := 52) (j := 0) C dX11_readPart_51 rfl rfl rfl ?_
        refine pw_getf (q := 55) C dX11_readPart_52 fX11_13 mh_o (by rfl) rfl ?_
        refine pw_bipush_n (q := 57) C 6 dX11_readPart_55 (by decide +kernel) rfl ?_
        refine pw_ipg (q := 58) C dX11_readPart_57 mh_R (by omega) (by omega) rfl ?_
        refine pw_if_le_n (q := 61) 96 C dX11_readPart_58 (by decide) rfl (by omega) (fun g58 => ?_) (fun g58 => ?_)
        · refine pw_aload_n (q := 97) (j := 0) C dX11_readPart_96 rfl rfl rfl ?_
          refine pw_getf (q := 100) C dX11_readPart_97 fX11_100 mh_o (by rfl) rfl ?_
          refine pw_if_ne_n (q := 103) 119 C dX11_readPart_100 (by decide) rfl (by omega) (fun g100 => ?_) (fun g100 => ?_)
          · refine pw_iconst_n (q := 120) C 0 dX11_readPart_119 (by decide +kernel) rfl ?_
            exact pw_zret C dX11_readPart_120 rfl (by first | decide +kernel | exact nar_bN _ | exact nar_01 (by omega)) ⟨by omega, by omega⟩ (by
                have hs : parS T n p R ft = (0, p, R, ft) := parS_no (by omega) (by omega) (by omega) (by omega)
                rw [hs]
                exact RV.mk (by rfl) (by first | rfl | rw [crsS_f]))
          · refine pw_aload_n (q := 104) (j := 0) C dX11_readPart_103 rfl rfl rfl ?_
            refine pw_bipush_n (q := 106) C 102 dX11_readPart_104 (by decide +kernel) rfl ?_
            by_cases he102 : T p = 102
            · refine pw_val (q := 109) (cr_v (j := iX11_eat) C dX11_readPart_106 lX11_87 mX11_eat (ro_mk (by decide) (by decide)) mh_o rfl (m_eat_y hn hT ⟨hpn, he102⟩) rfl rfl (Nat.le_of_ble_eq_true rfl) ⟨by omega, by omega⟩) rfl (fun M106 e106 => ?_)
              subst e106
              refine pw_if_eq_n (q := 112) 119 C dX11_readPart_109 (by decide) rfl (by omega) (fun g109 => absurd g109 (by decide)) (fun g109 => ?_)
              refine pw_aload_n (q := 113) (j := 0) C dX11_readPart_112 rfl rfl rfl ?_
              refine pw_iconst_n (q := 114) C 1 dX11_readPart_113 (by decide +kernel) rfl ?_
              refine pw_put (q := 117) C dX11_readPart_114 fX11_100 mh_o (nar_01 (a := 1) (by omega)) (fit_01 (a := 1) (by omega)) (Nat.le_of_ble_eq_true rfl) rfl ?_
              rw [mh_s_ft]
              refine pw_iconst_n (q := 118) C 1 dX11_readPart_117 (by decide +kernel) rfl ?_
              exact pw_zret C dX11_readPart_118 rfl (by first | decide +kernel | exact nar_bN _ | exact nar_01 (by omega)) ⟨by omega, by omega⟩ (by
                  have hs : parS T n p R ft = (1, p + 1, R, 1) := by rw [parS, if_neg (by omega), if_neg (by omega), if_neg (by omega), if_pos he102, froS, if_pos (by omega)]
                  rw [hs]
                  exact RV.mk (by rfl) (by first | rfl | rw [crsS_f]))
            · refine pw_val (q := 109) (cr_v (j := iX11_eat) C dX11_readPart_106 lX11_87 mX11_eat (ro_mk (by decide) (by decide)) mh_o rfl (m_eat_n hn hT (by omega) (by decide) (fun q => he102 q.2)) rfl rfl (Nat.le_of_ble_eq_true rfl) ⟨by omega, by omega⟩) rfl (fun M106 e106 => ?_)
              subst e106
              refine pw_if_eq_n (q := 112) 119 C dX11_readPart_109 (by decide) rfl (by omega) (fun g109 => ?_) (fun g109 => absurd g109 (fun q => q rfl))
              refine pw_iconst_n (q := 120) C 0 dX11_readPart_119 (by decide +kernel) rfl ?_
              exact pw_zret C dX11_readPart_120 rfl (by first | decide +kernel | exact nar_bN _ | exact nar_01 (by omega)) ⟨by omega, by omega⟩ (by
                  have hs : parS T n p R ft = (0, p, R, ft) := parS_no (by omega) (by omega) (by omega) (by omega)
                  rw [hs]
                  exact RV.mk (by rfl) (by first | rfl | rw [crsS_f]))
        · refine pw_aload_n (q := 62) (j := 0) C dX11_readPart_61 rfl rfl rfl ?_
          refine pw_getf (q := 65) C dX11_readPart_62 fX11_13 mh_o (by rfl) rfl ?_
          refine pw_iconst_n (q := 66) C 5 dX11_readPart_65 (by decide +kernel) rfl ?_
          refine pw_ipg (q := 67) C dX11_readPart_66 mh_R (by omega) (by omega) rfl ?_
          refine pw_if_le_n (q := 70) 96 C dX11_readPart_67 (by decide) rfl (by omega) (fun g67 => ?_) (fun g67 => ?_)
          · refine pw_aload_n (q := 97) (j := 0) C dX11_readPart_96 rfl rfl rfl ?_
            refine pw_getf (q := 100) C dX11_readPart_97 fX11_100 mh_o (by rfl) rfl ?_
            refine pw_if_ne_n (q := 103) 119 C dX11_readPart_100 (by decide) rfl (by omega) (fun g100 => ?_) (fun g100 => ?_)
            · refine pw_iconst_n (q := 120) C 0 dX11_readPart_119 (by decide +kernel) rfl ?_
              exact pw_zret C dX11_readPart_120 rfl (by first | decide +kernel | exact nar_bN _ | exact nar_01 (by omega)) ⟨by omega, by omega⟩ (by
                  have hs : parS T n p R ft = (0, p, R, ft) := parS_no (by omega) (by omega) (by omega) (by omega)
                  rw [hs]
                  exact RV.mk (by rfl) (by first | rfl | rw [crsS_f]))
            · refine pw_aload_n (q := 104) (j := 0) C dX11_readPart_103 rfl rfl rfl ?_
              refine pw_bipush_n (q := 106) C 102 dX11_readPart_104 (by decide +kernel) rfl ?_
              by_cases he102 : T p = 102
              · refine pw_val (q := 109) (cr_v (j := iX11_eat) C dX11_readPart_106 lX11_87 mX11_eat (ro_mk (by decide) (by decide)) mh_o rfl (m_eat_y hn hT ⟨hpn, he102⟩) rfl rfl (Nat.le_of_ble_eq_true rfl) ⟨by omega, by omega⟩) rfl (fun M106 e106 => ?_)
                subst e106
                refine pw_if_eq_n (q := 112) 119 C dX11_readPart_109 (by decide) rfl (by omega) (fun g109 => absurd g109 (by decide)) (fun g109 => ?_)
                refine pw_aload_n (q := 113) (j := 0) C dX11_readPart_112 rfl rfl rfl ?_
                refine pw_iconst_n (q := 114) C 1 dX11_readPart_113 (by decide +kernel) rfl ?_
                refine pw_put (q := 117) C dX11_readPart_114 fX11_100 mh_o (nar_01 (a := 1) (by omega)) (fit_01 (a := 1) (by omega)) (Nat.le_of_ble_eq_true rfl) rfl ?_
                rw [mh_s_ft]
                refine pw_iconst_n (q := 118) C 1 dX11_readPart_117 (by decide +kernel) rfl ?_
                exact pw_zret C dX11_readPart_118 rfl (by first | decide +kernel | exact nar_bN _ | exact nar_01 (by omega)) ⟨by omega, by omega⟩ (by
                    have hs : parS T n p R ft = (1, p + 1, R, 1) := by rw [parS, if_neg (by omega), if_neg (by omega), if_neg (by omega), if_pos he102, froS, if_pos (by omega)]
                    rw [hs]
                    exact RV.mk (by rfl) (by first | rfl | rw [crsS_f]))
              · refine pw_val (q := 109) (cr_v (j := iX11_eat) C dX11_readPart_106 lX11_87 mX11_eat (ro_mk (by decide) (by decide)) mh_o rfl (m_eat_n hn hT (by omega) (by decide) (fun q => he102 q.2)) rfl rfl (Nat.le_of_ble_eq_true rfl) ⟨by omega, by omega⟩) rfl (fun M106 e106 => ?_)
                subst e106
                refine pw_if_eq_n (q := 112) 119 C dX11_readPart_109 (by decide) rfl (by omega) (fun g109 => ?_) (fun g109 => absurd g109 (fun q => q rfl))
                refine pw_iconst_n (q := 120) C 0 dX11_readPart_119 (by decide +kernel) rfl ?_
                exact pw_zret C dX11_readPart_120 rfl (by first | decide +kernel | exact nar_bN _ | exact nar_01 (by omega)) ⟨by omega, by omega⟩ (by
                    have hs : parS T n p R ft = (0, p, R, ft) := parS_no (by omega) (by omega) (by omega) (by omega)
                    rw [hs]
                    exact RV.mk (by rfl) (by first | rfl | rw [crsS_f]))
          · refine pw_aload_n (q := 71) (j := 0) C dX11_readPart_70 rfl rfl rfl ?_
            refine pw_getf (q := 74) C dX11_readPart_71 fX11_13 mh_o (by rfl) rfl ?_
            refine pw_bipush_n (q := 76) C 7 dX11_readPart_74 (by decide +kernel) rfl ?_
            refine pw_ipg (q := 77) C dX11_readPart_76 mh_R (by omega) (by omega) rfl ?_
            refine pw_bipush_n (q := 79) C 24 dX11_readPart_77 (by decide +kernel) rfl ?_
            refine pw_icmp_ge_n (q := 82) 96 C dX11_readPart_79 (by decide) rfl (by omega) (by omega) (fun g79 => ?_) (fun g79 => ?_)
            · refine pw_aload_n (q := 97) (j := 0) C dX11_readPart_96 rfl rfl rfl ?_
              refine pw_getf (q := 100) C dX11_readPart_97 fX11_100 mh_o (by rfl) rfl ?_
              refine pw_if_ne_n (q := 103) 119 C dX11_readPart_100 (by decide) rfl (by omega) (fun g100 => ?_) (fun g100 => ?_)
              · refine pw_iconst_n (q := 120) C 0 dX11_readPart_119 (by decide +kernel) rfl ?_
                exact pw_zret C dX11_readPart_120 rfl (by first | decide +kernel | exact nar_bN _ | exact nar_01 (by omega)) ⟨by omega, by omega⟩ (by
                    have hs : parS T n p R ft = (0, p, R, ft) := parS_no (by omega) (by omega) (by omega) (by omega)
                    rw [hs]
                    exact RV.mk (by rfl) (by first | rfl | rw [crsS_f]))
              · refine pw_aload_n (q := 104) (j := 0) C dX11_readPart_103 rfl rfl rfl ?_
                refine pw_bipush_n (q := 106) C 102 dX11_readPart_104 (by decide +kernel) rfl ?_
                by_cases he102 : T p = 102
                · refine pw_val (q := 109) (cr_v (j := iX11_eat) C dX11_readPart_106 lX11_87 mX11_eat (ro_mk (by decide) (by decide)) mh_o rfl (m_eat_y hn hT ⟨hpn, he102⟩) rfl rfl (Nat.le_of_ble_eq_true rfl) ⟨by omega, by omega⟩) rfl (fun M106 e106 => ?_)
                  subst e106
                  refine pw_if_eq_n (q := 112) 119 C dX11_readPart_109 (by decide) rfl (by omega) (fun g109 => absurd g109 (by decide)) (fun g109 => ?_)
                  refine pw_aload_n (q := 113) (j := 0) C dX11_readPart_112 rfl rfl rfl ?_
                  refine pw_iconst_n (q := 114) C 1 dX11_readPart_113 (by decide +kernel) rfl ?_
                  refine pw_put (q := 117) C dX11_readPart_114 fX11_100 mh_o (nar_01 (a := 1) (by omega)) (fit_01 (a := 1) (by omega)) (Nat.le_of_ble_eq_true rfl) rfl ?_
                  rw [mh_s_ft]
                  refine pw_iconst_n (q := 118) C 1 dX11_readPart_117 (by decide +kernel) rfl ?_
                  exact pw_zret C dX11_readPart_118 rfl (by first | decide +kernel | exact nar_bN _ | exact nar_01 (by omega)) ⟨by omega, by omega⟩ (by
                      have hs : parS T n p R ft = (1, p + 1, R, 1) := by rw [parS, if_neg (by omega), if_neg (by omega), if_neg (by omega), if_pos he102, froS, if_pos (by omega)]
                      rw [hs]
                      exact RV.mk (by rfl) (by first | rfl | rw [crsS_f]))
                · refine pw_val (q := 109) (cr_v (j := iX11_eat) C dX11_readPart_106 lX11_87 mX11_eat (ro_mk (by decide) (by decide)) mh_o rfl (m_eat_n hn hT (by omega) (by decide) (fun q => he102 q.2)) rfl rfl (Nat.le_of_ble_eq_true rfl) ⟨by omega, by omega⟩) rfl (fun M106 e106 => ?_)
                  subst e106
                  refine pw_if_eq_n (q := 112) 119 C dX11_readPart_109 (by decide) rfl (by omega) (fun g109 => ?_) (fun g109 => absurd g109 (fun q => q rfl))
                  refine pw_iconst_n (q := 120) C 0 dX11_readPart_119 (by decide +kernel) rfl ?_
                  exact pw_zret C dX11_readPart_120 rfl (by first | decide +kernel | exact nar_bN _ | exact nar_01 (by omega)) ⟨by omega, by omega⟩ (by
                      have hs : parS T n p R ft = (0, p, R, ft) := parS_no (by omega) (by omega) (by omega) (by omega)
                      rw [hs]
                      exact RV.mk (by rfl) (by first | rfl | rw [crsS_f]))
            · refine pw_aload_n (q := 83) (j := 0) C dX11_readPart_82 rfl rfl rfl ?_
              refine pw_bipush_n (q := 85) C 115 dX11_readPart_83 (by decide +kernel) rfl ?_
              by_cases he115 : T p = 115
              · refine pw_val (q := 88) (cr_v (j := iX11_eat) C dX11_readPart_85 lX11_87 mX11_eat (ro_mk (by decide) (by decide)) mh_o rfl (m_eat_y hn hT ⟨hpn, he115⟩) rfl rfl (Nat.le_of_ble_eq_true rfl) ⟨by omega, by omega⟩) rfl (fun M85 e85 => ?_)
                subst e85
                refine pw_if_eq_n (q := 91) 96 C dX11_readPart_88 (by decide) rfl (by omega) (fun g88 => absurd g88 (by decide)) (fun g88 => ?_)
                refine pw_aload_n (q := 92) (j := 0) C dX11_readPart_91 rfl rfl rfl ?_
                refine pw_val (q := 95) (cr_v (j := iX11_readStone) C dX11_readPart_92 lX11_97 mX11_readStone (ro_mk (by decide) (by decide)) mh_o rfl (m_readStone hn hT (by omega) b5 b6 b7 ⟨by omega, by omega, by omega⟩) rfl rfl (Nat.le_of_ble_eq_true rfl) ⟨by omega, by omega⟩) rfl (fun M92 e92 => ?_)
                subst e92
                exact pw_zret C dX11_readPart_95 rfl (nar_01 (stoS_1 ..)) ⟨by omega, by omega⟩ (by
                    have hs : parS T n p R ft = stoS T n p R ft := by rw [parS, if_neg (by omega), if_neg (by omega), if_pos he115]
                    rw [hs]
                    exact RV.mk (by rfl) (by first | rfl | rw [stoS_f]))
              · refine pw_val (q := 88) (cr_v (j := iX11_eat) C dX11_readPart_85 lX11_87 mX11_eat (ro_mk (by decide) (by decide)) mh_o rfl (m_eat_n hn hT (by omega) (by decide) (fun q => he115 q.2)) rfl rfl (Nat.le_of_ble_eq_true rfl) ⟨by omega, by omega⟩) rfl (fun M85 e85 => ?_)
                subst e85
                refine pw_if_eq_n (q := 91) 96 C dX11_readPart_88 (by decide) rfl (by omega) (fun g88 => ?_) (fun g88 => absurd g88 (fun q => q rfl))
                refine pw_aload_n (q := 97) (j := 0) C dX11_readPart_96 rfl rfl rfl ?_
                refine pw_getf (q := 100) C dX11_readPart_97 fX11_100 mh_o (by rfl) rfl ?_
                refine pw_if_ne_n (q := 103) 119 C dX11_readPart_100 (by decide) rfl (by omega) (fun g100 => ?_) (fun g100 => ?_)
                · refine pw_iconst_n (q := 120) C 0 dX11_readPart_119 (by decide +kernel) rfl ?_
                  exact pw_zret C dX11_readPart_120 rfl (by first | decide +kernel | exact nar_bN _ | exact nar_01 (by omega)) ⟨by omega, by omega⟩ (by
                      have hs : parS T n p R ft = (0, p, R, ft) := parS_no (by omega) (by omega) (by omega) (by omega)
                      rw [hs]
                      exact RV.mk (by rfl) (by first | rfl | rw [crsS_f]))
                · refine pw_aload_n (q := 104) (j := 0) C dX11_readPart_103 rfl rfl rfl ?_
                  refine pw_bipush_n (q := 106) C 102 dX11_readPart_104 (by decide +kernel) rfl ?_
                  by_cases he102 : T p = 102
                  · refine pw_val (q := 109) (cr_v (j := iX11_eat) C dX11_readPart_106 lX11_87 mX11_eat (ro_mk (by decide) (by decide)) mh_o rfl (m_eat_y hn hT ⟨hpn, he102⟩) rfl rfl (Nat.le_of_ble_eq_true rfl) ⟨by omega, by omega⟩) rfl (fun M106 e106 => ?_)
                    subst e106
                    refine pw_if_eq_n (q := 112) 119 C dX11_readPart_109 (by decide) rfl (by omega) (fun g109 => absurd g109 (by decide)) (fun g109 => ?_)
                    refine pw_aload_n (q := 113) (j := 0) C dX11_readPart_112 rfl rfl rfl ?_
                    refine pw_iconst_n (q := 114) C 1 dX11_readPart_113 (by decide +kernel) rfl ?_
                    refine pw_put (q := 117) C dX11_readPart_114 fX11_100 mh_o (nar_01 (a := 1) (by omega)) (fit_01 (a := 1) (by omega)) (Nat.le_of_ble_eq_true rfl) rfl ?_
                    rw [mh_s_ft]
                    refine pw_iconst_n (q := 118) C 1 dX11_readPart_117 (by decide +kernel) rfl ?_
                    exact pw_zret C dX11_readPart_118 rfl (by first | decide +kernel | exact nar_bN _ | exact nar_01 (by omega)) ⟨by omega, by omega⟩ (by
                        have hs : parS T n p R ft = (1, p + 1, R, 1) := by rw [parS, if_neg (by omega), if_neg (by omega), if_neg (by omega), if_pos he102, froS, if_pos (by omega)]
                        rw [hs]
                        exact RV.mk (by rfl) (by first | rfl | rw [crsS_f]))
                  · refine pw_val (q := 109) (cr_v (j := iX11_eat) C dX11_readPart_106 lX11_87 mX11_eat (ro_mk (by decide) (by decide)) mh_o rfl (m_eat_n hn hT (by omega) (by decide) (fun q => he102 q.2)) rfl rfl (Nat.le_of_ble_eq_true rfl) ⟨by omega, by omega⟩) rfl (fun M106 e106 => ?_)
                    subst e106
                    refine pw_if_eq_n (q := 112) 119 C dX11_readPart_109 (by decide) rfl (by omega) (fun g109 => ?_) (fun g109 => absurd g109 (fun q => q rfl))
                    refine pw_iconst_n (q := 120) C 0 dX11_readPart_119 (by decide +kernel) rfl ?_
                    exact pw_zret C dX11_readPart_120 rfl (by first | decide +kernel | exact nar_bN _ | exact nar_01 (by omega)) ⟨by omega, by omega⟩ (by
                        have hs : parS T n p R ft = (0, p, R, ft) := parS_no (by omega) (by omega) (by omega) (by omega)
                        rw [hs]
                        exact RV.mk (by rfl) (by first | rfl | rw [crsS_f]))
      · refine pw_aload_n (q := 38) (j := 0) C dX11_readPart_37 rfl rfl rfl ?_
        refine pw_bipush_n (q := 40) C 109 dX11_readPart_38 (by decide +kernel) rfl ?_
        by_cases he109 : T p = 109
        · refine pw_val (q := 43) (cr_v (j := iX11_eat) C dX11_readPart_40 lX11_87 mX11_eat (ro_mk (by decide) (by decide)) mh_o rfl (m_eat_y hn hT ⟨hpn, he109⟩) rfl rfl (Nat.le_of_ble_eq_true rfl) ⟨by omega, by omega⟩) rfl (fun M40 e40 => ?_)
          subst e40
          refine pw_if_eq_n (q := 46) 51 C dX11_readPart_43 (by decide) rfl (by omega) (fun g43 => absurd g43 (by decide)) (fun g43 => ?_)
          refine pw_aload_n (q := 47) (j := 0) C dX11_readPart_46 rfl rfl rfl ?_
          refine pw_val (q := 50) (cr_v (j := iX11_readMason) C dX11_readPart_47 lX11_94 mX11_readMason (ro_mk (by decide) (by decide)) mh_o rfl (m_readMason hn hT (by omega) b5 b6 b7 (by omega)) rfl rfl (Nat.le_of_ble_eq_true rfl) ⟨by omega, by omega⟩) rfl (fun M47 e47 => ?_)
          subst e47
          exact pw_zret C dX11_readPart_50 rfl (nar_01 (masS_1 ..)) ⟨by omega, by omega⟩ (by
              have hs : parS T n p R ft = masS T n p R ft := by rw [parS, if_neg (by omega), if_pos he109]
              rw [hs]
              exact RV.mk (by rfl) (by first | rfl | rw [masS_f]))
        · refine pw_val (q := 43) (cr_v (j := iX11_eat) C dX11_readPart_40 lX11_87 mX11_eat (ro_mk (by decide) (by decide)) mh_o rfl (m_eat_n hn hT (by omega) (by decide) (fun q => he109 q.2)) rfl rfl (Nat.le_of_ble_eq_true rfl) ⟨by omega, by omega⟩) rfl (fun M40 e40 => ?_)
          subst e40
          refine pw_if_eq_n (q := 46) 51 C dX11_readPart_43 (by decide) rfl (by omega) (fun g43 => ?_) (fun g43 => absurd g43 (fun q => q rfl))
          refine pw_aload_n (q := 52) (j := 0) C dX11_readPart_51 rfl rfl rfl ?_
          refine pw_getf (q := 55) C dX11_readPart_52 fX11_13 mh_o (by rfl) rfl ?_
          refine pw_bipush_n (q := 57) C 6 dX11_readPart_55 (by decide +kernel) rfl ?_
          refine pw_ipg (q := 58) C dX11_readPart_57 mh_R (by omega) (by omega) rfl ?_
          refine pw_if_le_n (q := 61) 96 C dX11_readPart_58 (by decide) rfl (by omega) (fun g58 => ?_) (fun g58 => ?_)
          · refine pw_aload_n (q := 97) (j := 0) C dX11_readPart_96 rfl rfl rfl ?_
            refine pw_getf (q := 100) C dX11_readPart_97 fX11_100 mh_o (by rfl) rfl ?_
            refine pw_if_ne_n (q := 103) 119 C dX11_readPart_100 (by decide) rfl (by omega) (fun g100 => ?_) (fun g100 => ?_)
            · refine pw_iconst_n (q := 120) C 0 dX11_readPart_119 (by decide +kernel) rfl ?_
              exact pw_zret C dX11_readPart_120 rfl (by first | decide +kernel | exact nar_bN _ | exact nar_01 (by omega)) ⟨by omega, by omega⟩ (by
                  have hs : parS T n p R ft = (0, p, R, ft) := parS_no (by omega) (by omega) (by omega) (by omega)
                  rw [hs]
                  exact RV.mk (by rfl) (by first | rfl | rw [crsS_f]))
            · refine pw_aload_n (q := 104) (j := 0) C dX11_readPart_103 rfl rfl rfl ?_
              refine pw_bipush_n (q := 106) C 102 dX11_readPart_104 (by decide +kernel) rfl ?_
              by_cases he102 : T p = 102
              · refine pw_val (q := 109) (cr_v (j := iX11_eat) C dX11_readPart_106 lX11_87 mX11_eat (ro_mk (by decide) (by decide)) mh_o rfl (m_eat_y hn hT ⟨hpn, he102⟩) rfl rfl (Nat.le_of_ble_eq_true rfl) ⟨by omega, by omega⟩) rfl (fun M106 e106 => ?_)
                subst e106
                refine pw_if_eq_n (q := 112) 119 C dX11_readPart_109 (by decide) rfl (by omega) (fun g109 => absurd g109 (by decide)) (fun g109 => ?_)
                refine pw_aload_n (q := 113) (j := 0) C dX11_readPart_112 rfl rfl rfl ?_
                refine pw_iconst_n (q := 114) C 1 dX11_readPart_113 (by decide +kernel) rfl ?_
                refine pw_put (q := 117) C dX11_readPart_114 fX11_100 mh_o (nar_01 (a := 1) (by omega)) (fit_01 (a := 1) (by omega)) (Nat.le_of_ble_eq_true rfl) rfl ?_
                rw [mh_s_ft]
                refine pw_iconst_n (q := 118) C 1 dX11_readPart_117 (by decide +kernel) rfl ?_
                exact pw_zret C dX11_readPart_118 rfl (by first | decide +kernel | exact nar_bN _ | exact nar_01 (by omega)) ⟨by omega, by omega⟩ (by
                    have hs : parS T n p R ft = (1, p + 1, R, 1) := by rw [parS, if_neg (by omega), if_neg (by omega), if_neg (by omega), if_pos he102, froS, if_pos (by omega)]
                    rw [hs]
                    exact RV.mk (by rfl) (by first | rfl | rw [crsS_f]))
              · refine pw_val (q := 109) (cr_v (j := iX11_eat) C dX11_readPart_106 lX11_87 mX11_eat (ro_mk (by decide) (by decide)) mh_o rfl (m_eat_n hn hT (by omega) (by decide) (fun q => he102 q.2)) rfl rfl (Nat.le_of_ble_eq_true rfl) ⟨by omega, by omega⟩) rfl (fun M106 e106 => ?_)
                subst e106
                refine pw_if_eq_n (q := 112) 119 C dX11_readPart_109 (by decide) rfl (by omega) (fun g109 => ?_) (fun g109 => absurd g109 (fun q => q rfl))
                refine pw_iconst_n (q := 120) C 0 dX11_readPart_119 (by decide +kernel) rfl ?_
                exact pw_zret C dX11_readPart_120 rfl (by first | decide +kernel | exact nar_bN _ | exact nar_01 (by omega)) ⟨by omega, by omega⟩ (by
                    have hs : parS T n p R ft = (0, p, R, ft) := parS_no (by omega) (by omega) (by omega) (by omega)
                    rw [hs]
                    exact RV.mk (by rfl) (by first | rfl | rw [crsS_f]))
          · refine pw_aload_n (q := 62) (j := 0) C dX11_readPart_61 rfl rfl rfl ?_
            refine pw_getf (q := 65) C dX11_readPart_62 fX11_13 mh_o (by rfl) rfl ?_
            refine pw_iconst_n (q := 66) C 5 dX11_readPart_65 (by decide +kernel) rfl ?_
            refine pw_ipg (q := 67) C dX11_readPart_66 mh_R (by omega) (by omega) rfl ?_
            refine pw_if_le_n (q := 70) 96 C dX11_readPart_67 (by decide) rfl (by omega) (fun g67 => ?_) (fun g67 => ?_)
            · refine pw_aload_n (q := 97) (j := 0) C dX11_readPart_96 rfl rfl rfl ?_
              refine pw_getf (q := 100) C dX11_readPart_97 fX11_100 mh_o (by rfl) rfl ?_
              refine pw_if_ne_n (q := 103) 119 C dX11_readPart_100 (by decide) rfl (by omega) (fun g100 => ?_) (fun g100 => ?_)
              · refine pw_iconst_n (q := 120) C 0 dX11_readPart_119 (by decide +kernel) rfl ?_
                exact pw_zret C dX11_readPart_120 rfl (by first | decide +kernel | exact nar_bN _ | exact nar_01 (by omega)) ⟨by omega, by omega⟩ (by
                    have hs : parS T n p R ft = (0, p, R, ft) := parS_no (by omega) (by omega) (by omega) (by omega)
                    rw [hs]
                    exact RV.mk (by rfl) (by first | rfl | rw [crsS_f]))
              · refine pw_aload_n (q := 104) (j := 0) C dX11_readPart_103 rfl rfl rfl ?_
                refine pw_bipush_n (q := 106) C 102 dX11_readPart_104 (by decide +kernel) rfl ?_
                by_cases he102 : T p = 102
                · refine pw_val (q := 109) (cr_v (j := iX11_eat) C dX11_readPart_106 lX11_87 mX11_eat (ro_mk (by decide) (by decide)) mh_o rfl (m_eat_y hn hT ⟨hpn, he102⟩) rfl rfl (Nat.le_of_ble_eq_true rfl) ⟨by omega, by omega⟩) rfl (fun M106 e106 => ?_)
                  subst e106
                  refine pw_if_eq_n (q := 112) 119 C dX11_readPart_109 (by decide) rfl (by omega) (fun g109 => absurd g109 (by decide)) (fun g109 => ?_)
                  refine pw_aload_n (q := 113) (j := 0) C dX11_readPart_112 rfl rfl rfl ?_
                  refine pw_iconst_n (q := 114) C 1 dX11_readPart_113 (by decide +kernel) rfl ?_
                  refine pw_put (q := 117) C dX11_readPart_114 fX11_100 mh_o (nar_01 (a := 1) (by omega)) (fit_01 (a := 1) (by omega)) (Nat.le_of_ble_eq_true rfl) rfl ?_
                  rw [mh_s_ft]
                  refine pw_iconst_n (q := 118) C 1 dX11_readPart_117 (by decide +kernel) rfl ?_
                  exact pw_zret C dX11_readPart_118 rfl (by first | decide +kernel | exact nar_bN _ | exact nar_01 (by omega)) ⟨by omega, by omega⟩ (by
                      have hs : parS T n p R ft = (1, p + 1, R, 1) := by rw [parS, if_neg (by omega), if_neg (by omega), if_neg (by omega), if_pos he102, froS, if_pos (by omega)]
                      rw [hs]
                      exact RV.mk (by rfl) (by first | rfl | rw [crsS_f]))
                · refine pw_val (q := 109) (cr_v (j := iX11_eat) C dX11_readPart_106 lX11_87 mX11_eat (ro_mk (by decide) (by decide)) mh_o rfl (m_eat_n hn hT (by omega) (by decide) (fun q => he102 q.2)) rfl rfl (Nat.le_of_ble_eq_true rfl) ⟨by omega, by omega⟩) rfl (fun M106 e106 => ?_)
                  subst e106
                  refine pw_if_eq_n (q := 112) 119 C dX11_readPart_109 (by decide) rfl (by omega) (fun g109 => ?_) (fun g109 => absurd g109 (fun q => q rfl))
                  refine pw_iconst_n (q := 120) C 0 dX11_readPart_119 (by decide +kernel) rfl ?_
                  exact pw_zret C dX11_readPart_120 rfl (by first | decide +kernel | exact nar_bN _ | exact nar_01 (by omega)) ⟨by omega, by omega⟩ (by
                      have hs : parS T n p R ft = (0, p, R, ft) := parS_no (by omega) (by omega) (by omega) (by omega)
                      rw [hs]
                      exact RV.mk (by rfl) (by first | rfl | rw [crsS_f]))
            · refine pw_aload_n (q := 71) (j := 0) C dX11_readPart_70 rfl rfl rfl ?_
              refine pw_getf (q := 74) C dX11_readPart_71 fX11_13 mh_o (by rfl) rfl ?_
              refine pw_bipush_n (q := 76) C 7 dX11_readPart_74 (by decide +kernel) rfl ?_
              refine pw_ipg (q := 77) C dX11_readPart_76 mh_R (by omega) (by omega) rfl ?_
              refine pw_bipush_n (q := 79) C 24 dX11_readPart_77 (by decide +kernel) rfl ?_
              refine pw_icmp_ge_n (q := 82) 96 C dX11_readPart_79 (by decide) rfl (by omega) (by omega) (fun g79 => ?_) (fun g79 => ?_)
              · refine pw_aload_n (q := 97) (j := 0) C dX11_readPart_96 rfl rfl rfl ?_
                refine pw_getf (q := 100) C dX11_readPart_97 fX11_100 mh_o (by rfl) rfl ?_
                refine pw_if_ne_n (q := 103) 119 C dX11_readPart_100 (by decide) rfl (by omega) (fun g100 => ?_) (fun g100 => ?_)
                · refine pw_iconst_n (q := 120) C 0 dX11_readPart_119 (by decide +kernel) rfl ?_
                  exact pw_zret C dX11_readPart_120 rfl (by first | decide +kernel | exact nar_bN _ | exact nar_01 (by omega)) ⟨by omega, by omega⟩ (by
                      have hs : parS T n p R ft = (0, p, R, ft) := parS_no (by omega) (by omega) (by omega) (by omega)
                      rw [hs]
                      exact RV.mk (by rfl) (by first | rfl | rw [crsS_f]))
                · refine pw_aload_n (q := 104) (j := 0) C dX11_readPart_103 rfl rfl rfl ?_
                  refine pw_bipush_n (q := 106) C 102 dX11_readPart_104 (by decide +kernel) rfl ?_
                  by_cases he102 : T p = 102
                  · refine pw_val (q := 109) (cr_v (j := iX11_eat) C dX11_readPart_106 lX11_87 mX11_eat (ro_mk (by decide) (by decide)) mh_o rfl (m_eat_y hn hT ⟨hpn, he102⟩) rfl rfl (Nat.le_of_ble_eq_true rfl) ⟨by omega, by omega⟩) rfl (fun M106 e106 => ?_)
                    subst e106
                    refine pw_if_eq_n (q := 112) 119 C dX11_readPart_109 (by decide) rfl (by omega) (fun g109 => absurd g109 (by decide)) (fun g109 => ?_)
                    refine pw_aload_n (q := 113) (j := 0) C dX11_readPart_112 rfl rfl rfl ?_
                    refine pw_iconst_n (q := 114) C 1 dX11_readPart_113 (by decide +kernel) rfl ?_
                    refine pw_put (q := 117) C dX11_readPart_114 fX11_100 mh_o (nar_01 (a := 1) (by omega)) (fit_01 (a := 1) (by omega)) (Nat.le_of_ble_eq_true rfl) rfl ?_
                    rw [mh_s_ft]
                    refine pw_iconst_n (q := 118) C 1 dX11_readPart_117 (by decide +kernel) rfl ?_
                    exact pw_zret C dX11_readPart_118 rfl (by first | decide +kernel | exact nar_bN _ | exact nar_01 (by omega)) ⟨by omega, by omega⟩ (by
                        have hs : parS T n p R ft = (1, p + 1, R, 1) := by rw [parS, if_neg (by omega), if_neg (by omega), if_neg (by omega), if_pos he102, froS, if_pos (by omega)]
                        rw [hs]
                        exact RV.mk (by rfl) (by first | rfl | rw [crsS_f]))
                  · refine pw_val (q := 109) (cr_v (j := iX11_eat) C dX11_readPart_106 lX11_87 mX11_eat (ro_mk (by decide) (by decide)) mh_o rfl (m_eat_n hn hT (by omega) (by decide) (fun q => he102 q.2)) rfl rfl (Nat.le_of_ble_eq_true rfl) ⟨by omega, by omega⟩) rfl (fun M106 e106 => ?_)
                    subst e106
                    refine pw_if_eq_n (q := 112) 119 C dX11_readPart_109 (by decide) rfl (by omega) (fun g109 => ?_) (fun g109 => absurd g109 (fun q => q rfl))
                    refine pw_iconst_n (q := 120) C 0 dX11_readPart_119 (by decide +kernel) rfl ?_
                    exact pw_zret C dX11_readPart_120 rfl (by first | decide +kernel | exact nar_bN _ | exact nar_01 (by omega)) ⟨by omega, by omega⟩ (by
                        have hs : parS T n p R ft = (0, p, R, ft) := parS_no (by omega) (by omega) (by omega) (by omega)
                        rw [hs]
                        exact RV.mk (by rfl) (by first | rfl | rw [crsS_f]))
              · refine pw_aload_n (q := 83) (j := 0) C dX11_readPart_82 rfl rfl rfl ?_
                refine pw_bipush_n (q := 85) C 115 dX11_readPart_83 (by decide +kernel) rfl ?_
                by_cases he115 : T p = 115
                · refine pw_val (q := 88) (cr_v (j := iX11_eat) C dX11_readPart_85 lX11_87 mX11_eat (ro_mk (by decide) (by decide)) mh_o rfl (m_eat_y hn hT ⟨hpn, he115⟩) rfl rfl (Nat.le_of_ble_eq_true rfl) ⟨by omega, by omega⟩) rfl (fun M85 e85 => ?_)
                  subst e85
                  refine pw_if_eq_n (q := 91) 96 C dX11_readPart_88 (by decide) rfl (by omega) (fun g88 => absurd g88 (by decide)) (fun g88 => ?_)
                  refine pw_aload_n (q := 92) (j := 0) C dX11_readPart_91 rfl rfl rfl ?_
                  refine pw_val (q := 95) (cr_v (j := iX11_readStone) C dX11_readPart_92 lX11_97 mX11_readStone (ro_mk (by decide) (by decide)) mh_o rfl (m_readStone hn hT (by omega) b5 b6 b7 ⟨by omega, by omega, by omega⟩) rfl rfl (Nat.le_of_ble_eq_true rfl) ⟨by omega, by omega⟩) rfl (fun M92 e92 => ?_)
                  subst e92
                  exact pw_zret C dX11_readPart_95 rfl (nar_01 (stoS_1 ..)) ⟨by omega, by omega⟩ (by
                      have hs : parS T n p R ft = stoS T n p R ft := by rw [parS, if_neg (by omega), if_neg (by omega), if_pos he115]
                      rw [hs]
                      exact RV.mk (by rfl) (by first | rfl | rw [stoS_f]))
                · refine pw_val (q := 88) (cr_v (j := iX11_eat) C dX11_readPart_85 lX11_87 mX11_eat (ro_mk (by decide) (by decide)) mh_o rfl (m_eat_n hn hT (by omega) (by decide) (fun q => he115 q.2)) rfl rfl (Nat.le_of_ble_eq_true rfl) ⟨by omega, by omega⟩) rfl (fun M85 e85 => ?_)
                  subst e85
                  refine pw_if_eq_n (q := 91) 96 C dX11_readPart_88 (by decide) rfl (by omega) (fun g88 => ?_) (fun g88 => absurd g88 (fun q => q rfl))
                  refine pw_aload_n (q := 97) (j := 0) C dX11_readPart_96 rfl rfl rfl ?_
                  refine pw_getf (q := 100) C dX11_readPart_97 fX11_100 mh_o (by rfl) rfl ?_
                  refine pw_if_ne_n (q := 103) 119 C dX11_readPart_100 (by decide) rfl (by omega) (fun g100 => ?_) (fun g100 => ?_)
                  · refine pw_iconst_n (q := 120) C 0 dX11_readPart_119 (by decide +kernel) rfl ?_
                    exact pw_zret C dX11_readPart_120 rfl (by first | decide +kernel | exact nar_bN _ | exact nar_01 (by omega)) ⟨by omega, by omega⟩ (by
                        have hs : parS T n p R ft = (0, p, R, ft) := parS_no (by omega) (by omega) (by omega) (by omega)
                        rw [hs]
                        exact RV.mk (by rfl) (by first | rfl | rw [crsS_f]))
                  · refine pw_aload_n (q := 104) (j := 0) C dX11_readPart_103 rfl rfl rfl ?_
                    refine pw_bipush_n (q := 106) C 102 dX11_readPart_104 (by decide +kernel) rfl ?_
                    by_cases he102 : T p = 102
                    · refine pw_val (q := 109) (cr_v (j := iX11_eat) C dX11_readPart_106 lX11_87 mX11_eat (ro_mk (by decide) (by decide)) mh_o rfl (m_eat_y hn hT ⟨hpn, he102⟩) rfl rfl (Nat.le_of_ble_eq_true rfl) ⟨by omega, by omega⟩) rfl (fun M106 e106 => ?_)
                      subst e106
                      refine pw_if_eq_n (q := 112) 119 C dX11_readPart_109 (by decide) rfl (by omega) (fun g109 => absurd g109 (by decide)) (fun g109 => ?_)
                      refine pw_aload_n (q := 113) (j := 0) C dX11_readPart_112 rfl rfl rfl ?_
                      refine pw_iconst_n (q := 114) C 1 dX11_readPart_113 (by decide +kernel) rfl ?_
                      refine pw_put (q := 117) C dX11_readPart_114 fX11_100 mh_o (nar_01 (a := 1) (by omega)) (fit_01 (a := 1) (by omega)) (Nat.le_of_ble_eq_true rfl) rfl ?_
                      rw [mh_s_ft]
                      refine pw_iconst_n (q := 118) C 1 dX11_readPart_117 (by decide +kernel) rfl ?_
                      exact pw_zret C dX11_readPart_118 rfl (by first | decide +kernel | exact nar_bN _ | exact nar_01 (by omega)) ⟨by omega, by omega⟩ (by
                          have hs : parS T n p R ft = (1, p + 1, R, 1) := by rw [parS, if_neg (by omega), if_neg (by omega), if_neg (by omega), if_pos he102, froS, if_pos (by omega)]
                          rw [hs]
                          exact RV.mk (by rfl) (by first | rfl | rw [crsS_f]))
                    · refine pw_val (q := 109) (cr_v (j := iX11_eat) C dX11_readPart_106 lX11_87 mX11_eat (ro_mk (by decide) (by decide)) mh_o rfl (m_eat_n hn hT (by omega) (by decide) (fun q => he102 q.2)) rfl rfl (Nat.le_of_ble_eq_true rfl) ⟨by omega, by omega⟩) rfl (fun M106 e106 => ?_)
                      subst e106
                      refine pw_if_eq_n (q := 112) 119 C dX11_readPart_109 (by decide) rfl (by omega) (fun g109 => ?_) (fun g109 => absurd g109 (fun q => q rfl))
                      refine pw_iconst_n (q := 120) C 0 dX11_readPart_119 (by decide +kernel) rfl ?_
                      exact pw_zret C dX11_readPart_120 rfl (by first | decide +kernel | exact nar_bN _ | exact nar_01 (by omega)) ⟨by omega, by omega⟩ (by
                          have hs : parS T n p R ft = (0, p, R, ft) := parS_no (by omega) (by omega) (by omega) (by omega)
                          rw [hs]
                          exact RV.mk (by rfl) (by first | rfl | rw [crsS_f]))
def zer (R : Nat → Nat) (i : Nat) : Nat → Nat := fun k => if k < i then 0 else R k
theorem zer_0 (R : Nat → Nat) : zer R 0 = R := funext fun k => if_neg (Nat.not_lt_zero k)
theorem zer_succ (R : Nat → Nat) (i : Nat) : updN (zer R i) i 0 = zer R (i + 1) := by
  funext k
  unfold updN zer
  by_cases h : k = i
  · subst h; simp
  · by_cases h2 : k < i
    · simp [h, h2, Nat.lt_succ_of_lt h2]
    · rw [if_neg h, if_neg h2, if_neg (by omega)]
theorem upd_p0 (b : Nat) : updN (page0 0) 0 b = page0 b := by
  funext k
  unfold updN page0
  by_cases h : k = 0
  · rw [if_pos h, if_pos h]
  · rw [if_neg h, if_neg h, if_neg h]
theorem inv_b {R : Nat → Nat} {fr : Nat} (h : Inv (clP R fr)) : R 5 ≤ 6 ∧ R 6 ≤ 6 ∧ R 7 ≤ 24 := ⟨h.b.2.2.1, h.b.2.2.2.1, h.b.2.2.2.2.1⟩
theorem parS_1p {T : Nat → Nat} {n p : Nat} {R : Nat → Nat} {fr : Nat} (h : (parS T n p R fr).1 = 1) : p + 1 ≤ (parS T n p R fr).2.1 := by
  revert h
  unfold parS crsS masS stoS froS
  repeat' split
  all_goals (intro h; dsimp only at h ⊢; omega)
theorem parS_le {T : Nat → Nat} {n p : Nat} {R : Nat → Nat} {fr : Nat} (hp : p < n) : (parS T n p R fr).2.1 ≤ n := by
  unfold parS crsS masS stoS froS
  repeat' split
  all_goals (dsimp only; omega)
set_option maxHeartbeats 200000 in
set_option maxRecDepth 100000 in
theorem m_readAll {M : PH} {m rf n sp ft ac : Nat} {T R P Q D K B L : Nat → Nat} (hn : n ≤ 80) (hT : ∀ k, k < n → T k ≤ 255) : Run iX11_readAll [.ref m] (mh M m rf n sp ft ac T R P Q D K B L) 0 0 (RV (.int (nI (allS T n).1)) (fun M1 => ∃ R9, ((allS T n).1 = 1 → R9 = (allS T n).2.2.1) ∧ M1 = mh M m rf n ((allS T n).2.1) ((allS T n).2.2.2) ac T R9 P Q D K B L)) := by
  refine Run.of (l0 := [some (.ref m), none]) (by decide +kernel) (Nat.le_of_ble_eq_true rfl) (by rfl) (fun Γ G C => ?_)
  have loop : ∀ (d p : Nat), n ≤ p + d → ∀ (R : Nat → Nat) (ft : Nat) (x1 : Option Value), p ≤ n → Inv (clP R ft) → ft ≤ 1 → readS T n d p R ft = allS T n → PW Γ G (ZJ Γ G 0 0 (RV (.int (nI (allS T n).1)) (fun M1 => ∃ R9, ((allS T n).1 = 1 → R9 = (allS T n).2.2.1) ∧ M1 = mh M m rf n ((allS T n).2.1) ((allS T n).2.2.2) ac T R9 P Q D K B L))) 69 [some (.ref m), x1] [] (mh M m rf n p ft ac T R P Q D K B L) 0 0 := by
    intro d
    induction d with
    | zero =>
      intro p hd
      intro R ft x1 hp hI hft hall
      obtain ⟨b5, b6, b7⟩ := inv_b hI
      refine pw_aload_n (q := 70) (j := 0) C dX11_readAll_69 rfl rfl rfl ?_
      refine pw_getf (q := 73) C dX11_readAll_70 fX11_80 mh_o (by rfl) rfl ?_
      refine pw_aload_n (q := 74) (j := 0) C dX11_readAll_73 rfl rfl rfl ?_
      refine pw_getf (q := 77) C dX11_readAll_74 fX11_73 mh_o (by rfl) rfl ?_
      refine pw_icmp_ge_n (q := 80) 89 C dX11_readAll_77 (by decide) rfl (by omega) (by omega) (fun g77 => ?_) (fun g77 => absurd g77 (by omega))
      refine pw_iconst_n (q := 90) C 1 dX11_readAll_89 (by decide +kernel) rfl ?_
      exact pw_zret C dX11_readAll_90 rfl (by first | decide +kernel | exact nar_bN _ | exact nar_01 (by omega)) ⟨by omega, by omega⟩ (by
          have hs : allS T n = (1, p, R, ft) := by rw [← hall, readS]
          rw [hs]
          exact RV.mk (by rfl) ⟨_, fun q => by first | rfl | exact absurd q (by decide), rfl⟩)
    | succ d ih =>
      intro p hd
      intro R ft x1 hp hI hft hall
      obtain ⟨b5, b6, b7⟩ := inv_b hI
      refine pw_aload_n (q := 70) (j := 0) C dX11_readAll_69 rfl rfl rfl ?_
      refine pw_getf (q := 73) C dX11_readAll_70 fX11_80 mh_o (by rfl) rfl ?_
      refine pw_aload_n (q := 74) (j := 0) C dX11_readAll_73 rfl rfl rfl ?_
      refine pw_getf (q := 77) C dX11_readAll_74 fX11_73 mh_o (by rfl) rfl ?_
      refine pw_icmp_ge_n (q := 80) 89 C dX11_readAll_77 (by decide) rfl (by omega) (by omega) (fun g77 => ?_) (fun g77 => ?_)
      · refine pw_iconst_n (q := 90) C 1 dX11_readAll_89 (by decide +kernel) rfl ?_
        exact pw_zret C dX11_readAll_90 rfl (by first | decide +kernel | exact nar_bN _ | exact nar_01 (by omega)) ⟨by omega, by omega⟩ (by
            have hs : allS T n = (1, p, R, ft) := by rw [← hall, readS, if_neg (by omega)]
            rw [hs]
            exact RV.mk (by rfl) ⟨_, fun q => by first | rfl | exact absurd q (by decide), rfl⟩)
      · refine pw_aload_n (q := 81) (j := 0) C dX11_readAll_80 rfl rfl rfl ?_
        refine pw_val (q := 84) (cr_v (j := iX11_readPart) C dX11_readAll_81 lX11_104 mX11_readPart (ro_mk (by decide) (by decide)) mh_o rfl (m_readPart hn hT (by omega) b5 b6 b7 (by omega) hft) rfl rfl (Nat.le_of_ble_eq_true rfl) ⟨by omega, by omega⟩) rfl (fun M81 e81 => ?_)
        subst e81
        have hq1 := parS_1 T n p R ft
        refine pw_if_ne_n (q := 87) 69 C dX11_readAll_84 (by decide) rfl (by omega) (fun g84 => ?_) (fun g84 => ?_)
        · have h1 : (parS T n p R ft).1 = 1 := by omega
          have hq2 := parS_1p h1
          have hq3 := parS_le (T := T) (R := R) (fr := ft) (show p < n by omega)
          exact ih _ (by omega) _ _ _ hq3 (parS_inv hI hft).1 (parS_inv hI hft).2 (by rw [← hall, readS, if_pos (show p < n by omega), if_pos h1])
        · refine pw_iconst_n (q := 88) C 0 dX11_readAll_87 (by decide +kernel) rfl ?_
          exact pw_zret C dX11_readAll_88 rfl (by first | decide +kernel | exact nar_bN _ | exact nar_01 (by omega)) ⟨by omega, by omega⟩ (by
              have hs : allS T n = parS T n p R ft := by rw [← hall, readS, if_pos (show p < n by omega), if_neg (by omega)]
              rw [hs]
              exact RV.mk (vnI (by omega)) ⟨_, fun q => by first | rfl | exact absurd q (by omega), rfl⟩)
  have tail : ∀ x1 : Option Value, PW Γ G (ZJ Γ G 0 0 (RV (.int (nI (allS T n).1)) (fun M1 => ∃ R9, ((allS T n).1 = 1 → R9 = (allS T n).2.2.1) ∧ M1 = mh M m rf n ((allS T n).2.1) ((allS T n).2.2.2) ac T R9 P Q D K B L))) 32 [some (.ref m), x1] [] (mh M m rf n 0 0 ac T ((page0 0)) P Q D K B L) 0 0 := by
    intro x1
    refine pw_aload_n (q := 33) (j := 0) C dX11_readAll_32 rfl rfl rfl ?_
    refine pw_bipush_n (q := 35) C 76 dX11_readAll_33 (by decide +kernel) rfl ?_
    by_cases h1 : 0 < n ∧ T 0 = 76
    · refine pw_val (q := 38) (cr_v (j := iX11_eat) C dX11_readAll_35 lX11_87 mX11_eat (ro_mk (by decide) (by decide)) mh_o rfl (m_eat_y hn hT h1) rfl rfl (Nat.le_of_ble_eq_true rfl) ⟨by omega, by omega⟩) rfl (fun M35 e35 => ?_)
      subst e35
      refine pw_if_ne_n (q := 41) 43 C dX11_readAll_38 (by decide) rfl (by omega) (fun g38 => ?_) (fun g38 => absurd g38 (by decide))
      refine pw_aload_n (q := 44) (j := 0) C dX11_readAll_43 rfl rfl rfl ?_
      refine pw_getf (q := 47) C dX11_readAll_44 fX11_13 mh_o (by rfl) rfl ?_
      refine pw_iconst_n (q := 48) C 0 dX11_readAll_47 (by decide +kernel) rfl ?_
      refine pw_aload_n (q := 49) (j := 0) C dX11_readAll_48 rfl rfl rfl ?_
      refine pw_iconst_n (q := 50) C 0 dX11_readAll_49 (by decide +kernel) rfl ?_
      refine pw_bipush_n (q := 52) C 9 dX11_readAll_50 (by decide +kernel) rfl ?_
      by_cases hD : Dg T n 1 0 9
      · refine pw_val (q := 55) (cr_v (j := iX11_digit) C dX11_readAll_52 lX11_83 mX11_digit (ro_mk (by decide) (by decide)) mh_o rfl (m_dig_y hn hT (by omega) (by omega) hD) rfl rfl (Nat.le_of_ble_eq_true rfl) ⟨by omega, by omega⟩) rfl (fun M52 e52 => ?_)
        subst e52
        rw [show 0 + 1 = 1 from rfl]
        refine pw_ipgst (q := 56) C dX11_readAll_55 mh_R (by omega) (by omega) rfl ?_
        rw [mh_s_R]
        rw [upd_p0]
        refine pw_aload_n (q := 57) (j := 0) C dX11_readAll_56 rfl rfl rfl ?_
        refine pw_getf (q := 60) C dX11_readAll_57 fX11_13 mh_o (by rfl) rfl ?_
        refine pw_iconst_n (q := 61) C 0 dX11_readAll_60 (by decide +kernel) rfl ?_
        refine pw_ipg (q := 62) C dX11_readAll_61 mh_R (by omega) (by omega) rfl ?_
        rw [show page0 (T 1 - 48) 0 = T 1 - 48 from rfl]
        refine pw_bipush (q := 64) (v := (-9)) C dX11_readAll_62 (by decide +kernel) rfl ?_
        refine pw_icmp_ne (q := 67) 69 C dX11_readAll_64 (by decide) rfl (fun g64 => ?_) (fun g64 => absurd g64 (optI_ne (by omega)))
        exact loop 80 2 (by omega) (page0 (T 1 - 48)) 0 _ (by omega) (by rw [← cl_new]; exact Inv.new.bound (by omega)) (by omega) (by rw [allS, if_pos h1, if_pos hD])
      · refine pw_val (q := 55) (cr_v (j := iX11_digit) C dX11_readAll_52 lX11_83 mX11_digit (ro_mk (by decide) (by decide)) mh_o rfl (m_dig_n hn hT (by omega) (by omega) (by omega) hD) rfl rfl (Nat.le_of_ble_eq_true rfl) ⟨by omega, by omega⟩) rfl (fun M52 e52 => ?_)
        subst e52
        rw [show (-9 : Int32) = nI 4294967287 by decide +kernel]
        refine pw_ipgst (q := 56) C dX11_readAll_55 mh_R (by omega) (by omega) rfl ?_
        rw [mh_s_R]
        refine pw_aload_n (q := 57) (j := 0) C dX11_readAll_56 rfl rfl rfl ?_
        refine pw_getf (q := 60) C dX11_readAll_57 fX11_13 mh_o (by rfl) rfl ?_
        refine pw_iconst_n (q := 61) C 0 dX11_readAll_60 (by decide +kernel) rfl ?_
        refine pw_ipg (q := 62) C dX11_readAll_61 mh_R (by omega) (by omega) rfl ?_
        rw [updN_at, show nI 4294967287 = -9 by decide +kernel]
        refine pw_bipush (q := 64) (v := (-9)) C dX11_readAll_62 (by decide +kernel) rfl ?_
        refine pw_icmp_ne (q := 67) 69 C dX11_readAll_64 (by decide) rfl (fun g64 => absurd g64 (fun q => q rfl)) (fun g64 => ?_)
        refine pw_iconst_n (q := 68) C 0 dX11_readAll_67 (by decide +kernel) rfl ?_
        exact pw_zret C dX11_readAll_68 rfl (by first | decide +kernel | exact nar_bN _ | exact nar_01 (by omega)) ⟨by omega, by omega⟩ (by
            have hs : allS T n = (0, 1, page0 0, 0) := by rw [allS, if_pos h1, if_neg hD]
            rw [hs]
            exact RV.mk (by rfl) ⟨_, fun q => by first | rfl | exact absurd q (by decide), rfl⟩)
    · refine pw_val (q := 38) (cr_v (j := iX11_eat) C dX11_readAll_35 lX11_87 mX11_eat (ro_mk (by decide) (by decide)) mh_o rfl (m_eat_n hn hT (by omega) (by decide) h1) rfl rfl (Nat.le_of_ble_eq_true rfl) ⟨by omega, by omega⟩) rfl (fun M35 e35 => ?_)
      subst e35
      refine pw_if_ne_n (q := 41) 43 C dX11_readAll_38 (by decide) rfl (by omega) (fun g38 => absurd g38 (fun q => q rfl)) (fun g38 => ?_)
      refine pw_iconst_n (q := 42) C 0 dX11_readAll_41 (by decide +kernel) rfl ?_
      exact pw_zret C dX11_readAll_42 rfl (by first | decide +kernel | exact nar_bN _ | exact nar_01 (by omega)) ⟨by omega, by omega⟩ (by
          have hs : allS T n = (0, 0, page0 0, 0) := by rw [allS, if_neg h1]
          rw [hs]
          exact RV.mk (by rfl) ⟨_, fun q => by first | rfl | exact absurd q (by decide), rfl⟩)
  have loop1 : ∀ (d i : Nat), i + d = 194 → PW Γ G (ZJ Γ G 0 0 (RV (.int (nI (allS T n).1)) (fun M1 => ∃ R9, ((allS T n).1 = 1 → R9 = (allS T n).2.2.1) ∧ M1 = mh M m rf n ((allS T n).2.1) ((allS T n).2.2.2) ac T R9 P Q D K B L))) 12 [some (.ref m), some (.int (nI i))] [] (mh M m rf n 0 0 ac T ((zer R i)) P Q D K B L) 0 0 := by
    intro d
    induction d with
    | zero =>
      intro i hd
      refine pw_iload_n (q := 13) (j := 1) C dX11_readAll_12 rfl rfl rfl ?_
      refine pw_sipush_n (q := 16) C 194 dX11_readAll_13 (by decide +kernel) rfl ?_
      refine pw_icmp_ge_n (q := 19) 32 C dX11_readAll_16 (by decide) rfl (by omega) (by omega) (fun g16 => ?_) (fun g16 => absurd g16 (by omega))
      refine pw_norm (mh_R) (g := pg (page0 0)) (fun k hk => by show nI (zer R i k) = nI (page0 0 k); rw [zer, if_pos (by omega)]; unfold page0; split <;> rfl) ?_
      rw [mh_s_R]
      exact tail _
    | succ d ih =>
      intro i hd
      refine pw_iload_n (q := 13) (j := 1) C dX11_readAll_12 rfl rfl rfl ?_
      refine pw_sipush_n (q := 16) C 194 dX11_readAll_13 (by decide +kernel) rfl ?_
      refine pw_icmp_ge_n (q := 19) 32 C dX11_readAll_16 (by decide) rfl (by omega) (by omega) (fun g16 => absurd g16 (by omega)) (fun g16 => ?_)
      refine pw_aload_n (q := 20) (j := 0) C dX11_readAll_19 rfl rfl rfl ?_
      refine pw_getf (q := 23) C dX11_readAll_20 fX11_13 mh_o (by rfl) rfl ?_
      refine pw_iload_n (q := 24) (j := 1) C dX11_readAll_23 rfl rfl rfl ?_
      refine pw_iconst_n (q := 25) C 0 dX11_readAll_24 (by decide +kernel) rfl ?_
      refine pw_ipgst (q := 26) C dX11_readAll_25 mh_R (by omega) (by omega) rfl ?_
      rw [mh_s_R]
      refine pw_iinc_n (q := 29) C 1 dX11_readAll_26 rfl (by decide +kernel) rfl (by decide) rfl ?_
      refine pw_goto (q := 0) 12 C dX11_readAll_29 (by decide) ?_
      rw [zer_succ]
      exact ih (i + 1) (by omega)
  refine pw_aload_n (q := 1) (j := 0) C dX11_readAll_0 rfl rfl rfl ?_
  refine pw_iconst_n (q := 2) C 0 dX11_readAll_1 (by decide +kernel) rfl ?_
  refine pw_put (q := 5) C dX11_readAll_2 fX11_80 mh_o (by rfl) (by rfl) (Nat.le_of_ble_eq_true rfl) rfl ?_
  rw [mh_s_sp]
  refine pw_aload_n (q := 6) (j := 0) C dX11_readAll_5 rfl rfl rfl ?_
  refine pw_iconst_n (q := 7) C 0 dX11_readAll_6 (by decide +kernel) rfl ?_
  refine pw_put (q := 10) C dX11_readAll_7 fX11_100 mh_o (nar_01 (a := 0) (by omega)) (fit_01 (a := 0) (by omega)) (Nat.le_of_ble_eq_true rfl) rfl ?_
  rw [mh_s_ft]
  refine pw_iconst_n (q := 11) C 0 dX11_readAll_10 (by decide +kernel) rfl ?_
  refine pw_istore_n (q := 12) (j := 1) C dX11_readAll_11 rfl rfl (by decide) rfl ?_
  have l9 := loop1 194 0 (by omega)
  rw [zer_0] at l9
  exact l9
