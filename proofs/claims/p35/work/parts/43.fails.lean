/-! The law's fails. -/
theorem outW_hi {v lo hi : Nat} (h : hi < v) (hv : v < 2147483648) : ¬ inW (nI v) lo hi := fun q => by
  have h1 := (nI_leI (by omega) (by omega)).mp q.2
  omega
theorem outW_lo {v lo hi : Nat} (h : v < lo) (hv : lo < 2147483648) : ¬ inW (nI v) lo hi := fun q => by
  have h1 := (nI_leI (by omega) (by omega)).mp q.1
  omega
theorem outW_m {lo hi : Nat} (hv : lo < 2147483648) : ¬ inW (-1) lo hi := fun q => by
  have h1 := Int32.le_iff_toInt_le.mp q.1
  rw [nI_toInt (by omega)] at h1
  have h2 : (-1 : Int32).toInt = -1 := by decide +kernel
  omega
theorem outI_n {v R : Nat} (h : R ≤ v) (hv : v < 2147483648) : ¬ inI (nI v) R := fun q => by
  have h1 := (nI_ltI (by omega) (by omega)).mp q.2
  omega
theorem outI_m {R : Nat} : ¬ inI (-1) R := fun q => absurd q.1 (by decide +kernel)
set_option maxHeartbeats 200000 in
set_option maxRecDepth 100000 in
theorem w_about {M : PH} {x D : Nat} {S : St} (hX : RepX M x S) (hS : SInv D S) {c1 : Int32} : Run iL_about [.ref x, .int c1] M 2 12 (RA M x (EX xA xA xA) (spAbout S c1)) := by
  refine Run.of (l0 := [some (.ref x), some (.int c1)]) (by decide +kernel) (Nat.le_of_ble_eq_true rfl) (by rfl) (fun Γ G C => ?_)
  refine pw_aload_n (q := 1) (j := 0) C dL_about_0 rfl rfl rfl ?_
  refine pw_iconst_n (q := 2) C 2 dL_about_1 (by decide +kernel) rfl ?_
  refine pw_iload_n (q := 3) (j := 1) C dL_about_2 rfl rfl rfl ?_
  refine pw_iconst_n (q := 4) C 0 dL_about_3 (by decide +kernel) rfl ?_
  refine pw_iconst_n (q := 5) C 0 dL_about_4 (by decide +kernel) rfl ?_
  refine pw_iconst_n (q := 6) C 0 dL_about_5 (by decide +kernel) rfl ?_
  refine pw_val (q := 9) (cr_s (j := iL_call) C dL_about_6 lL_170 mL_call (ro_mk (by decide) (by decide))  (g_about hX hS) rfl rfl (Nat.le_of_ble_eq_true rfl) ⟨by omega, by omega⟩) rfl (fun M6 e6 => ?_)
  exact pw_iret C dL_about_9 rfl ⟨by omega, by omega⟩ (RV.mk rfl e6)
set_option maxHeartbeats 200000 in
set_option maxRecDepth 100000 in
theorem w_course {M : PH} {x D : Nat} {S : St} (hX : RepX M x S) (hS : SInv D S) {c1 c2 : Int32} : Run iL_course [.ref x, .int c1, .int c2] M 2 12 (RA M x (EX xB xA xA) (spCourse S c1 c2)) := by
  refine Run.of (l0 := [some (.ref x), some (.int c1), some (.int c2)]) (by decide +kernel) (Nat.le_of_ble_eq_true rfl) (by rfl) (fun Γ G C => ?_)
  refine pw_aload_n (q := 1) (j := 0) C dL_course_0 rfl rfl rfl ?_
  refine pw_iconst_n (q := 2) C 3 dL_course_1 (by decide +kernel) rfl ?_
  refine pw_iload_n (q := 3) (j := 1) C dL_course_2 rfl rfl rfl ?_
  refine pw_iload_n (q := 4) (j := 2) C dL_course_3 rfl rfl rfl ?_
  refine pw_iconst_n (q := 5) C 0 dL_course_4 (by decide +kernel) rfl ?_
  refine pw_iconst_n (q := 6) C 0 dL_course_5 (by decide +kernel) rfl ?_
  refine pw_val (q := 9) (cr_s (j := iL_call) C dL_course_6 lL_170 mL_call (ro_mk (by decide) (by decide))  (g_course hX hS) rfl rfl (Nat.le_of_ble_eq_true rfl) ⟨by omega, by omega⟩) rfl (fun M6 e6 => ?_)
  exact pw_iret C dL_course_9 rfl ⟨by omega, by omega⟩ (RV.mk rfl e6)
set_option maxHeartbeats 200000 in
set_option maxRecDepth 100000 in
theorem w_mason {M : PH} {x D : Nat} {S : St} (hX : RepX M x S) (hS : SInv D S) {c1 c2 : Int32} : Run iL_mason [.ref x, .int c1, .int c2] M 2 12 (RA M x (EX xB xA xA) (spMason S c1 c2)) := by
  refine Run.of (l0 := [some (.ref x), some (.int c1), some (.int c2)]) (by decide +kernel) (Nat.le_of_ble_eq_true rfl) (by rfl) (fun Γ G C => ?_)
  refine pw_aload_n (q := 1) (j := 0) C dL_mason_0 rfl rfl rfl ?_
  refine pw_iconst_n (q := 2) C 4 dL_mason_1 (by decide +kernel) rfl ?_
  refine pw_iload_n (q := 3) (j := 1) C dL_mason_2 rfl rfl rfl ?_
  refine pw_iload_n (q := 4) (j := 2) C dL_mason_3 rfl rfl rfl ?_
  refine pw_iconst_n (q := 5) C 0 dL_mason_4 (by decide +kernel) rfl ?_
  refine pw_iconst_n (q := 6) C 0 dL_mason_5 (by decide +kernel) rfl ?_
  refine pw_val (q := 9) (cr_s (j := iL_call) C dL_mason_6 lL_170 mL_call (ro_mk (by decide) (by decide))  (g_mason hX hS) rfl rfl (Nat.le_of_ble_eq_true rfl) ⟨by omega, by omega⟩) rfl (fun M6 e6 => ?_)
  exact pw_iret C dL_mason_9 rfl ⟨by omega, by omega⟩ (RV.mk rfl e6)
set_option maxHeartbeats 200000 in
set_option maxRecDepth 100000 in
theorem w_stone {M : PH} {x D : Nat} {S : St} (hX : RepX M x S) (hS : SInv D S) {c1 c2 : Int32} : Run iL_stone [.ref x, .int c1, .int c2] M 2 12 (RA M x (EX xB xA xA) (spStone S c1 c2)) := by
  refine Run.of (l0 := [some (.ref x), some (.int c1), some (.int c2)]) (by decide +kernel) (Nat.le_of_ble_eq_true rfl) (by rfl) (fun Γ G C => ?_)
  refine pw_aload_n (q := 1) (j := 0) C dL_stone_0 rfl rfl rfl ?_
  refine pw_iconst_n (q := 2) C 5 dL_stone_1 (by decide +kernel) rfl ?_
  refine pw_iload_n (q := 3) (j := 1) C dL_stone_2 rfl rfl rfl ?_
  refine pw_iload_n (q := 4) (j := 2) C dL_stone_3 rfl rfl rfl ?_
  refine pw_iconst_n (q := 5) C 0 dL_stone_4 (by decide +kernel) rfl ?_
  refine pw_iconst_n (q := 6) C 0 dL_stone_5 (by decide +kernel) rfl ?_
  refine pw_val (q := 9) (cr_s (j := iL_call) C dL_stone_6 lL_170 mL_call (ro_mk (by decide) (by decide))  (g_stone hX hS) rfl rfl (Nat.le_of_ble_eq_true rfl) ⟨by omega, by omega⟩) rfl (fun M6 e6 => ?_)
  exact pw_iret C dL_stone_9 rfl ⟨by omega, by omega⟩ (RV.mk rfl e6)
theorem w_of {M : PH} {x : Nat} {E : Nat → String} {r : RS} {i : MI} {as : List Value} {k : Nat} {v w : Int32} {S1 : St} (h : Run i as M 2 12 (RA M x E r)) (e : r = (k + 1, v, S1)) (hw : cod (E (k + 1)) = w) : Run i as M 2 12 (AQ M x w S1) := by
  subst e
  have e2 : ans E (k + 1, v, S1) = w := by
    unfold ans
    rw [if_neg (Nat.succ_ne_zero k), hw]
  unfold RA at h
  rw [e2] at h
  exact h
theorem w_ofH {M : PH} {x : Nat} {E : Nat → String} {r : RS} {i : MI} {hh : List (Nat × Nat × Nat × Nat)} {as : List Value} {k : Nat} {v w : Int32} {S1 : St} (h : RunH i hh as M 2 12 (RA M x E r)) (e : r = (k + 1, v, S1)) (hw : cod (E (k + 1)) = w) : RunH i hh as M 2 12 (AQ M x w S1) := by
  subst e
  have e2 : ans E (k + 1, v, S1) = w := by
    unfold ans
    rw [if_neg (Nat.succ_ne_zero k), hw]
  unfold RA at h
  rw [e2] at h
  exact h
set_option maxHeartbeats 200000 in
set_option maxRecDepth 100000 in
theorem v_fails {M : PH} {x D v : Nat} {S : St} (hX : RepX M x S) (hG : SG D S) (hD : D < 90000) (hv : v < 2147483648) : Run iL_fails [.ref x, .int (nI v)] M 80 480 (RV (.int (nI 1)) (fun M1 => RepX M1 x S ∧ Fr M M1 x)) := by
  have hS := hG.1
  have hI := hS.1.1
  have hb := hI.b
  have h5 := hG.2.1.1
  have h6 := hG.2.1.2.1
  have hF9 : Fr M M x := Fr.rf
  refine Run.of (l0 := [some (.ref x), some (.int (nI v)), none, none, none, none]) (by decide +kernel) (Nat.le_of_ble_eq_true rfl) (by rfl) (fun Γ G C => ?_)
  refine pw_aload_n (q := 1) (j := 0) C dL_fails_0 rfl rfl rfl ?_
  refine pw_iconst_n (q := 2) C 0 dL_fails_1 (by decide +kernel) rfl ?_
  refine pw_rd (q := 5) (cr_s (j := iL_about) C dL_fails_2 lL_176 mL_about (ro_mk (by decide) (by decide))  (v_a0 hX hS) rfl rfl (Nat.le_of_ble_eq_true rfl) ⟨by omega, by omega⟩) rfl ?_
  refine pw_istore_n (q := 6) (j := 2) C dL_fails_5 rfl rfl (by decide) rfl ?_
  refine pw_aload_n (q := 7) (j := 0) C dL_fails_6 rfl rfl rfl ?_
  refine pw_iconst_n (q := 8) C 1 dL_fails_7 (by decide +kernel) rfl ?_
  refine pw_rd (q := 11) (cr_s (j := iL_about) C dL_fails_8 lL_176 mL_about (ro_mk (by decide) (by decide))  (v_a1 hX hS) rfl rfl (Nat.le_of_ble_eq_true rfl) ⟨by omega, by omega⟩) rfl ?_
  refine pw_istore_n (q := 12) (j := 3) C dL_fails_11 rfl rfl (by decide) rfl ?_
  refine pw_aload_n (q := 13) (j := 0) C dL_fails_12 rfl rfl rfl ?_
  refine pw_iconst_n (q := 14) C 2 dL_fails_13 (by decide +kernel) rfl ?_
  refine pw_rd (q := 17) (cr_s (j := iL_about) C dL_fails_14 lL_176 mL_about (ro_mk (by decide) (by decide))  (v_a2 hX hS) rfl rfl (Nat.le_of_ble_eq_true rfl) ⟨by omega, by omega⟩) rfl ?_
  refine pw_istore (q := 19) C dL_fails_17 rfl (by decide) rfl ?_
  refine pw_aload_n (q := 20) (j := 0) C dL_fails_19 rfl rfl rfl ?_
  refine pw_iconst_n (q := 21) C 0 dL_fails_20 (by decide +kernel) rfl ?_
  refine pw_sipush_n (q := 24) C 256 dL_fails_21 (by decide +kernel) rfl ?_
  refine pw_iload_n (q := 25) (j := 1) C dL_fails_24 rfl rfl rfl ?_
  refine pw_bipush_n (q := 27) C 9 dL_fails_25 (by decide +kernel) rfl ?_
  refine pw_irem_n (q := 28) C dL_fails_27 (by omega) (by omega) (by omega) rfl ?_
  refine pw_iadd_n (q := 29) C dL_fails_28 rfl ?_
  refine pw_iconst_n (q := 30) C 0 dL_fails_29 (by decide +kernel) rfl ?_
  refine pw_iconst_n (q := 31) C 0 dL_fails_30 (by decide +kernel) rfl ?_
  refine pw_iconst_n (q := 32) C 0 dL_fails_31 (by decide +kernel) rfl ?_
  refine pw_val (q := 35) (cr_s (j := iL_call) C dL_fails_32 lL_170 mL_call (ro_mk (by decide) (by decide))  (w_of (g_append hX hS) (show spAppend S (nI (256 + v % 9)) = (1, 0, S) by unfold spAppend; rw [if_neg (outW_hi (by omega) (by omega))]) cod_A) rfl rfl (Nat.le_of_ble_eq_true rfl) ⟨by omega, by omega⟩) rfl (fun M32 e32 => ?_)
  have hX := e32.1
  have hF9 := hF9.tr e32.2
  refine pw_ldci (q := 37) C dL_fails_35 cn_15 rfl ?_
  refine pw_icmp_ne (q := 40) 129 C dL_fails_37 (by decide) rfl (fun g37 => absurd g37 (fun h => h rfl)) (fun g37 => ?_)
  refine pw_aload_n (q := 41) (j := 0) C dL_fails_40 rfl rfl rfl ?_
  refine pw_bipush_n (q := 43) C 12 dL_fails_41 (by decide +kernel) rfl ?_
  refine pw_val (q := 46) (cr_s (j := iL_about) C dL_fails_43 lL_176 mL_about (ro_mk (by decide) (by decide))  (w_of (w_about hX hS) (show spAbout S (nI 12) = (1, 0, S) by unfold spAbout; rw [if_neg (outW_hi (by omega) (by omega))]) cod_A) rfl rfl (Nat.le_of_ble_eq_true rfl) ⟨by omega, by omega⟩) rfl (fun M43 e43 => ?_)
  have hX := e43.1
  have hF9 := hF9.tr e43.2
  refine pw_ldci (q := 48) C dL_fails_46 cn_15 rfl ?_
  refine pw_icmp_ne (q := 51) 129 C dL_fails_48 (by decide) rfl (fun g48 => absurd g48 (fun h => h rfl)) (fun g48 => ?_)
  refine pw_aload_n (q := 52) (j := 0) C dL_fails_51 rfl rfl rfl ?_
  refine pw_iload_n (q := 53) (j := 2) C dL_fails_52 rfl rfl rfl ?_
  refine pw_iconst_n (q := 54) C 0 dL_fails_53 (by decide +kernel) rfl ?_
  refine pw_val (q := 57) (cr_s (j := iL_course) C dL_fails_54 lL_178 mL_course (ro_mk (by decide) (by decide))  (w_of (w_course hX hS) (show spCourse S (nI (sP S 5)) (nI 0) = (1, 0, S) by unfold spCourse; rw [if_neg (outI_n (Nat.le_refl _) (by omega))]) cod_B) rfl rfl (Nat.le_of_ble_eq_true rfl) ⟨by omega, by omega⟩) rfl (fun M54 e54 => ?_)
  have hX := e54.1
  have hF9 := hF9.tr e54.2
  refine pw_ldci (q := 59) C dL_fails_57 cn_40 rfl ?_
  refine pw_icmp_ne (q := 62) 129 C dL_fails_59 (by decide) rfl (fun g59 => absurd g59 (fun h => h rfl)) (fun g59 => ?_)
  refine pw_aload_n (q := 63) (j := 0) C dL_fails_62 rfl rfl rfl ?_
  refine pw_iconst_n (q := 64) C 0 dL_fails_63 (by decide +kernel) rfl ?_
  refine pw_bipush_n (q := 66) C 7 dL_fails_64 (by decide +kernel) rfl ?_
  refine pw_val (q := 69) (cr_s (j := iL_course) C dL_fails_66 lL_178 mL_course (ro_mk (by decide) (by decide))  (w_of (w_course hX hS) (show spCourse S (nI 0) (nI 7) = (2, 0, S) by unfold spCourse; rw [if_pos (inI_i (k := 0) (R := sP S 5) (by omega) (by omega)), if_neg (outW_hi (by omega) (by omega))]) cod_A) rfl rfl (Nat.le_of_ble_eq_true rfl) ⟨by omega, by omega⟩) rfl (fun M66 e66 => ?_)
  have hX := e66.1
  have hF9 := hF9.tr e66.2
  refine pw_ldci (q := 71) C dL_fails_69 cn_15 rfl ?_
  refine pw_icmp_ne (q := 74) 129 C dL_fails_71 (by decide) rfl (fun g71 => absurd g71 (fun h => h rfl)) (fun g71 => ?_)
  refine pw_aload_n (q := 75) (j := 0) C dL_fails_74 rfl rfl rfl ?_
  refine pw_iload_n (q := 76) (j := 3) C dL_fails_75 rfl rfl rfl ?_
  refine pw_iconst_n (q := 77) C 0 dL_fails_76 (by decide +kernel) rfl ?_
  refine pw_val (q := 80) (cr_s (j := iL_mason) C dL_fails_77 lL_180 mL_mason (ro_mk (by decide) (by decide))  (w_of (w_mason hX hS) (show spMason S (nI (sP S 6)) (nI 0) = (1, 0, S) by unfold spMason; rw [if_neg (outI_n (Nat.le_refl _) (by omega))]) cod_B) rfl rfl (Nat.le_of_ble_eq_true rfl) ⟨by omega, by omega⟩) rfl (fun M77 e77 => ?_)
  have hX := e77.1
  have hF9 := hF9.tr e77.2
  refine pw_ldci (q := 82) C dL_fails_80 cn_40 rfl ?_
  refine pw_icmp_ne (q := 85) 129 C dL_fails_82 (by decide) rfl (fun g82 => absurd g82 (fun h => h rfl)) (fun g82 => ?_)
  refine pw_aload_n (q := 86) (j := 0) C dL_fails_85 rfl rfl rfl ?_
  refine pw_iconst_n (q := 87) C 0 dL_fails_86 (by decide +kernel) rfl ?_
  refine pw_bipush_n (q := 89) C 6 dL_fails_87 (by decide +kernel) rfl ?_
  refine pw_val (q := 92) (cr_s (j := iL_mason) C dL_fails_89 lL_180 mL_mason (ro_mk (by decide) (by decide))  (w_of (w_mason hX hS) (show spMason S (nI 0) (nI 6) = (2, 0, S) by unfold spMason; rw [if_pos (inI_i (k := 0) (R := sP S 6) (by omega) (by omega)), if_neg (outW_hi (by omega) (by omega))]) cod_A) rfl rfl (Nat.le_of_ble_eq_true rfl) ⟨by omega, by omega⟩) rfl (fun M89 e89 => ?_)
  have hX := e89.1
  have hF9 := hF9.tr e89.2
  refine pw_ldci (q := 94) C dL_fails_92 cn_15 rfl ?_
  refine pw_icmp_ne (q := 97) 129 C dL_fails_94 (by decide) rfl (fun g94 => absurd g94 (fun h => h rfl)) (fun g94 => ?_)
  refine pw_aload_n (q := 98) (j := 0) C dL_fails_97 rfl rfl rfl ?_
  refine pw_iload (q := 100) C dL_fails_98 rfl rfl ?_
  refine pw_iconst_n (q := 101) C 0 dL_fails_100 (by decide +kernel) rfl ?_
  refine pw_val (q := 104) (cr_s (j := iL_stone) C dL_fails_101 lL_182 mL_stone (ro_mk (by decide) (by decide))  (w_of (w_stone hX hS) (show spStone S (nI (sP S 7)) (nI 0) = (1, 0, S) by unfold spStone; rw [if_neg (outI_n (Nat.le_refl _) (by omega))]) cod_B) rfl rfl (Nat.le_of_ble_eq_true rfl) ⟨by omega, by omega⟩) rfl (fun M101 e101 => ?_)
  have hX := e101.1
  have hF9 := hF9.tr e101.2
  refine pw_ldci (q := 106) C dL_fails_104 cn_40 rfl ?_
  refine pw_icmp_ne (q := 109) 129 C dL_fails_106 (by decide) rfl (fun g106 => absurd g106 (fun h => h rfl)) (fun g106 => ?_)
  refine pw_aload_n (q := 110) (j := 0) C dL_fails_109 rfl rfl rfl ?_
  refine pw_bipush_n (q := 112) C 6 dL_fails_110 (by decide +kernel) rfl ?_
  refine pw_iload (q := 114) C dL_fails_112 rfl rfl ?_
  refine pw_iconst_n (q := 115) C 0 dL_fails_114 (by decide +kernel) rfl ?_
  refine pw_iconst_n (q := 116) C 0 dL_fails_115 (by decide +kernel) rfl ?_
  refine pw_iconst_n (q := 117) C 0 dL_fails_116 (by decide +kernel) rfl ?_
  refine pw_val (q := 120) (cr_s (j := iL_call) C dL_fails_117 lL_170 mL_call (ro_mk (by decide) (by decide))  (w_of (g_why hX hS) (show spWhy S (nI (sP S 7)) = (1, 0, S) by unfold spWhy; rw [if_neg (outI_n (Nat.le_refl _) (by omega))]) cod_B) rfl rfl (Nat.le_of_ble_eq_true rfl) ⟨by omega, by omega⟩) rfl (fun M117 e117 => ?_)
  have hX := e117.1
  have hF9 := hF9.tr e117.2
  refine pw_ldci (q := 122) C dL_fails_120 cn_40 rfl ?_
  refine pw_icmp_ne (q := 125) 129 C dL_fails_122 (by decide) rfl (fun g122 => absurd g122 (fun h => h rfl)) (fun g122 => ?_)
  refine pw_iconst_n (q := 126) C 1 dL_fails_125 (by decide +kernel) rfl ?_
  refine pw_goto (q := 0) 130 C dL_fails_126 (by decide) ?_
  refine pw_istore (q := 132) C dL_fails_130 rfl (by decide) rfl ?_
  refine pw_iload (q := 134) C dL_fails_132 rfl rfl ?_
  refine pw_aload_n (q := 135) (j := 0) C dL_fails_134 rfl rfl rfl ?_
  refine pw_bipush_n (q := 137) C 7 dL_fails_135 (by decide +kernel) rfl ?_
  refine pw_iconst_n (q := 138) C 0 dL_fails_137 (by decide +kernel) rfl ?_
  refine pw_iconst_n (q := 139) C 1 dL_fails_138 (by decide +kernel) rfl ?_
  refine pw_iconst_n (q := 140) C 1 dL_fails_139 (by decide +kernel) rfl ?_
  refine pw_iconst_n (q := 141) C 0 dL_fails_140 (by decide +kernel) rfl ?_
  refine pw_val (q := 144) (cr_s (j := iL_call) C dL_fails_141 lL_170 mL_call (ro_mk (by decide) (by decide))  (w_of (g_build hX hS) (show spAddCourse S (nI 0) (nI 1) (nI 1) = (1, 0, S) by unfold spAddCourse; rw [if_neg (fun q => (outW_lo (by omega) (by omega)) q.1)]) cod_A) rfl rfl (Nat.le_of_ble_eq_true rfl) ⟨by omega, by omega⟩) rfl (fun M141 e141 => ?_)
  have hX := e141.1
  have hF9 := hF9.tr e141.2
  refine pw_ldci (q := 146) C dL_fails_144 cn_15 rfl ?_
  refine pw_icmp_ne (q := 149) 263 C dL_fails_146 (by decide) rfl (fun g146 => absurd g146 (fun h => h rfl)) (fun g146 => ?_)
  refine pw_aload_n (q := 150) (j := 0) C dL_fails_149 rfl rfl rfl ?_
  refine pw_bipush_n (q := 152) C 7 dL_fails_150 (by decide +kernel) rfl ?_
  refine pw_iconst_n (q := 153) C 1 dL_fails_152 (by decide +kernel) rfl ?_
  refine pw_bipush_n (q := 155) C 7 dL_fails_153 (by decide +kernel) rfl ?_
  refine pw_iconst_n (q := 156) C 1 dL_fails_155 (by decide +kernel) rfl ?_
  refine pw_iconst_n (q := 157) C 0 dL_fails_156 (by decide +kernel) rfl ?_
  refine pw_val (q := 160) (cr_s (j := iL_call) C dL_fails_157 lL_170 mL_call (ro_mk (by decide) (by decide))  (w_of (g_build hX hS) (show spAddCourse S (nI 1) (nI 7) (nI 1) = (1, 0, S) by unfold spAddCourse; rw [if_neg (fun q => (outW_hi (by omega) (by omega)) q.2.1)]) cod_A) rfl rfl (Nat.le_of_ble_eq_true rfl) ⟨by omega, by omega⟩) rfl (fun M157 e157 => ?_)
  have hX := e157.1
  have hF9 := hF9.tr e157.2
  refine pw_ldci (q := 162) C dL_fails_160 cn_15 rfl ?_
  refine pw_icmp_ne (q := 165) 263 C dL_fails_162 (by decide) rfl (fun g162 => absurd g162 (fun h => h rfl)) (fun g162 => ?_)
  refine pw_aload_n (q := 166) (j := 0) C dL_fails_165 rfl rfl rfl ?_
  refine pw_bipush_n (q := 168) C 7 dL_fails_166 (by decide +kernel) rfl ?_
  refine pw_iconst_n (q := 169) C 1 dL_fails_168 (by decide +kernel) rfl ?_
  refine pw_iconst_n (q := 170) C 1 dL_fails_169 (by decide +kernel) rfl ?_
  refine pw_bipush_n (q := 172) C 10 dL_fails_170 (by decide +kernel) rfl ?_
  refine pw_iconst_n (q := 173) C 0 dL_fails_172 (by decide +kernel) rfl ?_
  refine pw_val (q := 176) (cr_s (j := iL_call) C dL_fails_173 lL_170 mL_call (ro_mk (by decide) (by decide))  (w_of (g_build hX hS) (show spAddCourse S (nI 1) (nI 1) (nI 10) = (1, 0, S) by unfold spAddCourse; rw [if_neg (fun q => (outW_hi (by omega) (by omega)) q.2.2)]) cod_A) rfl rfl (Nat.le_of_ble_eq_true rfl) ⟨by omega, by omega⟩) rfl (fun M173 e173 => ?_)
  have hX := e173.1
  have hF9 := hF9.tr e173.2
  refine pw_ldci (q := 178) C dL_fails_176 cn_15 rfl ?_
  refine pw_icmp_ne (q := 181) 263 C dL_fails_178 (by decide) rfl (fun g178 => absurd g178 (fun h => h rfl)) (fun g178 => ?_)
  refine pw_aload_n (q := 182) (j := 0) C dL_fails_181 rfl rfl rfl ?_
  refine pw_bipush_n (q := 184) C 8 dL_fails_182 (by decide +kernel) rfl ?_
  refine pw_iconst_n (q := 185) C 0 dL_fails_184 (by decide +kernel) rfl ?_
  refine pw_iconst_n (q := 186) C 1 dL_fails_185 (by decide +kernel) rfl ?_
  refine pw_iconst_n (q := 187) C 0 dL_fails_186 (by decide +kernel) rfl ?_
  refine pw_iconst_n (q := 188) C 0 dL_fails_187 (by decide +kernel) rfl ?_
  refine pw_val (q := 191) (cr_s (j := iL_call) C dL_fails_188 lL_170 mL_call (ro_mk (by decide) (by decide))  (w_of (g_hire hX hS) (show spAddMason S (nI 0) (nI 1) = (1, 0, S) by unfold spAddMason; rw [if_neg (fun q => (outW_lo (by omega) (by omega)) q.1)]) cod_A) rfl rfl (Nat.le_of_ble_eq_true rfl) ⟨by omega, by omega⟩) rfl (fun M188 e188 => ?_)
  have hX := e188.1
  have hF9 := hF9.tr e188.2
  refine pw_ldci (q := 193) C dL_fails_191 cn_15 rfl ?_
  refine pw_icmp_ne (q := 196) 263 C dL_fails_193 (by decide) rfl (fun g193 => absurd g193 (fun h => h rfl)) (fun g193 => ?_)
  refine pw_aload_n (q := 197) (j := 0) C dL_fails_196 rfl rfl rfl ?_
  refine pw_bipush_n (q := 199) C 8 dL_fails_197 (by decide +kernel) rfl ?_
  refine pw_iconst_n (q := 200) C 1 dL_fails_199 (by decide +kernel) rfl ?_
  refine pw_bipush_n (q := 202) C 13 dL_fails_200 (by decide +kernel) rfl ?_
  refine pw_iconst_n (q := 203) C 0 dL_fails_202 (by decide +kernel) rfl ?_
  refine pw_iconst_n (q := 204) C 0 dL_fails_203 (by decide +kernel) rfl ?_
  refine pw_val (q := 207) (cr_s (j := iL_call) C dL_fails_204 lL_170 mL_call (ro_mk (by decide) (by decide))  (w_of (g_hire hX hS) (show spAddMason S (nI 1) (nI 13) = (1, 0, S) by unfold spAddMason; rw [if_neg (fun q => (outW_hi (by omega) (by omega)) q.2)]) cod_A) rfl rfl (Nat.le_of_ble_eq_true rfl) ⟨by omega, by omega⟩) rfl (fun M204 e204 => ?_)
  have hX := e204.1
  have hF9 := hF9.tr e204.2
  refine pw_ldci (q := 209) C dL_fails_207 cn_15 rfl ?_
  refine pw_icmp_ne (q := 212) 263 C dL_fails_209 (by decide) rfl (fun g209 => absurd g209 (fun h => h rfl)) (fun g209 => ?_)
  refine pw_aload_n (q := 213) (j := 0) C dL_fails_212 rfl rfl rfl ?_
  refine pw_bipush_n (q := 215) C 9 dL_fails_213 (by decide +kernel) rfl ?_
  refine pw_iload_n (q := 216) (j := 3) C dL_fails_215 rfl rfl rfl ?_
  refine pw_iconst_n (q := 217) C 1 dL_fails_216 (by decide +kernel) rfl ?_
  refine pw_iconst_n (q := 218) C 0 dL_fails_217 (by decide +kernel) rfl ?_
  refine pw_iconst_n (q := 219) C 0 dL_fails_218 (by decide +kernel) rfl ?_
  refine pw_val (q := 222) (cr_s (j := iL_call) C dL_fails_219 lL_170 mL_call (ro_mk (by decide) (by decide))  (w_of (g_rate hX hS) (show spSetRate S (nI (sP S 6)) (nI 1) = (1, 0, S) by unfold spSetRate; rw [if_neg (outI_n (Nat.le_refl _) (by omega))]) cod_B) rfl rfl (Nat.le_of_ble_eq_true rfl) ⟨by omega, by omega⟩) rfl (fun M219 e219 => ?_)
  have hX := e219.1
  have hF9 := hF9.tr e219.2
  refine pw_ldci (q := 224) C dL_fails_222 cn_40 rfl ?_
  refine pw_icmp_ne (q := 227) 263 C dL_fails_224 (by decide) rfl (fun g224 => absurd g224 (fun h => h rfl)) (fun g224 => ?_)
  refine pw_aload_n (q := 228) (j := 0) C dL_fails_227 rfl rfl rfl ?_
  refine pw_bipush_n (q := 230) C 9 dL_fails_228 (by decide +kernel) rfl ?_
  refine pw_iconst_n (q := 231) C 0 dL_fails_230 (by decide +kernel) rfl ?_
  refine pw_bipush_n (q := 233) C 10 dL_fails_231 (by decide +kernel) rfl ?_
  refine pw_iconst_n (q := 234) C 0 dL_fails_233 (by decide +kernel) rfl ?_
  refine pw_iconst_n (q := 235) C 0 dL_fails_234 (by decide +kernel) rfl ?_
  refine pw_val (q := 238) (cr_s (j := iL_call) C dL_fails_235 lL_170 mL_call (ro_mk (by decide) (by decide))  (w_of (g_rate hX hS) (show spSetRate S (nI 0) (nI 10) = (2, 0, S) by unfold spSetRate; rw [if_pos (inI_i (k := 0) (R := sP S 6) (by omega) (by omega)), if_neg (outW_hi (by omega) (by omega))]) cod_A) rfl rfl (Nat.le_of_ble_eq_true rfl) ⟨by omega, by omega⟩) rfl (fun M235 e235 => ?_)
  have hX := e235.1
  have hF9 := hF9.tr e235.2
  refine pw_ldci (q := 240) C dL_fails_238 cn_15 rfl ?_
  refine pw_icmp_ne (q := 243) 263 C dL_fails_240 (by decide) rfl (fun g240 => absurd g240 (fun h => h rfl)) (fun g240 => ?_)
  refine pw_aload_n (q := 244) (j := 0) C dL_fails_243 rfl rfl rfl ?_
  refine pw_bipush_n (q := 246) C 10 dL_fails_244 (by decide +kernel) rfl ?_
  refine pw_bipush_n (q := 248) C 10 dL_fails_246 (by decide +kernel) rfl ?_
  refine pw_iconst_n (q := 249) C 0 dL_fails_248 (by decide +kernel) rfl ?_
  refine pw_iconst_n (q := 250) C 0 dL_fails_249 (by decide +kernel) rfl ?_
  refine pw_iconst_n (q := 251) C 0 dL_fails_250 (by decide +kernel) rfl ?_
  refine pw_val (q := 254) (cr_s (j := iL_call) C dL_fails_251 lL_170 mL_call (ro_mk (by decide) (by decide))  (w_of (g_bound hX hS) (show spSetBound S (nI 10) = (1, 0, S) by unfold spSetBound; rw [if_neg (outW_hi (by omega) (by omega))]) cod_A) rfl rfl (Nat.le_of_ble_eq_true rfl) ⟨by omega, by omega⟩) rfl (fun M251 e251 => ?_)
  have hX := e251.1
  have hF9 := hF9.tr e251.2
  refine pw_ldci (q := 256) C dL_fails_254 cn_15 rfl ?_
  refine pw_icmp_ne (q := 259) 263 C dL_fails_256 (by decide) rfl (fun g256 => absurd g256 (fun h => h rfl)) (fun g256 => ?_)
  refine pw_iconst_n (q := 260) C 1 dL_fails_259 (by decide +kernel) rfl ?_
  refine pw_goto (q := 0) 264 C dL_fails_260 (by decide) ?_
  refine pw_and11 (q := 265) C dL_fails_264 rfl ?_
  refine pw_istore (q := 267) C dL_fails_265 rfl (by decide) rfl ?_
  refine pw_iload (q := 269) C dL_fails_267 rfl rfl ?_
  refine pw_aload_n (q := 270) (j := 0) C dL_fails_269 rfl rfl rfl ?_
  refine pw_bipush_n (q := 272) C 11 dL_fails_270 (by decide +kernel) rfl ?_
  refine pw_iload_n (q := 273) (j := 3) C dL_fails_272 rfl rfl rfl ?_
  refine pw_iconst_n (q := 274) C 0 dL_fails_273 (by decide +kernel) rfl ?_
  refine pw_iconst_n (q := 275) C 0 dL_fails_274 (by decide +kernel) rfl ?_
  refine pw_iconst_n (q := 276) C 0 dL_fails_275 (by decide +kernel) rfl ?_
  refine pw_val (q := 279) (cr_s (j := iL_call) C dL_fails_276 lL_170 mL_call (ro_mk (by decide) (by decide))  (w_of (g_cut hX hS) (show spCut S (nI (sP S 6)) (nI 0) (nI 0) = (1, 0, S) by unfold spCut; rw [if_neg (fun q => (outI_n (Nat.le_refl _) (by omega)) q.1)]) cod_B) rfl rfl (Nat.le_of_ble_eq_true rfl) ⟨by omega, by omega⟩) rfl (fun M276 e276 => ?_)
  have hX := e276.1
  have hF9 := hF9.tr e276.2
  refine pw_ldci (q := 281) C dL_fails_279 cn_40 rfl ?_
  refine pw_icmp_ne (q := 284) 397 C dL_fails_281 (by decide) rfl (fun g281 => absurd g281 (fun h => h rfl)) (fun g281 => ?_)
  refine pw_aload_n (q := 285) (j := 0) C dL_fails_284 rfl rfl rfl ?_
  refine pw_bipush_n (q := 287) C 11 dL_fails_285 (by decide +kernel) rfl ?_
  refine pw_iconst_n (q := 288) C 0 dL_fails_287 (by decide +kernel) rfl ?_
  refine pw_iload_n (q := 289) (j := 2) C dL_fails_288 rfl rfl rfl ?_
  refine pw_iconst_n (q := 290) C 0 dL_fails_289 (by decide +kernel) rfl ?_
  refine pw_iconst_n (q := 291) C 0 dL_fails_290 (by decide +kernel) rfl ?_
  refine pw_val (q := 294) (cr_s (j := iL_call) C dL_fails_291 lL_170 mL_call (ro_mk (by decide) (by decide))  (w_of (g_cut hX hS) (show spCut S (nI 0) (nI (sP S 5)) (nI 0) = (1, 0, S) by unfold spCut; rw [if_neg (fun q => (outI_n (Nat.le_refl _) (by omega)) q.2)]) cod_B) rfl rfl (Nat.le_of_ble_eq_true rfl) ⟨by omega, by omega⟩) rfl (fun M291 e291 => ?_)
  have hX := e291.1
  have hF9 := hF9.tr e291.2
  refine pw_ldci (q := 296) C dL_fails_294 cn_40 rfl ?_
  refine pw_icmp_ne (q := 299) 397 C dL_fails_296 (by decide) rfl (fun g296 => absurd g296 (fun h => h rfl)) (fun g296 => ?_)
  refine pw_aload_n (q := 300) (j := 0) C dL_fails_299 rfl rfl rfl ?_
  refine pw_bipush_n (q := 302) C 11 dL_fails_300 (by decide +kernel) rfl ?_
  refine pw_iconst_n (q := 303) C 0 dL_fails_302 (by decide +kernel) rfl ?_
  refine pw_iconst_n (q := 304) C 0 dL_fails_303 (by decide +kernel) rfl ?_
  refine pw_iconst (q := 305) (v := (-1)) C dL_fails_304 (by decide +kernel) rfl ?_
  refine pw_iconst_n (q := 306) C 0 dL_fails_305 (by decide +kernel) rfl ?_
  refine pw_val (q := 309) (cr_s (j := iL_call) C dL_fails_306 lL_170 mL_call (ro_mk (by decide) (by decide))  (w_of (g_cut hX hS) (show spCut S (nI 0) (nI 0) (-1) = (2, 0, S) by unfold spCut; rw [if_pos ⟨inI_i (k := 0) (R := sP S 6) (by omega) (by omega), inI_i (k := 0) (R := sP S 5) (by omega) (by omega)⟩, if_neg (outW_m (by omega))]) cod_A) rfl rfl (Nat.le_of_ble_eq_true rfl) ⟨by omega, by omega⟩) rfl (fun M306 e306 => ?_)
  have hX := e306.1
  have hF9 := hF9.tr e306.2
  refine pw_ldci (q := 311) C dL_fails_309 cn_15 rfl ?_
  refine pw_icmp_ne (q := 314) 397 C dL_fails_311 (by decide) rfl (fun g311 => absurd g311 (fun h => h rfl)) (fun g311 => ?_)
  refine pw_aload_n (q := 315) (j := 0) C dL_fails_314 rfl rfl rfl ?_
  refine pw_bipush_n (q := 317) C 12 dL_fails_315 (by decide +kernel) rfl ?_
  refine pw_iload (q := 319) C dL_fails_317 rfl rfl ?_
  refine pw_iconst_n (q := 320) C 0 dL_fails_319 (by decide +kernel) rfl ?_
  refine pw_iconst_n (q := 321) C 0 dL_fails_320 (by decide +kernel) rfl ?_
  refine pw_iconst_n (q := 322) C 0 dL_fails_321 (by decide +kernel) rfl ?_
  refine pw_val (q := 325) (cr_s (j := iL_call) C dL_fails_322 lL_170 mL_call (ro_mk (by decide) (by decide))  (w_of (g_inspect hX hS) (show spInspect S (nI (sP S 7)) = (1, 0, S) by unfold spInspect; rw [if_neg (outI_n (Nat.le_refl _) (by omega))]) cod_B) rfl rfl (Nat.le_of_ble_eq_true rfl) ⟨by omega, by omega⟩) rfl (fun M322 e322 => ?_)
  have hX := e322.1
  have hF9 := hF9.tr e322.2
  refine pw_ldci (q := 327) C dL_fails_325 cn_40 rfl ?_
  refine pw_icmp_ne (q := 330) 397 C dL_fails_327 (by decide) rfl (fun g327 => absurd g327 (fun h => h rfl)) (fun g327 => ?_)
  refine pw_aload_n (q := 331) (j := 0) C dL_fails_330 rfl rfl rfl ?_
  refine pw_bipush_n (q := 333) C 13 dL_fails_331 (by decide +kernel) rfl ?_
  refine pw_iconst_n (q := 334) C 0 dL_fails_333 (by decide +kernel) rfl ?_
  refine pw_iload (q := 336) C dL_fails_334 rfl rfl ?_
  refine pw_iconst_n (q := 337) C 0 dL_fails_336 (by decide +kernel) rfl ?_
  refine pw_iconst_n (q := 338) C 0 dL_fails_337 (by decide +kernel) rfl ?_
  refine pw_val (q := 341) (cr_s (j := iL_call) C dL_fails_338 lL_170 mL_call (ro_mk (by decide) (by decide))  (w_of (g_recut hX hS) (show spRecut S (nI 0) (nI (sP S 7)) (nI 0) = (1, 0, S) by unfold spRecut; rw [if_neg (fun q => (outI_n (Nat.le_refl _) (by omega)) q.2.1)]) cod_B) rfl rfl (Nat.le_of_ble_eq_true rfl) ⟨by omega, by omega⟩) rfl (fun M338 e338 => ?_)
  have hX := e338.1
  have hF9 := hF9.tr e338.2
  refine pw_ldci (q := 343) C dL_fails_341 cn_40 rfl ?_
  refine pw_icmp_ne (q := 346) 397 C dL_fails_343 (by decide) rfl (fun g343 => absurd g343 (fun h => h rfl)) (fun g343 => ?_)
  refine pw_aload_n (q := 347) (j := 0) C dL_fails_346 rfl rfl rfl ?_
  refine pw_bipush_n (q := 349) C 14 dL_fails_347 (by decide +kernel) rfl ?_
  refine pw_iconst (q := 350) (v := (-1)) C dL_fails_349 (by decide +kernel) rfl ?_
  refine pw_iconst_n (q := 351) C 0 dL_fails_350 (by decide +kernel) rfl ?_
  refine pw_iconst_n (q := 352) C 0 dL_fails_351 (by decide +kernel) rfl ?_
  refine pw_iconst_n (q := 353) C 0 dL_fails_352 (by decide +kernel) rfl ?_
  refine pw_val (q := 356) (cr_s (j := iL_call) C dL_fails_353 lL_170 mL_call (ro_mk (by decide) (by decide))  (w_of (g_scrap hX hS) (show spScrap S (-1) = (1, 0, S) by unfold spScrap; rw [if_neg outI_m]) cod_B) rfl rfl (Nat.le_of_ble_eq_true rfl) ⟨by omega, by omega⟩) rfl (fun M353 e353 => ?_)
  have hX := e353.1
  have hF9 := hF9.tr e353.2
  refine pw_ldci (q := 358) C dL_fails_356 cn_40 rfl ?_
  refine pw_icmp_ne (q := 361) 397 C dL_fails_358 (by decide) rfl (fun g358 => absurd g358 (fun h => h rfl)) (fun g358 => ?_)
  refine pw_aload_n (q := 362) (j := 0) C dL_fails_361 rfl rfl rfl ?_
  refine pw_bipush_n (q := 364) C 15 dL_fails_362 (by decide +kernel) rfl ?_
  refine pw_iload (q := 366) C dL_fails_364 rfl rfl ?_
  refine pw_iconst_n (q := 367) C 0 dL_fails_366 (by decide +kernel) rfl ?_
  refine pw_iconst_n (q := 368) C 0 dL_fails_367 (by decide +kernel) rfl ?_
  refine pw_iconst_n (q := 369) C 0 dL_fails_368 (by decide +kernel) rfl ?_
  refine pw_val (q := 372) (cr_s (j := iL_call) C dL_fails_369 lL_170 mL_call (ro_mk (by decide) (by decide))  (w_of (g_place hX hS) (show spSet S (nI (sP S 7)) = (1, 0, S) by unfold spSet; rw [if_neg (outI_n (Nat.le_refl _) (by omega))]) cod_B) rfl rfl (Nat.le_of_ble_eq_true rfl) ⟨by omega, by omega⟩) rfl (fun M369 e369 => ?_)
  have hX := e369.1
  have hF9 := hF9.tr e369.2
  refine pw_ldci (q := 374) C dL_fails_372 cn_40 rfl ?_
  refine pw_icmp_ne (q := 377) 397 C dL_fails_374 (by decide) rfl (fun g374 => absurd g374 (fun h => h rfl)) (fun g374 => ?_)
  refine pw_aload_n (q := 378) (j := 0) C dL_fails_377 rfl rfl rfl ?_
  refine pw_bipush_n (q := 380) C 17 dL_fails_378 (by decide +kernel) rfl ?_
  refine pw_iload (q := 382) C dL_fails_380 rfl rfl ?_
  refine pw_iconst_n (q := 383) C 0 dL_fails_382 (by decide +kernel) rfl ?_
  refine pw_iconst_n (q := 384) C 0 dL_fails_383 (by decide +kernel) rfl ?_
  refine pw_iconst_n (q := 385) C 0 dL_fails_384 (by decide +kernel) rfl ?_
  refine pw_val (q := 388) (cr_s (j := iL_call) C dL_fails_385 lL_170 mL_call (ro_mk (by decide) (by decide))  (w_of (g_for hX hS) (show spRecutFor S (nI (sP S 7)) = (1, 0, S) by unfold spRecutFor; rw [if_neg (outI_n (Nat.le_refl _) (by omega))]) cod_B) rfl rfl (Nat.le_of_ble_eq_true rfl) ⟨by omega, by omega⟩) rfl (fun M385 e385 => ?_)
  have hX := e385.1
  have hF9 := hF9.tr e385.2
  refine pw_ldci (q := 390) C dL_fails_388 cn_40 rfl ?_
  refine pw_icmp_ne (q := 393) 397 C dL_fails_390 (by decide) rfl (fun g390 => absurd g390 (fun h => h rfl)) (fun g390 => ?_)
  refine pw_iconst_n (q := 394) C 1 dL_fails_393 (by decide +kernel) rfl ?_
  refine pw_goto (q := 0) 398 C dL_fails_394 (by decide) ?_
  refine pw_and11 (q := 399) C dL_fails_398 rfl ?_
  refine pw_istore (q := 401) C dL_fails_399 rfl (by decide) rfl ?_
  refine pw_iload (q := 403) C dL_fails_401 rfl rfl ?_
  refine pw_aload_n (q := 404) (j := 0) C dL_fails_403 rfl rfl rfl ?_
  refine pw_bipush_n (q := 406) C 18 dL_fails_404 (by decide +kernel) rfl ?_
  refine pw_iload_n (q := 407) (j := 2) C dL_fails_406 rfl rfl rfl ?_
  refine pw_iconst_n (q := 408) C 0 dL_fails_407 (by decide +kernel) rfl ?_
  refine pw_iconst_n (q := 409) C 0 dL_fails_408 (by decide +kernel) rfl ?_
  refine pw_iconst_n (q := 410) C 0 dL_fails_409 (by decide +kernel) rfl ?_
  refine pw_val (q := 413) (cr_s (j := iL_call) C dL_fails_410 lL_170 mL_call (ro_mk (by decide) (by decide))  (w_of (g_cheapest hX hS) (show spCheapest S (nI (sP S 5)) = (1, 0, S) by unfold spCheapest; rw [if_neg (outI_n (Nat.le_refl _) (by omega))]) cod_B) rfl rfl (Nat.le_of_ble_eq_true rfl) ⟨by omega, by omega⟩) rfl (fun M410 e410 => ?_)
  have hX := e410.1
  have hF9 := hF9.tr e410.2
  refine pw_ldci (q := 415) C dL_fails_413 cn_40 rfl ?_
  refine pw_icmp_ne (q := 418) 468 C dL_fails_415 (by decide) rfl (fun g415 => absurd g415 (fun h => h rfl)) (fun g415 => ?_)
  refine pw_aload_n (q := 419) (j := 0) C dL_fails_418 rfl rfl rfl ?_
  refine pw_bipush_n (q := 421) C 19 dL_fails_419 (by decide +kernel) rfl ?_
  refine pw_bipush_n (q := 423) C 10 dL_fails_421 (by decide +kernel) rfl ?_
  refine pw_iconst_n (q := 424) C 0 dL_fails_423 (by decide +kernel) rfl ?_
  refine pw_iconst_n (q := 425) C 0 dL_fails_424 (by decide +kernel) rfl ?_
  refine pw_iconst_n (q := 426) C 0 dL_fails_425 (by decide +kernel) rfl ?_
  refine pw_val (q := 429) (cr_s (j := iL_call) C dL_fails_426 lL_170 mL_call (ro_mk (by decide) (by decide))  (w_of (g_earn hX hS) (show spEarn S (nI 10) = (1, 0, S) by unfold spEarn; rw [if_neg (outW_hi (by omega) (by omega))]) cod_A) rfl rfl (Nat.le_of_ble_eq_true rfl) ⟨by omega, by omega⟩) rfl (fun M426 e426 => ?_)
  have hX := e426.1
  have hF9 := hF9.tr e426.2
  refine pw_ldci (q := 431) C dL_fails_429 cn_15 rfl ?_
  refine pw_icmp_ne (q := 434) 468 C dL_fails_431 (by decide) rfl (fun g431 => absurd g431 (fun h => h rfl)) (fun g431 => ?_)
  refine pw_aload_n (q := 435) (j := 0) C dL_fails_434 rfl rfl rfl ?_
  refine pw_bipush_n (q := 437) C 20 dL_fails_435 (by decide +kernel) rfl ?_
  refine pw_iconst_n (q := 438) C 2 dL_fails_437 (by decide +kernel) rfl ?_
  refine pw_iconst_n (q := 439) C 0 dL_fails_438 (by decide +kernel) rfl ?_
  refine pw_iconst_n (q := 440) C 0 dL_fails_439 (by decide +kernel) rfl ?_
  refine pw_iconst_n (q := 441) C 0 dL_fails_440 (by decide +kernel) rfl ?_
  refine pw_val (q := 444) (cr_s (j := iL_call) C dL_fails_441 lL_170 mL_call (ro_mk (by decide) (by decide))  (w_of (g_save hX hS) (show spSave S (nI 2) = (1, 0, S) by unfold spSave; rw [if_neg (outW_hi (by omega) (by omega))]) cod_B) rfl rfl (Nat.le_of_ble_eq_true rfl) ⟨by omega, by omega⟩) rfl (fun M441 e441 => ?_)
  have hX := e441.1
  have hF9 := hF9.tr e441.2
  refine pw_ldci (q := 446) C dL_fails_444 cn_40 rfl ?_
  refine pw_icmp_ne (q := 449) 468 C dL_fails_446 (by decide) rfl (fun g446 => absurd g446 (fun h => h rfl)) (fun g446 => ?_)
  refine pw_aload_n (q := 450) (j := 0) C dL_fails_449 rfl rfl rfl ?_
  refine pw_bipush_n (q := 452) C 21 dL_fails_450 (by decide +kernel) rfl ?_
  refine pw_iconst (q := 453) (v := (-1)) C dL_fails_452 (by decide +kernel) rfl ?_
  refine pw_iconst_n (q := 454) C 0 dL_fails_453 (by decide +kernel) rfl ?_
  refine pw_iconst_n (q := 455) C 0 dL_fails_454 (by decide +kernel) rfl ?_
  refine pw_iconst_n (q := 456) C 0 dL_fails_455 (by decide +kernel) rfl ?_
  refine pw_val (q := 459) (cr_s (j := iL_call) C dL_fails_456 lL_170 mL_call (ro_mk (by decide) (by decide))  (w_of (g_restore hX hS) (show spRestore S (-1) = (1, 0, S) by unfold spRestore; rw [if_neg (outW_m (by omega))]) cod_B) rfl rfl (Nat.le_of_ble_eq_true rfl) ⟨by omega, by omega⟩) rfl (fun M456 e456 => ?_)
  have hX := e456.1
  have hF9 := hF9.tr e456.2
  refine pw_ldci (q := 461) C dL_fails_459 cn_40 rfl ?_
  refine pw_icmp_ne (q := 464) 468 C dL_fails_461 (by decide) rfl (fun g461 => absurd g461 (fun h => h rfl)) (fun g461 => ?_)
  refine pw_iconst_n (q := 465) C 1 dL_fails_464 (by decide +kernel) rfl ?_
  refine pw_goto (q := 0) 469 C dL_fails_465 (by decide) ?_
  refine pw_and11 (q := 470) C dL_fails_469 rfl ?_
  refine pw_istore (q := 472) C dL_fails_470 rfl (by decide) rfl ?_
  refine pw_iload (q := 474) C dL_fails_472 rfl rfl ?_
  refine pw_if_eq_n (q := 477) 543 C dL_fails_474 (by decide) rfl (by omega) (fun g474 => absurd g474 (by decide)) (fun g474 => ?_)
  refine pw_aload_n (q := 478) (j := 0) C dL_fails_477 rfl rfl rfl ?_
  refine pw_iconst_n (q := 479) C 4 dL_fails_478 (by decide +kernel) rfl ?_
  refine pw_lconst (q := 480) (v := 0) C dL_fails_479 (by decide +kernel) rfl ?_
  refine pw_val (q := 483) (cr_sh (j := iL_tryScript) C dL_fails_480 lL_204 mL_tryScript (ro_mk (by decide) (by decide))  (w_ofH (l_tryScript (p_runScript hX hS hD _ _) (le_spScript _ _ _) hX.1) (show spScript S (nI 4) 0 = (1, 0, S) by unfold spScript; rw [if_neg (fun q => (outW_hi (by omega) (by omega)) q.1)]) cod_A) rfl rfl (Nat.le_of_ble_eq_true rfl) ⟨by omega, by omega⟩) rfl (fun M480 e480 => ?_)
  have hX := e480.1
  have hF9 := hF9.tr e480.2
  refine pw_ldci (q := 485) C dL_fails_483 cn_15 rfl ?_
  refine pw_icmp_ne (q := 488) 543 C dL_fails_485 (by decide) rfl (fun g485 => absurd g485 (fun h => h rfl)) (fun g485 => ?_)
  refine pw_aload_n (q := 489) (j := 0) C dL_fails_488 rfl rfl rfl ?_
  refine pw_iconst_n (q := 490) C 1 dL_fails_489 (by decide +kernel) rfl ?_
  refine pw_ldc2 (q := 493) C dL_fails_490 cgL_208 rfl ?_
  refine pw_val (q := 496) (cr_sh (j := iL_tryScript) C dL_fails_493 lL_204 mL_tryScript (ro_mk (by decide) (by decide))  (w_ofH (l_tryScript (p_runScript hX hS hD _ _) (le_spScript _ _ _) hX.1) (show spScript S (nI 1) 100000 = (1, 0, S) by unfold spScript; rw [if_neg (fun q => absurd q.2.2 (by rw [idx_n (by omega)]; decide +kernel))]) cod_A) rfl rfl (Nat.le_of_ble_eq_true rfl) ⟨by omega, by omega⟩) rfl (fun M493 e493 => ?_)
  have hX := e493.1
  have hF9 := hF9.tr e493.2
  refine pw_ldci (q := 498) C dL_fails_496 cn_15 rfl ?_
  refine pw_icmp_ne (q := 501) 543 C dL_fails_498 (by decide) rfl (fun g498 => absurd g498 (fun h => h rfl)) (fun g498 => ?_)
  refine pw_aload_n (q := 502) (j := 0) C dL_fails_501 rfl rfl rfl ?_
  refine pw_iconst_n (q := 503) C 2 dL_fails_502 (by decide +kernel) rfl ?_
  refine pw_ldc2 (q := 506) C dL_fails_503 cgL_210 rfl ?_
  refine pw_val (q := 509) (cr_sh (j := iL_tryScript) C dL_fails_506 lL_204 mL_tryScript (ro_mk (by decide) (by decide))  (w_ofH (l_tryScript (p_runScript hX hS hD _ _) (le_spScript _ _ _) hX.1) (show spScript S (nI 2) (-1) = (1, 0, S) by unfold spScript; rw [if_neg (fun q => absurd q.2.1 (by decide +kernel))]) cod_A) rfl rfl (Nat.le_of_ble_eq_true rfl) ⟨by omega, by omega⟩) rfl (fun M506 e506 => ?_)
  have hX := e506.1
  have hF9 := hF9.tr e506.2
  refine pw_ldci (q := 511) C dL_fails_509 cn_15 rfl ?_
  refine pw_icmp_ne (q := 514) 543 C dL_fails_511 (by decide) rfl (fun g511 => absurd g511 (fun h => h rfl)) (fun g511 => ?_)
  refine pw_aload_n (q := 515) (j := 0) C dL_fails_514 rfl rfl rfl ?_
  refine pw_iload_n (q := 516) (j := 1) C dL_fails_515 rfl rfl rfl ?_
  refine pw_i2l (q := 517) C dL_fails_516 rfl ?_
  refine pw_iconst_n (q := 518) C 0 dL_fails_517 (by decide +kernel) rfl ?_
  refine pw_val (q := 521) (cr_sh (j := iL_trySimulate) C dL_fails_518 lL_212 mL_trySimulate (ro_mk (by decide) (by decide))  (w_ofH (l_trySimulate (p_simulate hX hS hD _ _) (le_spSim _ _ _) hX.1) (show spSim S (nI v).toInt64 (nI 0) = (1, 0, S) by unfold spSim; rw [if_neg (outW_lo (by omega) (by omega))]) cod_A) rfl rfl (Nat.le_of_ble_eq_true rfl) ⟨by omega, by omega⟩) rfl (fun M518 e518 => ?_)
  have hX := e518.1
  have hF9 := hF9.tr e518.2
  refine pw_ldci (q := 523) C dL_fails_521 cn_15 rfl ?_
  refine pw_icmp_ne (q := 526) 543 C dL_fails_523 (by decide) rfl (fun g523 => absurd g523 (fun h => h rfl)) (fun g523 => ?_)
  refine pw_aload_n (q := 527) (j := 0) C dL_fails_526 rfl rfl rfl ?_
  refine pw_iload_n (q := 528) (j := 1) C dL_fails_527 rfl rfl rfl ?_
  refine pw_i2l (q := 529) C dL_fails_528 rfl ?_
  refine pw_bipush_n (q := 531) C 100 dL_fails_529 (by decide +kernel) rfl ?_
  refine pw_val (q := 534) (cr_sh (j := iL_trySimulate) C dL_fails_531 lL_212 mL_trySimulate (ro_mk (by decide) (by decide))  (w_ofH (l_trySimulate (p_simulate hX hS hD _ _) (le_spSim _ _ _) hX.1) (show spSim S (nI v).toInt64 (nI 100) = (1, 0, S) by unfold spSim; rw [if_neg (outW_hi (by omega) (by omega))]) cod_A) rfl rfl (Nat.le_of_ble_eq_true rfl) ⟨by omega, by omega⟩) rfl (fun M531 e531 => ?_)
  have hX := e531.1
  have hF9 := hF9.tr e531.2
  refine pw_ldci (q := 536) C dL_fails_534 cn_15 rfl ?_
  refine pw_icmp_ne (q := 539) 543 C dL_fails_536 (by decide) rfl (fun g536 => absurd g536 (fun h => h rfl)) (fun g536 => ?_)
  refine pw_iconst_n (q := 540) C 1 dL_fails_539 (by decide +kernel) rfl ?_
  refine pw_goto (q := 0) 544 C dL_fails_540 (by decide) ?_
  exact pw_zret C dL_fails_544 rfl (by first | decide +kernel | exact nar_bN _ | exact nar_01 (by omega)) ⟨by omega, by omega⟩ (RV.mk rfl ⟨hX, hF9⟩)
