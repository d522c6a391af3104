/-! Reading what is there: nothing is made. -/
set_option maxHeartbeats 200000 in
set_option maxRecDepth 100000 in
theorem r_about {M : PH} {x D : Nat} {S : St} (hX : RepX M x S) (hS : SInv D S) {k : Nat} (hk : k ≤ 11) : Run iX10_about [.ref x, .int (nI k)] M 0 0 (RV (.int (nI (aboutV (sP S) k))) (fun M1 => M1 = M)) := by
  obtain ⟨a0, ax, aT, hL, ⟨aQ, aq⟩, ⟨nx, aR⟩, aS, aL, aW, aF⟩ := id hX
  obtain ⟨fc, fm, fs, hG, hr⟩ := id hL
  have hI := hS.1.1
  have hb := hI.b
  refine Run.of (l0 := [some (.ref x), some (.int (nI k))]) (by decide +kernel) (Nat.le_of_ble_eq_true rfl) (by rfl) (fun Γ G C => ?_)
  refine pw_iload_n (q := 1) (j := 1) C dX10_about_0 rfl rfl rfl ?_
  rcases (show k = 0 ∨ k = 1 ∨ k = 2 ∨ k = 3 ∨ k = 4 ∨ k = 5 ∨ k = 6 ∨ k = 7 ∨ k = 8 ∨ k = 9 ∨ k = 10 ∨ k = 11 by omega) with rfl | rfl | rfl | rfl | rfl | rfl | rfl | rfl | rfl | rfl | rfl | rfl
  · refine pw_tableIn (q := 0) 64 C dX10_about_1 (by decide +kernel) (by decide +kernel) (by rfl) (by decide) ?_
    refine pw_aload_n (q := 65) (j := 0) C dX10_about_64 rfl rfl rfl ?_
    refine pw_getf (q := 68) C dX10_about_65 fX10_19 a0 (by rfl) rfl ?_
    refine pw_getf (q := 71) C dX10_about_68 fX10_104 hG.1 (by rfl) rfl ?_
    refine pw_rd (q := 74) (cr_v (j := iX8_size) C dX10_about_71 lX10_99 mX8_size (ro_mk (by decide) (by decide)) hG.2.1.1 rfl (k_size hG.2.1) rfl rfl (Nat.le_of_ble_eq_true rfl) ⟨by omega, by omega⟩) rfl ?_
    exact pw_iret C dX10_about_74 rfl ⟨by omega, by omega⟩ (RV.mk (by rfl) rfl)
  · refine pw_tableIn (q := 0) 75 C dX10_about_1 (by decide +kernel) (by decide +kernel) (by rfl) (by decide) ?_
    refine pw_aload_n (q := 76) (j := 0) C dX10_about_75 rfl rfl rfl ?_
    refine pw_getf (q := 79) C dX10_about_76 fX10_19 a0 (by rfl) rfl ?_
    refine pw_getf (q := 82) C dX10_about_79 fX10_107 hG.1 (by rfl) rfl ?_
    refine pw_rd (q := 85) (cr_v (j := iX8_size) C dX10_about_82 lX10_99 mX8_size (ro_mk (by decide) (by decide)) hG.2.2.1.1 rfl (k_size hG.2.2.1) rfl rfl (Nat.le_of_ble_eq_true rfl) ⟨by omega, by omega⟩) rfl ?_
    exact pw_iret C dX10_about_85 rfl ⟨by omega, by omega⟩ (RV.mk (by rfl) rfl)
  · refine pw_tableIn (q := 0) 86 C dX10_about_1 (by decide +kernel) (by decide +kernel) (by rfl) (by decide) ?_
    refine pw_aload_n (q := 87) (j := 0) C dX10_about_86 rfl rfl rfl ?_
    refine pw_getf (q := 90) C dX10_about_87 fX10_19 a0 (by rfl) rfl ?_
    refine pw_getf (q := 93) C dX10_about_90 fX10_95 hG.1 (by rfl) rfl ?_
    refine pw_rd (q := 96) (cr_v (j := iX8_size) C dX10_about_93 lX10_99 mX8_size (ro_mk (by decide) (by decide)) hG.2.2.2.1 rfl (k_size hG.2.2.2) rfl rfl (Nat.le_of_ble_eq_true rfl) ⟨by omega, by omega⟩) rfl ?_
    exact pw_iret C dX10_about_96 rfl ⟨by omega, by omega⟩ (RV.mk (by rfl) rfl)
  · refine pw_tableIn (q := 0) 97 C dX10_about_1 (by decide +kernel) (by decide +kernel) (by rfl) (by decide) ?_
    refine pw_aload_n (q := 98) (j := 0) C dX10_about_97 rfl rfl rfl ?_
    refine pw_getf (q := 101) C dX10_about_98 fX10_19 a0 (by rfl) rfl ?_
    refine pw_getf (q := 104) C dX10_about_101 fX10_110 hG.1 (by rfl) rfl ?_
    exact pw_iret C dX10_about_104 rfl ⟨by omega, by omega⟩ (RV.mk (by rfl) rfl)
  · refine pw_tableIn (q := 0) 105 C dX10_about_1 (by decide +kernel) (by decide +kernel) (by rfl) (by decide) ?_
    refine pw_aload_n (q := 106) (j := 0) C dX10_about_105 rfl rfl rfl ?_
    refine pw_getf (q := 109) C dX10_about_106 fX10_19 a0 (by rfl) rfl ?_
    refine pw_getf (q := 112) C dX10_about_109 fX10_114 hG.1 (by rfl) rfl ?_
    refine pw_if_eq_n (q := 115) 119 C dX10_about_112 (by decide) rfl (by omega) (fun g112 => ?_) (fun g112 => ?_)
    · refine pw_iconst_n (q := 120) C 0 dX10_about_119 (by decide +kernel) rfl ?_
      exact pw_iret C dX10_about_120 rfl ⟨by omega, by omega⟩ (RV.mk (vnI (show 0 = sP S 2 by omega)) rfl)
    · refine pw_iconst_n (q := 116) C 1 dX10_about_115 (by decide +kernel) rfl ?_
      refine pw_goto (q := 0) 120 C dX10_about_116 (by decide) ?_
      exact pw_iret C dX10_about_120 rfl ⟨by omega, by omega⟩ (RV.mk (vnI (show 1 = sP S 2 by omega)) rfl)
  · refine pw_tableIn (q := 0) 121 C dX10_about_1 (by decide +kernel) (by decide +kernel) (by rfl) (by decide) ?_
    refine pw_aload_n (q := 122) (j := 0) C dX10_about_121 rfl rfl rfl ?_
    refine pw_getf (q := 125) C dX10_about_122 fX10_19 a0 (by rfl) rfl ?_
    refine pw_getf (q := 128) C dX10_about_125 fX10_118 hG.1 (by rfl) rfl ?_
    exact pw_iret C dX10_about_128 rfl ⟨by omega, by omega⟩ (RV.mk (by rfl) rfl)
  · refine pw_tableIn (q := 0) 129 C dX10_about_1 (by decide +kernel) (by decide +kernel) (by rfl) (by decide) ?_
    refine pw_aload_n (q := 130) (j := 0) C dX10_about_129 rfl rfl rfl ?_
    refine pw_getf (q := 133) C dX10_about_130 fX10_19 a0 (by rfl) rfl ?_
    refine pw_rd (q := 136) (cr_v (j := iX2_completeCourses) C dX10_about_133 lX10_121 mX2_completeCourses (ro_mk (by decide) (by decide)) hG.1 rfl (k_complete hL hI) rfl rfl (Nat.le_of_ble_eq_true rfl) ⟨by omega, by omega⟩) rfl ?_
    exact pw_iret C dX10_about_136 rfl ⟨by omega, by omega⟩ (RV.mk (by rfl) rfl)
  · refine pw_tableIn (q := 0) 137 C dX10_about_1 (by decide +kernel) (by decide +kernel) (by rfl) (by decide) ?_
    refine pw_aload_n (q := 138) (j := 0) C dX10_about_137 rfl rfl rfl ?_
    refine pw_getf (q := 141) C dX10_about_138 fX10_19 a0 (by rfl) rfl ?_
    refine pw_getf (q := 144) C dX10_about_141 fX10_95 hG.1 (by rfl) rfl ?_
    refine pw_iconst_n (q := 145) C 3 dX10_about_144 (by decide +kernel) rfl ?_
    refine pw_iconst_n (q := 146) C 3 dX10_about_145 (by decide +kernel) rfl ?_
    refine pw_rd (q := 149) (cr_v (j := iX8_count) C dX10_about_146 lX10_124 mX8_count (ro_mk (by decide) (by decide)) hG.2.2.2.1 rfl (g_cS hG hr hI (by omega)) rfl rfl (Nat.le_of_ble_eq_true rfl) ⟨by omega, by omega⟩) rfl ?_
    exact pw_iret C dX10_about_149 rfl ⟨by omega, by omega⟩ (RV.mk (by rfl) rfl)
  · refine pw_tableIn (q := 0) 150 C dX10_about_1 (by decide +kernel) (by decide +kernel) (by rfl) (by decide) ?_
    refine pw_aload_n (q := 151) (j := 0) C dX10_about_150 rfl rfl rfl ?_
    refine pw_getf (q := 154) C dX10_about_151 fX10_19 a0 (by rfl) rfl ?_
    refine pw_getf (q := 157) C dX10_about_154 fX10_95 hG.1 (by rfl) rfl ?_
    refine pw_iconst_n (q := 158) C 3 dX10_about_157 (by decide +kernel) rfl ?_
    refine pw_iconst_n (q := 159) C 4 dX10_about_158 (by decide +kernel) rfl ?_
    refine pw_rd (q := 162) (cr_v (j := iX8_count) C dX10_about_159 lX10_124 mX8_count (ro_mk (by decide) (by decide)) hG.2.2.2.1 rfl (g_cS hG hr hI (by omega)) rfl rfl (Nat.le_of_ble_eq_true rfl) ⟨by omega, by omega⟩) rfl ?_
    exact pw_iret C dX10_about_162 rfl ⟨by omega, by omega⟩ (RV.mk (by rfl) rfl)
  · refine pw_tableIn (q := 0) 163 C dX10_about_1 (by decide +kernel) (by decide +kernel) (by rfl) (by decide) ?_
    refine pw_aload_n (q := 164) (j := 0) C dX10_about_163 rfl rfl rfl ?_
    refine pw_getf (q := 167) C dX10_about_164 fX10_19 a0 (by rfl) rfl ?_
    refine pw_getf (q := 170) C dX10_about_167 fX10_107 hG.1 (by rfl) rfl ?_
    refine pw_iconst_n (q := 171) C 3 dX10_about_170 (by decide +kernel) rfl ?_
    refine pw_rd (q := 174) (cr_v (j := iX8_sum) C dX10_about_171 lX10_128 mX8_sum (ro_mk (by decide) (by decide)) hG.2.2.1.1 rfl (g_owed hG hr) rfl rfl (Nat.le_of_ble_eq_true rfl) ⟨by omega, by omega⟩) rfl ?_
    exact pw_iret C dX10_about_174 rfl ⟨by omega, by omega⟩ (RV.mk (by rfl) rfl)
  · refine pw_tableIn (q := 0) 175 C dX10_about_1 (by decide +kernel) (by decide +kernel) (by rfl) (by decide) ?_
    refine pw_aload_n (q := 176) (j := 0) C dX10_about_175 rfl rfl rfl ?_
    refine pw_getf (q := 179) C dX10_about_176 fX10_19 a0 (by rfl) rfl ?_
    refine pw_getf (q := 182) C dX10_about_179 fX10_132 hG.1 (by rfl) rfl ?_
    exact pw_iret C dX10_about_182 rfl ⟨by omega, by omega⟩ (RV.mk (by rfl) rfl)
  · refine pw_tableIn (q := 0) 183 C dX10_about_1 (by decide +kernel) (by decide +kernel) (by rfl) (by decide) ?_
    refine pw_aload_n (q := 184) (j := 0) C dX10_about_183 rfl rfl rfl ?_
    refine pw_getf (q := 187) C dX10_about_184 fX10_19 a0 (by rfl) rfl ?_
    refine pw_getf (q := 190) C dX10_about_187 fX10_135 hG.1 (by rfl) rfl ?_
    exact pw_iret C dX10_about_190 rfl ⟨by omega, by omega⟩ (RV.mk (by rfl) rfl)
set_option maxHeartbeats 200000 in
set_option maxRecDepth 100000 in
theorem r_course {M : PH} {x D : Nat} {S : St} (hX : RepX M x S) (hS : SInv D S) {c k : Nat} (hc : c < sP S 5) (hk : k ≤ 6) : Run iX10_course [.ref x, .int (nI c), .int (nI k)] M 0 0 (RV (.int (nI (courseV (sP S) c k))) (fun M1 => M1 = M)) := by
  obtain ⟨a0, ax, aT, hL, ⟨aQ, aq⟩, ⟨nx, aR⟩, aS, aL, aW, aF⟩ := id hX
  obtain ⟨fc, fm, fs, hG, hr⟩ := id hL
  have hI := hS.1.1
  have hb := hI.b
  refine Run.of (l0 := [some (.ref x), some (.int (nI c)), some (.int (nI k))]) (by decide +kernel) (Nat.le_of_ble_eq_true rfl) (by rfl) (fun Γ G C => ?_)
  refine pw_aload_n (q := 1) (j := 0) C dX10_course_0 rfl rfl rfl ?_
  refine pw_iload_n (q := 2) (j := 1) C dX10_course_1 rfl rfl rfl ?_
  refine pw_void (q := 5) (cr_v (j := iX10_requireCourse) C dX10_course_2 lX10_140 mX10_requireCourse (ro_mk (by decide) (by decide)) a0 rfl (q_course hX hS hc) rfl rfl (Nat.le_of_ble_eq_true rfl) ⟨by omega, by omega⟩) rfl (fun M2 e2 => ?_)
  subst e2
  refine pw_iload_n (q := 6) (j := 2) C dX10_course_5 rfl rfl rfl ?_
  rcases (show k = 0 ∨ k = 1 ∨ k = 2 ∨ k = 3 ∨ k = 4 ∨ k = 5 ∨ k = 6 by omega) with rfl | rfl | rfl | rfl | rfl | rfl | rfl
  · refine pw_tableIn (q := 0) 48 C dX10_course_6 (by decide +kernel) (by decide +kernel) (by rfl) (by decide) ?_
    refine pw_aload_n (q := 49) (j := 0) C dX10_course_48 rfl rfl rfl ?_
    refine pw_getf (q := 52) C dX10_course_49 fX10_19 a0 (by rfl) rfl ?_
    refine pw_getf (q := 55) C dX10_course_52 fX10_104 hG.1 (by rfl) rfl ?_
    refine pw_iload_n (q := 56) (j := 1) C dX10_course_55 rfl rfl rfl ?_
    refine pw_iload_n (q := 57) (j := 2) C dX10_course_56 rfl rfl rfl ?_
    refine pw_rd (q := 60) (cr_v (j := iX8_get) C dX10_course_57 lX10_144 mX8_get (ro_mk (by decide) (by decide)) hG.2.1.1 rfl (g_c hG hr hc (by omega)) rfl rfl (Nat.le_of_ble_eq_true rfl) ⟨by omega, by omega⟩) rfl ?_
    exact pw_iret C dX10_course_60 rfl ⟨by omega, by omega⟩ (RV.mk (by rfl) rfl)
  · refine pw_tableIn (q := 0) 48 C dX10_course_6 (by decide +kernel) (by decide +kernel) (by rfl) (by decide) ?_
    refine pw_aload_n (q := 49) (j := 0) C dX10_course_48 rfl rfl rfl ?_
    refine pw_getf (q := 52) C dX10_course_49 fX10_19 a0 (by rfl) rfl ?_
    refine pw_getf (q := 55) C dX10_course_52 fX10_104 hG.1 (by rfl) rfl ?_
    refine pw_iload_n (q := 56) (j := 1) C dX10_course_55 rfl rfl rfl ?_
    refine pw_iload_n (q := 57) (j := 2) C dX10_course_56 rfl rfl rfl ?_
    refine pw_rd (q := 60) (cr_v (j := iX8_get) C dX10_course_57 lX10_144 mX8_get (ro_mk (by decide) (by decide)) hG.2.1.1 rfl (g_c hG hr hc (by omega)) rfl rfl (Nat.le_of_ble_eq_true rfl) ⟨by omega, by omega⟩) rfl ?_
    exact pw_iret C dX10_course_60 rfl ⟨by omega, by omega⟩ (RV.mk (by rfl) rfl)
  · refine pw_tableIn (q := 0) 48 C dX10_course_6 (by decide +kernel) (by decide +kernel) (by rfl) (by decide) ?_
    refine pw_aload_n (q := 49) (j := 0) C dX10_course_48 rfl rfl rfl ?_
    refine pw_getf (q := 52) C dX10_course_49 fX10_19 a0 (by rfl) rfl ?_
    refine pw_getf (q := 55) C dX10_course_52 fX10_104 hG.1 (by rfl) rfl ?_
    refine pw_iload_n (q := 56) (j := 1) C dX10_course_55 rfl rfl rfl ?_
    refine pw_iload_n (q := 57) (j := 2) C dX10_course_56 rfl rfl rfl ?_
    refine pw_rd (q := 60) (cr_v (j := iX8_get) C dX10_course_57 lX10_144 mX8_get (ro_mk (by decide) (by decide)) hG.2.1.1 rfl (g_c hG hr hc (by omega)) rfl rfl (Nat.le_of_ble_eq_true rfl) ⟨by omega, by omega⟩) rfl ?_
    exact pw_iret C dX10_course_60 rfl ⟨by omega, by omega⟩ (RV.mk (by rfl) rfl)
  · refine pw_tableIn (q := 0) 61 C dX10_course_6 (by decide +kernel) (by decide +kernel) (by rfl) (by decide) ?_
    refine pw_aload_n (q := 62) (j := 0) C dX10_course_61 rfl rfl rfl ?_
    refine pw_getf (q := 65) C dX10_course_62 fX10_19 a0 (by rfl) rfl ?_
    refine pw_getf (q := 68) C dX10_course_65 fX10_95 hG.1 (by rfl) rfl ?_
    refine pw_iconst_n (q := 69) C 0 dX10_course_68 (by decide +kernel) rfl ?_
    refine pw_iload_n (q := 70) (j := 1) C dX10_course_69 rfl rfl rfl ?_
    refine pw_iconst_n (q := 71) C 3 dX10_course_70 (by decide +kernel) rfl ?_
    refine pw_iconst_n (q := 72) C 3 dX10_course_71 (by decide +kernel) rfl ?_
    refine pw_rd (q := 75) (cr_v (j := iX8_countBoth) C dX10_course_72 lX10_147 mX8_countBoth (ro_mk (by decide) (by decide)) hG.2.2.2.1 rfl (g_cC hG hr hI (by omega) (by omega)) rfl rfl (Nat.le_of_ble_eq_true rfl) ⟨by omega, by omega⟩) rfl ?_
    exact pw_iret C dX10_course_75 rfl ⟨by omega, by omega⟩ (RV.mk (by rfl) rfl)
  · refine pw_tableIn (q := 0) 76 C dX10_course_6 (by decide +kernel) (by decide +kernel) (by rfl) (by decide) ?_
    refine pw_aload_n (q := 77) (j := 0) C dX10_course_76 rfl rfl rfl ?_
    refine pw_getf (q := 80) C dX10_course_77 fX10_19 a0 (by rfl) rfl ?_
    refine pw_iload_n (q := 81) (j := 1) C dX10_course_80 rfl rfl rfl ?_
    refine pw_rd (q := 84) (cr_v (j := iX2_lacking) C dX10_course_81 lX10_151 mX2_lacking (ro_mk (by decide) (by decide)) hG.1 rfl (k_lacking hL hI hc) rfl rfl (Nat.le_of_ble_eq_true rfl) ⟨by omega, by omega⟩) rfl ?_
    exact pw_iret C dX10_course_84 rfl ⟨by omega, by omega⟩ (RV.mk (by rfl) rfl)
  · refine pw_tableIn (q := 0) 85 C dX10_course_6 (by decide +kernel) (by decide +kernel) (by rfl) (by decide) ?_
    refine pw_aload_n (q := 86) (j := 0) C dX10_course_85 rfl rfl rfl ?_
    refine pw_getf (q := 89) C dX10_course_86 fX10_19 a0 (by rfl) rfl ?_
    refine pw_getf (q := 92) C dX10_course_89 fX10_95 hG.1 (by rfl) rfl ?_
    refine pw_iconst_n (q := 93) C 0 dX10_course_92 (by decide +kernel) rfl ?_
    refine pw_iload_n (q := 94) (j := 1) C dX10_course_93 rfl rfl rfl ?_
    refine pw_iconst_n (q := 95) C 3 dX10_course_94 (by decide +kernel) rfl ?_
    refine pw_iconst_n (q := 96) C 0 dX10_course_95 (by decide +kernel) rfl ?_
    refine pw_rd (q := 99) (cr_v (j := iX8_countBoth) C dX10_course_96 lX10_147 mX8_countBoth (ro_mk (by decide) (by decide)) hG.2.2.2.1 rfl (g_cC hG hr hI (by omega) (by omega)) rfl rfl (Nat.le_of_ble_eq_true rfl) ⟨by omega, by omega⟩) rfl ?_
    exact pw_iret C dX10_course_99 rfl ⟨by omega, by omega⟩ (RV.mk (by rfl) rfl)
  · refine pw_tableIn (q := 0) 100 C dX10_course_6 (by decide +kernel) (by decide +kernel) (by rfl) (by decide) ?_
    refine pw_aload_n (q := 101) (j := 0) C dX10_course_100 rfl rfl rfl ?_
    refine pw_getf (q := 104) C dX10_course_101 fX10_19 a0 (by rfl) rfl ?_
    refine pw_getf (q := 107) C dX10_course_104 fX10_95 hG.1 (by rfl) rfl ?_
    refine pw_iconst_n (q := 108) C 0 dX10_course_107 (by decide +kernel) rfl ?_
    refine pw_iload_n (q := 109) (j := 1) C dX10_course_108 rfl rfl rfl ?_
    refine pw_iconst_n (q := 110) C 3 dX10_course_109 (by decide +kernel) rfl ?_
    refine pw_iconst_n (q := 111) C 2 dX10_course_110 (by decide +kernel) rfl ?_
    refine pw_rd (q := 114) (cr_v (j := iX8_countBoth) C dX10_course_111 lX10_147 mX8_countBoth (ro_mk (by decide) (by decide)) hG.2.2.2.1 rfl (g_cC hG hr hI (by omega) (by omega)) rfl rfl (Nat.le_of_ble_eq_true rfl) ⟨by omega, by omega⟩) rfl ?_
    exact pw_iret C dX10_course_114 rfl ⟨by omega, by omega⟩ (RV.mk (by rfl) rfl)
set_option maxHeartbeats 200000 in
set_option maxRecDepth 100000 in
theorem r_mason {M : PH} {x D : Nat} {S : St} (hX : RepX M x S) (hS : SInv D S) {c k : Nat} (hc : c < sP S 6) (hk : k ≤ 5) : Run iX10_mason [.ref x, .int (nI c), .int (nI k)] M 0 0 (RV (.int (nI (masonV (sP S) c k))) (fun M1 => M1 = M)) := by
  obtain ⟨a0, ax, aT, hL, ⟨aQ, aq⟩, ⟨nx, aR⟩, aS, aL, aW, aF⟩ := id hX
  obtain ⟨fc, fm, fs, hG, hr⟩ := id hL
  have hI := hS.1.1
  have hb := hI.b
  refine Run.of (l0 := [some (.ref x), some (.int (nI c)), some (.int (nI k))]) (by decide +kernel) (Nat.le_of_ble_eq_true rfl) (by rfl) (fun Γ G C => ?_)
  refine pw_aload_n (q := 1) (j := 0) C dX10_mason_0 rfl rfl rfl ?_
  refine pw_iload_n (q := 2) (j := 1) C dX10_mason_1 rfl rfl rfl ?_
  refine pw_void (q := 5) (cr_v (j := iX10_requireMason) C dX10_mason_2 lX10_156 mX10_requireMason (ro_mk (by decide) (by decide)) a0 rfl (q_mason hX hS hc) rfl rfl (Nat.le_of_ble_eq_true rfl) ⟨by omega, by omega⟩) rfl (fun M2 e2 => ?_)
  subst e2
  refine pw_iload_n (q := 6) (j := 2) C dX10_mason_5 rfl rfl rfl ?_
  rcases (show k = 0 ∨ k = 1 ∨ k = 2 ∨ k = 3 ∨ k = 4 ∨ k = 5 by omega) with rfl | rfl | rfl | rfl | rfl | rfl
  · refine pw_tableIn (q := 0) 44 C dX10_mason_6 (by decide +kernel) (by decide +kernel) (by rfl) (by decide) ?_
    refine pw_aload_n (q := 45) (j := 0) C dX10_mason_44 rfl rfl rfl ?_
    refine pw_getf (q := 48) C dX10_mason_45 fX10_19 a0 (by rfl) rfl ?_
    refine pw_getf (q := 51) C dX10_mason_48 fX10_107 hG.1 (by rfl) rfl ?_
    refine pw_iload_n (q := 52) (j := 1) C dX10_mason_51 rfl rfl rfl ?_
    refine pw_iload_n (q := 53) (j := 2) C dX10_mason_52 rfl rfl rfl ?_
    refine pw_rd (q := 56) (cr_v (j := iX8_get) C dX10_mason_53 lX10_144 mX8_get (ro_mk (by decide) (by decide)) hG.2.2.1.1 rfl (g_m hG hr hc (by omega)) rfl rfl (Nat.le_of_ble_eq_true rfl) ⟨by omega, by omega⟩) rfl ?_
    exact pw_iret C dX10_mason_56 rfl ⟨by omega, by omega⟩ (RV.mk (by rfl) rfl)
  · refine pw_tableIn (q := 0) 44 C dX10_mason_6 (by decide +kernel) (by decide +kernel) (by rfl) (by decide) ?_
    refine pw_aload_n (q := 45) (j := 0) C dX10_mason_44 rfl rfl rfl ?_
    refine pw_getf (q := 48) C dX10_mason_45 fX10_19 a0 (by rfl) rfl ?_
    refine pw_getf (q := 51) C dX10_mason_48 fX10_107 hG.1 (by rfl) rfl ?_
    refine pw_iload_n (q := 52) (j := 1) C dX10_mason_51 rfl rfl rfl ?_
    refine pw_iload_n (q := 53) (j := 2) C dX10_mason_52 rfl rfl rfl ?_
    refine pw_rd (q := 56) (cr_v (j := iX8_get) C dX10_mason_53 lX10_144 mX8_get (ro_mk (by decide) (by decide)) hG.2.2.1.1 rfl (g_m hG hr hc (by omega)) rfl rfl (Nat.le_of_ble_eq_true rfl) ⟨by omega, by omega⟩) rfl ?_
    exact pw_iret C dX10_mason_56 rfl ⟨by omega, by omega⟩ (RV.mk (by rfl) rfl)
  · refine pw_tableIn (q := 0) 44 C dX10_mason_6 (by decide +kernel) (by decide +kernel) (by rfl) (by decide) ?_
    refine pw_aload_n (q := 45) (j := 0) C dX10_mason_44 rfl rfl rfl ?_
    refine pw_getf (q := 48) C dX10_mason_45 fX10_19 a0 (by rfl) rfl ?_
    refine pw_getf (q := 51) C dX10_mason_48 fX10_107 hG.1 (by rfl) rfl ?_
    refine pw_iload_n (q := 52) (j := 1) C dX10_mason_51 rfl rfl rfl ?_
    refine pw_iload_n (q := 53) (j := 2) C dX10_mason_52 rfl rfl rfl ?_
    refine pw_rd (q := 56) (cr_v (j := iX8_get) C dX10_mason_53 lX10_144 mX8_get (ro_mk (by decide) (by decide)) hG.2.2.1.1 rfl (g_m hG hr hc (by omega)) rfl rfl (Nat.le_of_ble_eq_true rfl) ⟨by omega, by omega⟩) rfl ?_
    exact pw_iret C dX10_mason_56 rfl ⟨by omega, by omega⟩ (RV.mk (by rfl) rfl)
  · refine pw_tableIn (q := 0) 44 C dX10_mason_6 (by decide +kernel) (by decide +kernel) (by rfl) (by decide) ?_
    refine pw_aload_n (q := 45) (j := 0) C dX10_mason_44 rfl rfl rfl ?_
    refine pw_getf (q := 48) C dX10_mason_45 fX10_19 a0 (by rfl) rfl ?_
    refine pw_getf (q := 51) C dX10_mason_48 fX10_107 hG.1 (by rfl) rfl ?_
    refine pw_iload_n (q := 52) (j := 1) C dX10_mason_51 rfl rfl rfl ?_
    refine pw_iload_n (q := 53) (j := 2) C dX10_mason_52 rfl rfl rfl ?_
    refine pw_rd (q := 56) (cr_v (j := iX8_get) C dX10_mason_53 lX10_144 mX8_get (ro_mk (by decide) (by decide)) hG.2.2.1.1 rfl (g_m hG hr hc (by omega)) rfl rfl (Nat.le_of_ble_eq_true rfl) ⟨by omega, by omega⟩) rfl ?_
    exact pw_iret C dX10_mason_56 rfl ⟨by omega, by omega⟩ (RV.mk (by rfl) rfl)
  · refine pw_tableIn (q := 0) 57 C dX10_mason_6 (by decide +kernel) (by decide +kernel) (by rfl) (by decide) ?_
    refine pw_aload_n (q := 58) (j := 0) C dX10_mason_57 rfl rfl rfl ?_
    refine pw_getf (q := 61) C dX10_mason_58 fX10_19 a0 (by rfl) rfl ?_
    refine pw_getf (q := 64) C dX10_mason_61 fX10_95 hG.1 (by rfl) rfl ?_
    refine pw_iconst_n (q := 65) C 1 dX10_mason_64 (by decide +kernel) rfl ?_
    refine pw_iload_n (q := 66) (j := 1) C dX10_mason_65 rfl rfl rfl ?_
    refine pw_iconst_n (q := 67) C 3 dX10_mason_66 (by decide +kernel) rfl ?_
    refine pw_iconst_n (q := 68) C 3 dX10_mason_67 (by decide +kernel) rfl ?_
    refine pw_rd (q := 71) (cr_v (j := iX8_countBoth) C dX10_mason_68 lX10_147 mX8_countBoth (ro_mk (by decide) (by decide)) hG.2.2.2.1 rfl (g_cM hG hr hI (by omega) (by omega)) rfl rfl (Nat.le_of_ble_eq_true rfl) ⟨by omega, by omega⟩) rfl ?_
    exact pw_iret C dX10_mason_71 rfl ⟨by omega, by omega⟩ (RV.mk (by rfl) rfl)
  · refine pw_tableIn (q := 0) 72 C dX10_mason_6 (by decide +kernel) (by decide +kernel) (by rfl) (by decide) ?_
    refine pw_aload_n (q := 73) (j := 0) C dX10_mason_72 rfl rfl rfl ?_
    refine pw_getf (q := 76) C dX10_mason_73 fX10_19 a0 (by rfl) rfl ?_
    refine pw_iload_n (q := 77) (j := 1) C dX10_mason_76 rfl rfl rfl ?_
    refine pw_rd (q := 80) (cr_v (j := iX2_badMarks) C dX10_mason_77 lX10_159 mX2_badMarks (ro_mk (by decide) (by decide)) hG.1 rfl (k_badMarks hL hI hc) rfl rfl (Nat.le_of_ble_eq_true rfl) ⟨by omega, by omega⟩) rfl ?_
    exact pw_iret C dX10_mason_80 rfl ⟨by omega, by omega⟩ (RV.mk (by rfl) rfl)
set_option maxHeartbeats 200000 in
set_option maxRecDepth 100000 in
theorem r_stone {M : PH} {x D : Nat} {S : St} (hX : RepX M x S) (hS : SInv D S) {c k : Nat} (hc : c < sP S 7) (hk : k ≤ 5) : Run iX10_stone [.ref x, .int (nI c), .int (nI k)] M 0 0 (RV (.int (nI (sP S (50 + 6 * c + k)))) (fun M1 => M1 = M)) := by
  obtain ⟨a0, ax, aT, hL, ⟨aQ, aq⟩, ⟨nx, aR⟩, aS, aL, aW, aF⟩ := id hX
  obtain ⟨fc, fm, fs, hG, hr⟩ := id hL
  have hI := hS.1.1
  have hb := hI.b
  refine Run.of (l0 := [some (.ref x), some (.int (nI c)), some (.int (nI k))]) (by decide +kernel) (Nat.le_of_ble_eq_true rfl) (by rfl) (fun Γ G C => ?_)
  refine pw_aload_n (q := 1) (j := 0) C dX10_stone_0 rfl rfl rfl ?_
  refine pw_iload_n (q := 2) (j := 1) C dX10_stone_1 rfl rfl rfl ?_
  refine pw_void (q := 5) (cr_v (j := iX10_requireStone) C dX10_stone_2 lX10_164 mX10_requireStone (ro_mk (by decide) (by decide)) a0 rfl (q_stone hX hS hc) rfl rfl (Nat.le_of_ble_eq_true rfl) ⟨by omega, by omega⟩) rfl (fun M2 e2 => ?_)
  subst e2
  refine pw_iload_n (q := 6) (j := 2) C dX10_stone_5 rfl rfl rfl ?_
  refine pw_iconst_n (q := 7) C 0 dX10_stone_6 (by decide +kernel) rfl ?_
  refine pw_iconst_n (q := 8) C 5 dX10_stone_7 (by decide +kernel) rfl ?_
  refine pw_rd (q := 11) (cr_s (j := iX10_isWithin) C dX10_stone_8 lX10_47 mX10_isWithin (ro_mk (by decide) (by decide))  (i_in (inW_i (Nat.zero_le k) hk (by omega))) rfl rfl (Nat.le_of_ble_eq_true rfl) ⟨by omega, by omega⟩) rfl ?_
  refine pw_if_ne_n (q := 14) 24 C dX10_stone_11 (by decide) rfl (by omega) (fun g11 => ?_) (fun g11 => absurd g11 (fun q => absurd q (by decide)))
  refine pw_aload_n (q := 25) (j := 0) C dX10_stone_24 rfl rfl rfl ?_
  refine pw_getf (q := 28) C dX10_stone_25 fX10_19 a0 (by rfl) rfl ?_
  refine pw_getf (q := 31) C dX10_stone_28 fX10_95 hG.1 (by rfl) rfl ?_
  refine pw_iload_n (q := 32) (j := 1) C dX10_stone_31 rfl rfl rfl ?_
  refine pw_iload_n (q := 33) (j := 2) C dX10_stone_32 rfl rfl rfl ?_
  refine pw_rd (q := 36) (cr_v (j := iX8_get) C dX10_stone_33 lX10_144 mX8_get (ro_mk (by decide) (by decide)) hG.2.2.2.1 rfl (g_s hG hr hc (by omega)) rfl rfl (Nat.le_of_ble_eq_true rfl) ⟨by omega, by omega⟩) rfl ?_
  exact pw_iret C dX10_stone_36 rfl ⟨by omega, by omega⟩ (RV.mk (by rfl) rfl)
set_option maxHeartbeats 200000 in
set_option maxRecDepth 100000 in
theorem r_why {M : PH} {x D : Nat} {S : St} (hX : RepX M x S) (hS : SInv D S) {c : Nat} (hc : c < sP S 7) : Run iX10_whyNotSet [.ref x, .int (nI c)] M 0 0 (RV (.int (nI (why (sP S) c))) (fun M1 => M1 = M)) := by
  obtain ⟨a0, ax, aT, hL, ⟨aQ, aq⟩, ⟨nx, aR⟩, aS, aL, aW, aF⟩ := id hX
  obtain ⟨fc, fm, fs, hG, hr⟩ := id hL
  have hI := hS.1.1
  have hb := hI.b
  refine Run.of (l0 := [some (.ref x), some (.int (nI c))]) (by decide +kernel) (Nat.le_of_ble_eq_true rfl) (by rfl) (fun Γ G C => ?_)
  refine pw_aload_n (q := 1) (j := 0) C dX10_whyNotSet_0 rfl rfl rfl ?_
  refine pw_iload_n (q := 2) (j := 1) C dX10_whyNotSet_1 rfl rfl rfl ?_
  refine pw_void (q := 5) (cr_v (j := iX10_requireStone) C dX10_whyNotSet_2 lX10_164 mX10_requireStone (ro_mk (by decide) (by decide)) a0 rfl (q_stone hX hS hc) rfl rfl (Nat.le_of_ble_eq_true rfl) ⟨by omega, by omega⟩) rfl (fun M2 e2 => ?_)
  subst e2
  refine pw_aload_n (q := 6) (j := 0) C dX10_whyNotSet_5 rfl rfl rfl ?_
  refine pw_getf (q := 9) C dX10_whyNotSet_6 fX10_19 a0 (by rfl) rfl ?_
  refine pw_iload_n (q := 10) (j := 1) C dX10_whyNotSet_9 rfl rfl rfl ?_
  refine pw_rd (q := 13) (cr_v (j := iX2_hindrance) C dX10_whyNotSet_10 lX10_167 mX2_hindrance (ro_mk (by decide) (by decide)) hG.1 rfl (k_hindrance_in hL hI hc) rfl rfl (Nat.le_of_ble_eq_true rfl) ⟨by omega, by omega⟩) rfl ?_
  exact pw_iret C dX10_whyNotSet_13 rfl ⟨by omega, by omega⟩ (RV.mk (by rfl) rfl)
set_option maxHeartbeats 200000 in
set_option maxRecDepth 100000 in
theorem r_cheapest {M : PH} {x D : Nat} {S : St} (hX : RepX M x S) (hS : SInv D S) {c : Nat} (hc : c < sP S 5) : Run iX10_cheapest [.ref x, .int (nI c)] M 0 0 (RV (.int (optI (cheapN (sP S) c (sP S 6)))) (fun M1 => M1 = M)) := by
  obtain ⟨a0, ax, aT, hL, ⟨aQ, aq⟩, ⟨nx, aR⟩, aS, aL, aW, aF⟩ := id hX
  obtain ⟨fc, fm, fs, hG, hr⟩ := id hL
  have hI := hS.1.1
  have hb := hI.b
  refine Run.of (l0 := [some (.ref x), some (.int (nI c))]) (by decide +kernel) (Nat.le_of_ble_eq_true rfl) (by rfl) (fun Γ G C => ?_)
  refine pw_aload_n (q := 1) (j := 0) C dX10_cheapest_0 rfl rfl rfl ?_
  refine pw_iload_n (q := 2) (j := 1) C dX10_cheapest_1 rfl rfl rfl ?_
  refine pw_void (q := 5) (cr_v (j := iX10_requireCourse) C dX10_cheapest_2 lX10_140 mX10_requireCourse (ro_mk (by decide) (by decide)) a0 rfl (q_course hX hS hc) rfl rfl (Nat.le_of_ble_eq_true rfl) ⟨by omega, by omega⟩) rfl (fun M2 e2 => ?_)
  subst e2
  refine pw_aload_n (q := 6) (j := 0) C dX10_cheapest_5 rfl rfl rfl ?_
  refine pw_getf (q := 9) C dX10_cheapest_6 fX10_19 a0 (by rfl) rfl ?_
  refine pw_iload_n (q := 10) (j := 1) C dX10_cheapest_9 rfl rfl rfl ?_
  refine pw_rd (q := 13) (cr_v (j := iX2_cheapestFor) C dX10_cheapest_10 lX10_261 mX2_cheapestFor (ro_mk (by decide) (by decide)) hG.1 rfl (k_cheapest hL hI hc) rfl rfl (Nat.le_of_ble_eq_true rfl) ⟨by omega, by omega⟩) rfl ?_
  exact pw_iret C dX10_cheapest_13 rfl ⟨by omega, by omega⟩ (RV.mk (by rfl) rfl)
set_option maxHeartbeats 200000 in
set_option maxRecDepth 100000 in
theorem r_earn {M : PH} {x D : Nat} {S : St} (hX : RepX M x S) (hS : SInv D S) {b : Nat} (hc : b ≤ 9) : Run iX10_wouldEarn [.ref x, .int (nI b)] M 0 0 (RV (.int (nI (earn (sP S) b))) (fun M1 => M1 = M)) := by
  obtain ⟨a0, ax, aT, hL, ⟨aQ, aq⟩, ⟨nx, aR⟩, aS, aL, aW, aF⟩ := id hX
  obtain ⟨fc, fm, fs, hG, hr⟩ := id hL
  have hI := hS.1.1
  have hb := hI.b
  refine Run.of (l0 := [some (.ref x), some (.int (nI b))]) (by decide +kernel) (Nat.le_of_ble_eq_true rfl) (by rfl) (fun Γ G C => ?_)
  refine pw_iload_n (q := 1) (j := 1) C dX10_wouldEarn_0 rfl rfl rfl ?_
  refine pw_void (q := 4) (cr_s (j := iX10_requireBound) C dX10_wouldEarn_1 lX10_198 mX10_requireBound (ro_mk (by decide) (by decide))  (q_Bound (inW_i (Nat.zero_le b) hc (by omega))) rfl rfl (Nat.le_of_ble_eq_true rfl) ⟨by omega, by omega⟩) rfl (fun M1 e1 => ?_)
  subst e1
  refine pw_aload_n (q := 5) (j := 0) C dX10_wouldEarn_4 rfl rfl rfl ?_
  refine pw_getf (q := 8) C dX10_wouldEarn_5 fX10_19 a0 (by rfl) rfl ?_
  refine pw_iload_n (q := 9) (j := 1) C dX10_wouldEarn_8 rfl rfl rfl ?_
  refine pw_rd (q := 12) (cr_v (j := iX2_earnings) C dX10_wouldEarn_9 lX10_273 mX2_earnings (ro_mk (by decide) (by decide)) hG.1 rfl (k_earnings hL hI (by omega)) rfl rfl (Nat.le_of_ble_eq_true rfl) ⟨by omega, by omega⟩) rfl ?_
  exact pw_iret C dX10_wouldEarn_12 rfl ⟨by omega, by omega⟩ (RV.mk (by rfl) rfl)
set_option maxHeartbeats 200000 in
set_option maxRecDepth 100000 in
theorem r_costLeft {M : PH} {x D : Nat} {S : St} (hX : RepX M x S) (hS : SInv D S) : Run iX10_costLeft [.ref x] M 0 0 (RV (.int (cost (sP S))) (fun M1 => M1 = M)) := by
  obtain ⟨a0, ax, aT, hL, ⟨aQ, aq⟩, ⟨nx, aR⟩, aS, aL, aW, aF⟩ := id hX
  obtain ⟨fc, fm, fs, hG, hr⟩ := id hL
  have hI := hS.1.1
  have hb := hI.b
  refine Run.of (l0 := [some (.ref x)]) (by decide +kernel) (Nat.le_of_ble_eq_true rfl) (by rfl) (fun Γ G C => ?_)
  refine pw_aload_n (q := 1) (j := 0) C dX10_costLeft_0 rfl rfl rfl ?_
  refine pw_getf (q := 4) C dX10_costLeft_1 fX10_19 a0 (by rfl) rfl ?_
  refine pw_rd (q := 7) (cr_v (j := iX2_costOfLacking) C dX10_costLeft_4 lX10_264 mX2_costOfLacking (ro_mk (by decide) (by decide)) hG.1 rfl (k_cost hL hI) rfl rfl (Nat.le_of_ble_eq_true rfl) ⟨by omega, by omega⟩) rfl ?_
  exact pw_iret C dX10_costLeft_7 rfl ⟨by omega, by omega⟩ (RV.mk (by rfl) rfl)
set_option maxHeartbeats 200000 in
set_option maxRecDepth 100000 in
theorem r_canSet {M : PH} {x D : Nat} {S : St} (hX : RepX M x S) (hS : SInv D S) : Run iX10_canSet [.ref x] M 0 0 (RV (.int (nI (canSetN (sP S)))) (fun M1 => M1 = M)) := by
  obtain ⟨a0, ax, aT, hL, ⟨aQ, aq⟩, ⟨nx, aR⟩, aS, aL, aW, aF⟩ := id hX
  obtain ⟨fc, fm, fs, hG, hr⟩ := id hL
  have hI := hS.1.1
  have hb := hI.b
  refine Run.of (l0 := [some (.ref x)]) (by decide +kernel) (Nat.le_of_ble_eq_true rfl) (by rfl) (fun Γ G C => ?_)
  refine pw_aload_n (q := 1) (j := 0) C dX10_canSet_0 rfl rfl rfl ?_
  refine pw_getf (q := 4) C dX10_canSet_1 fX10_19 a0 (by rfl) rfl ?_
  refine pw_rd (q := 7) (cr_v (j := iX2_settable) C dX10_canSet_4 lX10_270 mX2_settable (ro_mk (by decide) (by decide)) hG.1 rfl (k_settable hL hI) rfl rfl (Nat.le_of_ble_eq_true rfl) ⟨by omega, by omega⟩) rfl ?_
  exact pw_iret C dX10_canSet_7 rfl ⟨by omega, by omega⟩ (RV.mk (by rfl) rfl)
set_option maxHeartbeats 200000 in
set_option maxRecDepth 100000 in
theorem v_about {M : PH} {x D : Nat} {S : St} (hX : RepX M x S) (hS : SInv D S) {k : Nat} (hk : k ≤ 11) : Run iL_about [.ref x, .int (nI k)] M 0 0 (RV (.int (nI (aboutV (sP S) k))) (fun M1 => M1 = M)) := by
  refine Run.of (l0 := [some (.ref x), some (.int (nI k))]) (by decide +kernel) (Nat.le_of_ble_eq_true rfl) (by rfl) (fun Γ G C => ?_)
  refine pw_aload_n (q := 1) (j := 0) C dL_about_0 rfl rfl rfl ?_
  refine pw_iconst_n (q := 2) C 2 dL_about_1 (by decide +kernel) rfl ?_
  refine pw_iload_n (q := 3) (j := 1) C dL_about_2 rfl rfl rfl ?_
  refine pw_iconst_n (q := 4) C 0 dL_about_3 (by decide +kernel) rfl ?_
  refine pw_iconst_n (q := 5) C 0 dL_about_4 (by decide +kernel) rfl ?_
  refine pw_iconst_n (q := 6) C 0 dL_about_5 (by decide +kernel) rfl ?_
  refine pw_rd (q := 9) (cr_s (j := iL_call) C dL_about_6 lL_170 mL_call (ro_mk (by decide) (by decide))  (cp_about (lp_tryAbout (r_about hX hS hk) hX.1)) rfl rfl (Nat.le_of_ble_eq_true rfl) ⟨by omega, by omega⟩) rfl ?_
  exact pw_iret C dL_about_9 rfl ⟨by omega, by omega⟩ (RV.mk (by rfl) rfl)
set_option maxHeartbeats 200000 in
set_option maxRecDepth 100000 in
theorem v_course {M : PH} {x D : Nat} {S : St} (hX : RepX M x S) (hS : SInv D S) {c k : Nat} (hc : c < sP S 5) (hk : k ≤ 6) : Run iL_course [.ref x, .int (nI c), .int (nI k)] M 0 0 (RV (.int (nI (courseV (sP S) c k))) (fun M1 => M1 = M)) := by
  refine Run.of (l0 := [some (.ref x), some (.int (nI c)), some (.int (nI k))]) (by decide +kernel) (Nat.le_of_ble_eq_true rfl) (by rfl) (fun Γ G C => ?_)
  refine pw_aload_n (q := 1) (j := 0) C dL_course_0 rfl rfl rfl ?_
  refine pw_iconst_n (q := 2) C 3 dL_course_1 (by decide +kernel) rfl ?_
  refine pw_iload_n (q := 3) (j := 1) C dL_course_2 rfl rfl rfl ?_
  refine pw_iload_n (q := 4) (j := 2) C dL_course_3 rfl rfl rfl ?_
  refine pw_iconst_n (q := 5) C 0 dL_course_4 (by decide +kernel) rfl ?_
  refine pw_iconst_n (q := 6) C 0 dL_course_5 (by decide +kernel) rfl ?_
  refine pw_rd (q := 9) (cr_s (j := iL_call) C dL_course_6 lL_170 mL_call (ro_mk (by decide) (by decide))  (cp_course (lp_tryCourse (r_course hX hS hc hk) hX.1)) rfl rfl (Nat.le_of_ble_eq_true rfl) ⟨by omega, by omega⟩) rfl ?_
  exact pw_iret C dL_course_9 rfl ⟨by omega, by omega⟩ (RV.mk (by rfl) rfl)
set_option maxHeartbeats 200000 in
set_option maxRecDepth 100000 in
theorem v_mason {M : PH} {x D : Nat} {S : St} (hX : RepX M x S) (hS : SInv D S) {c k : Nat} (hc : c < sP S 6) (hk : k ≤ 5) : Run iL_mason [.ref x, .int (nI c), .int (nI k)] M 0 0 (RV (.int (nI (masonV (sP S) c k))) (fun M1 => M1 = M)) := by
  refine Run.of (l0 := [some (.ref x), some (.int (nI c)), some (.int (nI k))]) (by decide +kernel) (Nat.le_of_ble_eq_true rfl) (by rfl) (fun Γ G C => ?_)
  refine pw_aload_n (q := 1) (j := 0) C dL_mason_0 rfl rfl rfl ?_
  refine pw_iconst_n (q := 2) C 4 dL_mason_1 (by decide +kernel) rfl ?_
  refine pw_iload_n (q := 3) (j := 1) C dL_mason_2 rfl rfl rfl ?_
  refine pw_iload_n (q := 4) (j := 2) C dL_mason_3 rfl rfl rfl ?_
  refine pw_iconst_n (q := 5) C 0 dL_mason_4 (by decide +kernel) rfl ?_
  refine pw_iconst_n (q := 6) C 0 dL_mason_5 (by decide +kernel) rfl ?_
  refine pw_rd (q := 9) (cr_s (j := iL_call) C dL_mason_6 lL_170 mL_call (ro_mk (by decide) (by decide))  (cp_mason (lp_tryMason (r_mason hX hS hc hk) hX.1)) rfl rfl (Nat.le_of_ble_eq_true rfl) ⟨by omega, by omega⟩) rfl ?_
  exact pw_iret C dL_mason_9 rfl ⟨by omega, by omega⟩ (RV.mk (by rfl) rfl)
set_option maxHeartbeats 200000 in
set_option maxRecDepth 100000 in
theorem v_stone {M : PH} {x D : Nat} {S : St} (hX : RepX M x S) (hS : SInv D S) {c k : Nat} (hc : c < sP S 7) (hk : k ≤ 5) : Run iL_stone [.ref x, .int (nI c), .int (nI k)] M 0 0 (RV (.int (nI (sP S (50 + 6 * c + k)))) (fun M1 => M1 = M)) := by
  refine Run.of (l0 := [some (.ref x), some (.int (nI c)), some (.int (nI k))]) (by decide +kernel) (Nat.le_of_ble_eq_true rfl) (by rfl) (fun Γ G C => ?_)
  refine pw_aload_n (q := 1) (j := 0) C dL_stone_0 rfl rfl rfl ?_
  refine pw_iconst_n (q := 2) C 5 dL_stone_1 (by decide +kernel) rfl ?_
  refine pw_iload_n (q := 3) (j := 1) C dL_stone_2 rfl rfl rfl ?_
  refine pw_iload_n (q := 4) (j := 2) C dL_stone_3 rfl rfl rfl ?_
  refine pw_iconst_n (q := 5) C 0 dL_stone_4 (by decide +kernel) rfl ?_
  refine pw_iconst_n (q := 6) C 0 dL_stone_5 (by decide +kernel) rfl ?_
  refine pw_rd (q := 9) (cr_s (j := iL_call) C dL_stone_6 lL_170 mL_call (ro_mk (by decide) (by decide))  (cp_stone (lp_tryStone (r_stone hX hS hc hk) hX.1)) rfl rfl (Nat.le_of_ble_eq_true rfl) ⟨by omega, by omega⟩) rfl ?_
  exact pw_iret C dL_stone_9 rfl ⟨by omega, by omega⟩ (RV.mk (by rfl) rfl)
theorem v_a0 {M : PH} {x D : Nat} {S : St} (hX : RepX M x S) (hS : SInv D S) : Run iL_about [.ref x, .int (nI 0)] M 0 0 (RV (.int (nI (sP S 5))) (fun M1 => M1 = M)) := v_about hX hS (k := 0) (by omega)
theorem v_a1 {M : PH} {x D : Nat} {S : St} (hX : RepX M x S) (hS : SInv D S) : Run iL_about [.ref x, .int (nI 1)] M 0 0 (RV (.int (nI (sP S 6))) (fun M1 => M1 = M)) := v_about hX hS (k := 1) (by omega)
theorem v_a2 {M : PH} {x D : Nat} {S : St} (hX : RepX M x S) (hS : SInv D S) : Run iL_about [.ref x, .int (nI 2)] M 0 0 (RV (.int (nI (sP S 7))) (fun M1 => M1 = M)) := v_about hX hS (k := 2) (by omega)
theorem v_a3 {M : PH} {x D : Nat} {S : St} (hX : RepX M x S) (hS : SInv D S) : Run iL_about [.ref x, .int (nI 3)] M 0 0 (RV (.int (nI (sP S 1))) (fun M1 => M1 = M)) := v_about hX hS (k := 3) (by omega)
theorem v_a4 {M : PH} {x D : Nat} {S : St} (hX : RepX M x S) (hS : SInv D S) : Run iL_about [.ref x, .int (nI 4)] M 0 0 (RV (.int (nI (sP S 2))) (fun M1 => M1 = M)) := v_about hX hS (k := 4) (by omega)
theorem v_a5 {M : PH} {x D : Nat} {S : St} (hX : RepX M x S) (hS : SInv D S) : Run iL_about [.ref x, .int (nI 5)] M 0 0 (RV (.int (nI (sP S 0))) (fun M1 => M1 = M)) := v_about hX hS (k := 5) (by omega)
theorem v_a6 {M : PH} {x D : Nat} {S : St} (hX : RepX M x S) (hS : SInv D S) : Run iL_about [.ref x, .int (nI 6)] M 0 0 (RV (.int (nI (compl (sP S)))) (fun M1 => M1 = M)) := v_about hX hS (k := 6) (by omega)
theorem v_a7 {M : PH} {x D : Nat} {S : St} (hX : RepX M x S) (hS : SInv D S) : Run iL_about [.ref x, .int (nI 7)] M 0 0 (RV (.int (nI (cntS (sP S) 3))) (fun M1 => M1 = M)) := v_about hX hS (k := 7) (by omega)
theorem v_a8 {M : PH} {x D : Nat} {S : St} (hX : RepX M x S) (hS : SInv D S) : Run iL_about [.ref x, .int (nI 8)] M 0 0 (RV (.int (nI (cntS (sP S) 4))) (fun M1 => M1 = M)) := v_about hX hS (k := 8) (by omega)
theorem v_a9 {M : PH} {x D : Nat} {S : St} (hX : RepX M x S) (hS : SInv D S) : Run iL_about [.ref x, .int (nI 9)] M 0 0 (RV (.int (nI (owedAll (sP S)))) (fun M1 => M1 = M)) := v_about hX hS (k := 9) (by omega)
theorem v_a10 {M : PH} {x D : Nat} {S : St} (hX : RepX M x S) (hS : SInv D S) : Run iL_about [.ref x, .int (nI 10)] M 0 0 (RV (.int (nI (sP S 3))) (fun M1 => M1 = M)) := v_about hX hS (k := 10) (by omega)
theorem v_a11 {M : PH} {x D : Nat} {S : St} (hX : RepX M x S) (hS : SInv D S) : Run iL_about [.ref x, .int (nI 11)] M 0 0 (RV (.int (nI (sP S 4))) (fun M1 => M1 = M)) := v_about hX hS (k := 11) (by omega)
theorem v_c0 {M : PH} {x D : Nat} {S : St} (hX : RepX M x S) (hS : SInv D S) {c : Nat} (hc : c < sP S 5) : Run iL_course [.ref x, .int (nI c), .int (nI 0)] M 0 0 (RV (.int (nI (sP S (8 + 3 * c)))) (fun M1 => M1 = M)) := v_course hX hS hc (k := 0) (by omega)
theorem v_c1 {M : PH} {x D : Nat} {S : St} (hX : RepX M x S) (hS : SInv D S) {c : Nat} (hc : c < sP S 5) : Run iL_course [.ref x, .int (nI c), .int (nI 1)] M 0 0 (RV (.int (nI (sP S (8 + 3 * c + 1)))) (fun M1 => M1 = M)) := v_course hX hS hc (k := 1) (by omega)
theorem v_c2 {M : PH} {x D : Nat} {S : St} (hX : RepX M x S) (hS : SInv D S) {c : Nat} (hc : c < sP S 5) : Run iL_course [.ref x, .int (nI c), .int (nI 2)] M 0 0 (RV (.int (nI (sP S (8 + 3 * c + 2)))) (fun M1 => M1 = M)) := v_course hX hS hc (k := 2) (by omega)
theorem v_c3 {M : PH} {x D : Nat} {S : St} (hX : RepX M x S) (hS : SInv D S) {c : Nat} (hc : c < sP S 5) : Run iL_course [.ref x, .int (nI c), .int (nI 3)] M 0 0 (RV (.int (nI (cntC (sP S) c 3))) (fun M1 => M1 = M)) := v_course hX hS hc (k := 3) (by omega)
theorem v_c4 {M : PH} {x D : Nat} {S : St} (hX : RepX M x S) (hS : SInv D S) {c : Nat} (hc : c < sP S 5) : Run iL_course [.ref x, .int (nI c), .int (nI 4)] M 0 0 (RV (.int (nI (lacks (sP S) c))) (fun M1 => M1 = M)) := v_course hX hS hc (k := 4) (by omega)
theorem v_c5 {M : PH} {x D : Nat} {S : St} (hX : RepX M x S) (hS : SInv D S) {c : Nat} (hc : c < sP S 5) : Run iL_course [.ref x, .int (nI c), .int (nI 5)] M 0 0 (RV (.int (nI (cntC (sP S) c 0))) (fun M1 => M1 = M)) := v_course hX hS hc (k := 5) (by omega)
theorem v_c6 {M : PH} {x D : Nat} {S : St} (hX : RepX M x S) (hS : SInv D S) {c : Nat} (hc : c < sP S 5) : Run iL_course [.ref x, .int (nI c), .int (nI 6)] M 0 0 (RV (.int (nI (cntC (sP S) c 2))) (fun M1 => M1 = M)) := v_course hX hS hc (k := 6) (by omega)
theorem v_m0 {M : PH} {x D : Nat} {S : St} (hX : RepX M x S) (hS : SInv D S) {c : Nat} (hc : c < sP S 6) : Run iL_mason [.ref x, .int (nI c), .int (nI 0)] M 0 0 (RV (.int (nI (sP S (26 + 4 * c)))) (fun M1 => M1 = M)) := v_mason hX hS hc (k := 0) (by omega)
theorem v_m1 {M : PH} {x D : Nat} {S : St} (hX : RepX M x S) (hS : SInv D S) {c : Nat} (hc : c < sP S 6) : Run iL_mason [.ref x, .int (nI c), .int (nI 1)] M 0 0 (RV (.int (nI (sP S (26 + 4 * c + 1)))) (fun M1 => M1 = M)) := v_mason hX hS hc (k := 1) (by omega)
theorem v_m2 {M : PH} {x D : Nat} {S : St} (hX : RepX M x S) (hS : SInv D S) {c : Nat} (hc : c < sP S 6) : Run iL_mason [.ref x, .int (nI c), .int (nI 2)] M 0 0 (RV (.int (nI (sP S (26 + 4 * c + 2)))) (fun M1 => M1 = M)) := v_mason hX hS hc (k := 2) (by omega)
theorem v_m3 {M : PH} {x D : Nat} {S : St} (hX : RepX M x S) (hS : SInv D S) {c : Nat} (hc : c < sP S 6) : Run iL_mason [.ref x, .int (nI c), .int (nI 3)] M 0 0 (RV (.int (nI (sP S (26 + 4 * c + 3)))) (fun M1 => M1 = M)) := v_mason hX hS hc (k := 3) (by omega)
theorem v_m4 {M : PH} {x D : Nat} {S : St} (hX : RepX M x S) (hS : SInv D S) {c : Nat} (hc : c < sP S 6) : Run iL_mason [.ref x, .int (nI c), .int (nI 4)] M 0 0 (RV (.int (nI (cntM (sP S) c 3))) (fun M1 => M1 = M)) := v_mason hX hS hc (k := 4) (by omega)
theorem v_m5 {M : PH} {x D : Nat} {S : St} (hX : RepX M x S) (hS : SInv D S) {c : Nat} (hc : c < sP S 6) : Run iL_mason [.ref x, .int (nI c), .int (nI 5)] M 0 0 (RV (.int (nI (cntM (sP S) c 2 + cntM (sP S) c 4))) (fun M1 => M1 = M)) := v_mason hX hS hc (k := 5) (by omega)
theorem v_s0 {M : PH} {x D : Nat} {S : St} (hX : RepX M x S) (hS : SInv D S) {c : Nat} (hc : c < sP S 7) : Run iL_stone [.ref x, .int (nI c), .int (nI 0)] M 0 0 (RV (.int (nI (sP S (50 + 6 * c)))) (fun M1 => M1 = M)) := v_stone hX hS hc (k := 0) (by omega)
theorem v_s1 {M : PH} {x D : Nat} {S : St} (hX : RepX M x S) (hS : SInv D S) {c : Nat} (hc : c < sP S 7) : Run iL_stone [.ref x, .int (nI c), .int (nI 1)] M 0 0 (RV (.int (nI (sP S (50 + 6 * c + 1)))) (fun M1 => M1 = M)) := v_stone hX hS hc (k := 1) (by omega)
theorem v_s2 {M : PH} {x D : Nat} {S : St} (hX : RepX M x S) (hS : SInv D S) {c : Nat} (hc : c < sP S 7) : Run iL_stone [.ref x, .int (nI c), .int (nI 2)] M 0 0 (RV (.int (nI (sP S (50 + 6 * c + 2)))) (fun M1 => M1 = M)) := v_stone hX hS hc (k := 2) (by omega)
theorem v_s3 {M : PH} {x D : Nat} {S : St} (hX : RepX M x S) (hS : SInv D S) {c : Nat} (hc : c < sP S 7) : Run iL_stone [.ref x, .int (nI c), .int (nI 3)] M 0 0 (RV (.int (nI (sP S (50 + 6 * c + 3)))) (fun M1 => M1 = M)) := v_stone hX hS hc (k := 3) (by omega)
theorem v_s4 {M : PH} {x D : Nat} {S : St} (hX : RepX M x S) (hS : SInv D S) {c : Nat} (hc : c < sP S 7) : Run iL_stone [.ref x, .int (nI c), .int (nI 4)] M 0 0 (RV (.int (nI (sP S (50 + 6 * c + 4)))) (fun M1 => M1 = M)) := v_stone hX hS hc (k := 4) (by omega)
theorem v_s5 {M : PH} {x D : Nat} {S : St} (hX : RepX M x S) (hS : SInv D S) {c : Nat} (hc : c < sP S 7) : Run iL_stone [.ref x, .int (nI c), .int (nI 5)] M 0 0 (RV (.int (nI (sP S (50 + 6 * c + 5)))) (fun M1 => M1 = M)) := v_stone hX hS hc (k := 5) (by omega)
theorem v_why {M : PH} {x D : Nat} {S : St} (hX : RepX M x S) (hS : SInv D S) {c : Nat} (hc : c < sP S 7) {b c9 d : Int32} : Run iL_call [.ref x, .int (nI 6), .int (nI c), .int b, .int c9, .int d] M 0 0 (RV (.int (nI (why (sP S) c))) (fun M1 => M1 = M)) := cp_why (lp_tryWhy (r_why hX hS hc) hX.1)
theorem v_cheapest {M : PH} {x D : Nat} {S : St} (hX : RepX M x S) (hS : SInv D S) {c : Nat} (hc : c < sP S 5) {b c9 d : Int32} : Run iL_call [.ref x, .int (nI 18), .int (nI c), .int b, .int c9, .int d] M 0 0 (RV (.int (optI (cheapN (sP S) c (sP S 6)))) (fun M1 => M1 = M)) := cp_cheapest (lp_tryCheapest (r_cheapest hX hS hc) hX.1)
theorem v_earn {M : PH} {x D : Nat} {S : St} (hX : RepX M x S) (hS : SInv D S) {c : Nat} (hc : c ≤ 9) {b c9 d : Int32} : Run iL_call [.ref x, .int (nI 19), .int (nI c), .int b, .int c9, .int d] M 0 0 (RV (.int (nI (earn (sP S) c))) (fun M1 => M1 = M)) := cp_earn (lp_tryEarn (r_earn hX hS hc) hX.1)
