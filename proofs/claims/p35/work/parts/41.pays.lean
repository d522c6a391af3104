/-! The law's pays. -/
theorem QX.aq {M : PH} {x : Nat} {E : Nat → String} {v : Int32} {S1 : St} {i : MI} {as : List Value} {mc ms : Nat} (h : Run i as M mc ms (QX M x E (0, v, S1))) : Run i as M mc ms (AQ M x v S1) := by
  have e : QX M x E (0, v, S1) = AQ M x v S1 := by
    funext o M1
    refine propext ⟨fun ⟨a, b, c⟩ => ⟨c, a, b⟩, fun ⟨c, a, b⟩ => ⟨a, b, c⟩⟩
  rw [← e]
  exact h
theorem a_pay {M : PH} {x D : Nat} {S : St} (hX : RepX M x S) (hS : SInv D S) : Run iX10_pay [.ref x] M 2 12 (AQ M x (nI (owedAll (sP S))) (wA S (payP (sP S)))) := QX.aq (p_pay hX hS)
theorem a_day {M : PH} {x D : Nat} {S : St} (hX : RepX M x S) (hS : SInv D S) {fr : Nat} (hf : fr ≤ 1) : Run iX10_nextDay [.ref x, .int (nI fr)] M 2 12 (AQ M x (nI (sP S 1 + 1)) (wA S (dayP (sP S) fr))) := QX.aq (p_nextDay hX hS hf)
theorem pay_owed {P : Nat → Nat} (hb : P 6 ≤ 6) : owedAll (payP P) = 0 := by
  unfold owedAll
  rw [payP_ne (k := 6) (by omega) (by omega), sumN_cong (fun k hk => payP_owed hk)]
  exact sumN_0 _
theorem pay_day {P : Nat → Nat} (hb : P 6 ≤ 6) : owedAll (dayP (payP P) 1) = 2 * sumN (fun m => P (26 + 4 * m)) (P 6) := by
  have e6 : payP P 6 = P 6 := payP_ne (by omega) (by omega)
  unfold owedAll
  rw [dayP_ne (k := 6) (by omega) (by omega), e6]
  rw [sumN_cong (g := fun m => P (26 + 4 * m) + P (26 + 4 * m)) (fun m hm => by
    rw [dayP_owed (by rw [e6]; exact hm), payP_owed hm, if_pos rfl, payP_ne (k := 26 + 4 * m) (by omega) (by omega)]
    omega), sumN_add]
  omega
theorem rates_le {P : Nat → Nat} (hI : Inv P) {n : Nat} (hn : n ≤ P 6) : sumN (fun m => P (26 + 4 * m)) n ≤ 54 := by
  have hb := hI.b
  refine Nat.le_trans (sumN_le (b := 9) (fun m hm => (hI.m (show m < P 6 by omega)).2.1)) ?_
  omega
theorem can_frost {P : Nat → Nat} (h : P 2 ≠ 0) : canSetN P = 0 := by
  unfold canSetN
  rw [if_pos h]
set_option maxHeartbeats 400000 in
set_option maxRecDepth 100000 in
theorem pays1 {Γ : CX} {G : GC} {Z : State → Prop} {mc ms k n : Nat} {M : PH} {x D : Nat} {S : St} (hI : Inv (sP S)) (hX : RepX M x (wA (wA S (payP (sP S))) (dayP (payP (sP S)) 1))) (hS : SInv D (wA (wA S (payP (sP S))) (dayP (payP (sP S)) 1))) (C : Cx Γ G iL_pays [] mc ms) (hkn : k ≤ mc ∧ n ≤ ms) (K : PW Γ G Z 104 [some (.ref x), some (.long (sumL (sP S))), none, some (.int (nI (owedAll (sP S)))), some (.int (nI (sP S 3))), some (.int (nI (1))), some (.int (nI (sumN (fun m => sP S (26 + 4 * m)) (sP S 6)))), some (.int (nI (sP S 6)))] [] M k n) : ∀ (d r : Nat), r + d = sP S 6 → ∀ a, a = sumN (fun m => sP S (26 + 4 * m)) r → PW Γ G Z 76 [some (.ref x), some (.long (sumL (sP S))), none, some (.int (nI (owedAll (sP S)))), some (.int (nI (sP S 3))), some (.int (nI (1))), some (.int (nI (a))), some (.int (nI (r)))] [] M k n := by
  have hb := hI.b
  have e6 : dayP (payP (sP S)) 1 6 = sP S 6 := (dayP_ne (by omega) (by rw [payP_ne (k := 6) (by omega) (by omega)]; omega)).trans (payP_ne (by omega) (by omega))
  intro d
  induction d with
  | zero =>
    intro r hr a ha
    obtain rfl : r = sP S 6 := by omega
    subst ha
    refine pw_iload (q := 78) C dL_pays_76 rfl rfl ?_
    refine pw_aload_n (q := 79) (j := 0) C dL_pays_78 rfl rfl rfl ?_
    refine pw_iconst_n (q := 80) C 1 dL_pays_79 (by decide +kernel) rfl ?_
    refine pw_rd (q := 83) (cr_s (j := iL_about) C dL_pays_80 lL_176 mL_about (ro_mk (by decide) (by decide))  (v_a1 hX hS) rfl rfl (Nat.le_of_ble_eq_true rfl) ⟨by omega, by omega⟩) rfl ?_
    rw [show sP (wA (wA S (payP (sP S))) (dayP (payP (sP S)) 1)) 6 = sP S 6 from e6]
    refine pw_icmp_ge_n (q := 86) 104 C dL_pays_83 (by decide) rfl (by omega) (by omega) (fun g83 => ?_) (fun g83 => absurd g83 (by omega))
    exact K
  | succ d ih =>
    intro r hr a ha
    have er : dayP (payP (sP S)) 1 (26 + 4 * r) = sP S (26 + 4 * r) := (dayP_ne (by omega) (by rw [payP_ne (k := 6) (by omega) (by omega)]; omega)).trans (payP_ne (by omega) (by omega))
    have q := rates_le hI (n := r) (by omega)
    refine pw_iload (q := 78) C dL_pays_76 rfl rfl ?_
    refine pw_aload_n (q := 79) (j := 0) C dL_pays_78 rfl rfl rfl ?_
    refine pw_iconst_n (q := 80) C 1 dL_pays_79 (by decide +kernel) rfl ?_
    refine pw_rd (q := 83) (cr_s (j := iL_about) C dL_pays_80 lL_176 mL_about (ro_mk (by decide) (by decide))  (v_a1 hX hS) rfl rfl (Nat.le_of_ble_eq_true rfl) ⟨by omega, by omega⟩) rfl ?_
    rw [show sP (wA (wA S (payP (sP S))) (dayP (payP (sP S)) 1)) 6 = sP S 6 from e6]
    refine pw_icmp_ge_n (q := 86) 104 C dL_pays_83 (by decide) rfl (by omega) (by omega) (fun g83 => absurd g83 (by omega)) (fun g83 => ?_)
    refine pw_iload (q := 88) C dL_pays_86 rfl rfl ?_
    refine pw_aload_n (q := 89) (j := 0) C dL_pays_88 rfl rfl rfl ?_
    refine pw_iload (q := 91) C dL_pays_89 rfl rfl ?_
    refine pw_iconst_n (q := 92) C 0 dL_pays_91 (by decide +kernel) rfl ?_
    refine pw_rd (q := 95) (cr_s (j := iL_mason) C dL_pays_92 lL_180 mL_mason (ro_mk (by decide) (by decide))  (v_m0 hX hS (show r < dayP (payP (sP S)) 1 6 by omega)) rfl rfl (Nat.le_of_ble_eq_true rfl) ⟨by omega, by omega⟩) rfl ?_
    rw [show sP (wA (wA S (payP (sP S))) (dayP (payP (sP S)) 1)) (26 + 4 * r) = sP S (26 + 4 * r) from er]
    refine pw_iadd_n (q := 96) C dL_pays_95 rfl ?_
    refine pw_istore (q := 98) C dL_pays_96 rfl (by decide) rfl ?_
    refine pw_iinc_n (q := 101) C 1 dL_pays_98 rfl (by decide +kernel) rfl (by decide) rfl ?_
    refine pw_goto (q := 0) 76 C dL_pays_101 (by decide) ?_
    exact ih (r + 1) (by omega) _ (by rw [ha, sumN])
set_option maxHeartbeats 200000 in
set_option maxRecDepth 100000 in
theorem v_pays {M : PH} {x D : Nat} {S : St} (hX : RepX M x S) (hG : SG D S) (hD : D < 80000) : Run iL_pays [.ref x] M 64 800 (RV (.int (nI 1)) (fun M1 => RepX M1 x (trim 2 S) ∧ Fr M M1 x)) := by
  have hS := hG.1
  have hI := hS.1.1
  have hb := hI.b
  have h14 := hX.m14
  have hF := hG.2.1
  have m1 := hF.owed
  have m2 : owedAll (sP S) ≤ 54000000 := by
    have m3 : sP S 6 * (100 * D) ≤ 6 * (100 * D) := Nat.mul_le_mul_right _ (by omega)
    omega
  have q3 := pay_owed (P := sP S) hb.2.2.2.1
  have q4 := pay_day (P := sP S) hb.2.2.2.1
  have q5 := rates_le hI (n := sP S 6) (Nat.le_refl _)
  have q6 : payP (sP S) 3 = sP S 3 + owedAll (sP S) := updN_at _ _ _
  have q7 : payP (sP S) 1 = sP S 1 := payP_ne (by omega) (by omega)
  refine Run.of (l0 := [some (.ref x), none, none, none, none, none, none, none]) (by decide +kernel) (Nat.le_of_ble_eq_true rfl) (by rfl) (fun Γ G C => ?_)
  refine pw_aload_n (q := 1) (j := 0) C dL_pays_0 rfl rfl rfl ?_
  refine pw_rd (q := 4) (cr_s (j := iL_sum) C dL_pays_1 lL_184 mL_sum (ro_mk (by decide) (by decide))  (v_sum hX hS) rfl rfl (Nat.le_of_ble_eq_true rfl) ⟨by omega, by omega⟩) rfl ?_
  refine pw_lstore_n (q := 5) (j := 1) C dL_pays_4 rfl rfl (by decide) rfl ?_
  refine pw_aload_n (q := 6) (j := 0) C dL_pays_5 rfl rfl rfl ?_
  refine pw_bipush_n (q := 8) C 9 dL_pays_6 (by decide +kernel) rfl ?_
  refine pw_rd (q := 11) (cr_s (j := iL_about) C dL_pays_8 lL_176 mL_about (ro_mk (by decide) (by decide))  (v_a9 hX hS) rfl rfl (Nat.le_of_ble_eq_true rfl) ⟨by omega, by omega⟩) rfl ?_
  refine pw_istore_n (q := 12) (j := 3) C dL_pays_11 rfl rfl (by decide) rfl ?_
  refine pw_aload_n (q := 13) (j := 0) C dL_pays_12 rfl rfl rfl ?_
  refine pw_bipush_n (q := 15) C 10 dL_pays_13 (by decide +kernel) rfl ?_
  refine pw_rd (q := 18) (cr_s (j := iL_about) C dL_pays_15 lL_176 mL_about (ro_mk (by decide) (by decide))  (v_a10 hX hS) rfl rfl (Nat.le_of_ble_eq_true rfl) ⟨by omega, by omega⟩) rfl ?_
  refine pw_istore (q := 20) C dL_pays_18 rfl (by decide) rfl ?_
  refine pw_aload_n (q := 21) (j := 0) C dL_pays_20 rfl rfl rfl ?_
  refine pw_val (q := 24) (cr_v (j := iX10_pay) C dL_pays_21 lL_201 mX10_pay (ro_mk (by decide) (by decide)) hX.1 rfl (a_pay hX hS) rfl rfl (Nat.le_of_ble_eq_true rfl) ⟨by omega, by omega⟩) rfl (fun M21 e21 => ?_)
  have hI1 := (SI.start hX hG).act h14 (by omega) e21 (sg_pay hG)
  obtain ⟨hX1, -, hG1, -⟩ := id hI1
  have hS1 := hG1.1
  refine pw_iload_n (q := 25) (j := 3) C dL_pays_24 rfl rfl rfl ?_
  refine pw_icmp_ne_n (q := 28) 67 C dL_pays_25 (by decide) rfl (by omega) (by omega) (fun g25 => absurd g25 (by omega)) (fun g25 => ?_)
  refine pw_aload_n (q := 29) (j := 0) C dL_pays_28 rfl rfl rfl ?_
  refine pw_bipush_n (q := 31) C 9 dL_pays_29 (by decide +kernel) rfl ?_
  refine pw_rd (q := 34) (cr_s (j := iL_about) C dL_pays_31 lL_176 mL_about (ro_mk (by decide) (by decide))  (v_a9 (S := wA S (payP (sP S))) hX1 hS1) rfl rfl (Nat.le_of_ble_eq_true rfl) ⟨by omega, by omega⟩) rfl ?_
  rw [show owedAll (sP (wA S (payP (sP S)))) = 0 from q3]
  refine pw_if_ne_n (q := 37) 67 C dL_pays_34 (by decide) rfl (by omega) (fun g34 => absurd g34 (fun h => h rfl)) (fun g34 => ?_)
  refine pw_aload_n (q := 38) (j := 0) C dL_pays_37 rfl rfl rfl ?_
  refine pw_bipush_n (q := 40) C 10 dL_pays_38 (by decide +kernel) rfl ?_
  refine pw_rd (q := 43) (cr_s (j := iL_about) C dL_pays_40 lL_176 mL_about (ro_mk (by decide) (by decide))  (v_a10 (S := wA S (payP (sP S))) hX1 hS1) rfl rfl (Nat.le_of_ble_eq_true rfl) ⟨by omega, by omega⟩) rfl ?_
  rw [show sP (wA S (payP (sP S))) 3 = sP S 3 + owedAll (sP S) from q6]
  refine pw_iload (q := 45) C dL_pays_43 rfl rfl ?_
  refine pw_iload_n (q := 46) (j := 3) C dL_pays_45 rfl rfl rfl ?_
  refine pw_iadd_n (q := 47) C dL_pays_46 rfl ?_
  refine pw_icmp_ne (q := 50) 67 C dL_pays_47 (by decide) rfl (fun g47 => absurd g47 (fun h => h rfl)) (fun g47 => ?_)
  refine pw_aload_n (q := 51) (j := 0) C dL_pays_50 rfl rfl rfl ?_
  refine pw_iconst_n (q := 52) C 1 dL_pays_51 (by decide +kernel) rfl ?_
  refine pw_val (q := 55) (cr_v (j := iX10_nextDay) C dL_pays_52 lL_197 mX10_nextDay (ro_mk (by decide) (by decide)) hX1.1 rfl (a_day (S := wA S (payP (sP S))) hX1 hS1 (Nat.le_refl 1)) rfl rfl (Nat.le_of_ble_eq_true rfl) ⟨by omega, by omega⟩) rfl (fun M52 e52 => ?_)
  have hI2 := hI1.act h14 (by omega) e52 (sg_day hG1 (by omega) (Nat.le_refl 1))
  obtain ⟨hX2, -, hG2, -⟩ := id hI2
  have hS2 := hG2.1
  have hU := UI.start hI2
  have h142 := hX2.m14
  refine pw_aload_n (q := 56) (j := 0) C dL_pays_55 rfl rfl rfl ?_
  refine pw_iconst_n (q := 57) C 3 dL_pays_56 (by decide +kernel) rfl ?_
  refine pw_rd (q := 60) (cr_s (j := iL_about) C dL_pays_57 lL_176 mL_about (ro_mk (by decide) (by decide))  (v_a3 (S := wA (wA S (payP (sP S))) (dayP (payP (sP S)) 1)) hX2 hS2) rfl rfl (Nat.le_of_ble_eq_true rfl) ⟨by omega, by omega⟩) rfl ?_
  rw [show sP (wA (wA S (payP (sP S))) (dayP (payP (sP S)) 1)) 1 = sP (wA S (payP (sP S))) 1 + 1 from rfl, show sP (wA S (payP (sP S))) 1 = sP S 1 from q7]
  refine pw_icmp_ne_n (q := 63) 67 C dL_pays_60 (by decide) rfl (by omega) (by omega) (fun g60 => absurd g60 (by omega)) (fun g60 => ?_)
  refine pw_iconst_n (q := 64) C 1 dL_pays_63 (by decide +kernel) rfl ?_
  refine pw_goto (q := 0) 68 C dL_pays_64 (by decide) ?_
  refine pw_istore (q := 70) C dL_pays_68 rfl (by decide) rfl ?_
  refine pw_iconst_n (q := 71) C 0 dL_pays_70 (by decide +kernel) rfl ?_
  refine pw_istore (q := 73) C dL_pays_71 rfl (by decide) rfl ?_
  refine pw_iconst_n (q := 74) C 0 dL_pays_73 (by decide +kernel) rfl ?_
  refine pw_istore (q := 76) C dL_pays_74 rfl (by decide) rfl ?_
  refine pays1 hI hX2 hS2 C ⟨by omega, by omega⟩ ?_ (sP S 6) 0 (by omega) 0 rfl
  refine pw_iload (q := 106) C dL_pays_104 rfl rfl ?_
  refine pw_aload_n (q := 107) (j := 0) C dL_pays_106 rfl rfl rfl ?_
  refine pw_bipush_n (q := 109) C 9 dL_pays_107 (by decide +kernel) rfl ?_
  refine pw_rd (q := 112) (cr_s (j := iL_about) C dL_pays_109 lL_176 mL_about (ro_mk (by decide) (by decide))  (v_a9 (S := wA (wA S (payP (sP S))) (dayP (payP (sP S)) 1)) hX2 hS2) rfl rfl (Nat.le_of_ble_eq_true rfl) ⟨by omega, by omega⟩) rfl ?_
  rw [show owedAll (sP (wA (wA S (payP (sP S))) (dayP (payP (sP S)) 1))) = 2 * sumN (fun m => sP S (26 + 4 * m)) (sP S 6) from q4]
  refine pw_iconst_n (q := 113) C 2 dL_pays_112 (by decide +kernel) rfl ?_
  refine pw_iload (q := 115) C dL_pays_113 rfl rfl ?_
  refine pw_imul_n (q := 116) C dL_pays_115 rfl ?_
  refine pw_icmp_ne_n (q := 119) 130 C dL_pays_116 (by decide) rfl (by omega) (by omega) (fun g116 => absurd g116 (by omega)) (fun g116 => ?_)
  refine pw_aload_n (q := 120) (j := 0) C dL_pays_119 rfl rfl rfl ?_
  refine pw_rd (q := 123) (cr_v (j := iX10_canSet) C dL_pays_120 lL_188 mX10_canSet (ro_mk (by decide) (by decide)) hX2.1 rfl (r_canSet (S := wA (wA S (payP (sP S))) (dayP (payP (sP S)) 1)) hX2 hS2) rfl rfl (Nat.le_of_ble_eq_true rfl) ⟨by omega, by omega⟩) rfl ?_
  rw [show canSetN (sP (wA (wA S (payP (sP S))) (dayP (payP (sP S)) 1))) = 0 from can_frost (show ¬ (1 : Nat) = 0 by decide)]
  refine pw_if_ne_n (q := 126) 130 C dL_pays_123 (by decide) rfl (by omega) (fun g123 => absurd g123 (fun h => h rfl)) (fun g123 => ?_)
  refine pw_iconst_n (q := 127) C 1 dL_pays_126 (by decide +kernel) rfl ?_
  refine pw_goto (q := 0) 131 C dL_pays_127 (by decide) ?_
  refine pw_and11 (q := 132) C dL_pays_131 rfl ?_
  refine pw_istore (q := 134) C dL_pays_132 rfl (by decide) rfl ?_
  refine pw_iload (q := 136) C dL_pays_134 rfl rfl ?_
  refine pw_if_eq_n (q := 139) 178 C dL_pays_136 (by decide) rfl (by omega) (fun g136 => absurd g136 (by decide)) (fun g136 => ?_)
  refine pw_aload_n (q := 140) (j := 0) C dL_pays_139 rfl rfl rfl ?_
  refine pw_bipush_n (q := 142) C 16 dL_pays_140 (by decide +kernel) rfl ?_
  refine pw_iconst_n (q := 143) C 0 dL_pays_142 (by decide +kernel) rfl ?_
  refine pw_iconst_n (q := 144) C 0 dL_pays_143 (by decide +kernel) rfl ?_
  refine pw_iconst_n (q := 145) C 0 dL_pays_144 (by decide +kernel) rfl ?_
  refine pw_iconst_n (q := 146) C 0 dL_pays_145 (by decide +kernel) rfl ?_
  refine pw_val (q := 149) (cr_s (j := iL_call) C dL_pays_146 lL_170 mL_call (ro_mk (by decide) (by decide))  (u_undo hU) rfl rfl (Nat.le_of_ble_eq_true rfl) ⟨by omega, by omega⟩) rfl (fun M146 e146 => ?_)
  have hU1 := hU.undo e146
  have h141 := hU1.1.m14
  refine pw_if_lt (q := 152) 178 C dL_pays_149 (by decide) rfl (fun g149 => absurd g149 (nI_pos (by omega))) (fun g149 => ?_)
  refine pw_aload_n (q := 153) (j := 0) C dL_pays_152 rfl rfl rfl ?_
  refine pw_bipush_n (q := 155) C 16 dL_pays_153 (by decide +kernel) rfl ?_
  refine pw_iconst_n (q := 156) C 0 dL_pays_155 (by decide +kernel) rfl ?_
  refine pw_iconst_n (q := 157) C 0 dL_pays_156 (by decide +kernel) rfl ?_
  refine pw_iconst_n (q := 158) C 0 dL_pays_157 (by decide +kernel) rfl ?_
  refine pw_iconst_n (q := 159) C 0 dL_pays_158 (by decide +kernel) rfl ?_
  refine pw_val (q := 162) (cr_s (j := iL_call) C dL_pays_159 lL_170 mL_call (ro_mk (by decide) (by decide))  (u_undo hU1) rfl rfl (Nat.le_of_ble_eq_true rfl) ⟨by omega, by omega⟩) rfl (fun M159 e159 => ?_)
  have hU0 := hU1.undo e159
  refine pw_if_lt (q := 165) 178 C dL_pays_162 (by decide) rfl (fun g162 => absurd g162 (nI_pos (by omega))) (fun g162 => ?_)
  refine pw_aload_n (q := 166) (j := 0) C dL_pays_165 rfl rfl rfl ?_
  refine pw_rd (q := 169) (cr_s (j := iL_sum) C dL_pays_166 lL_184 mL_sum (ro_mk (by decide) (by decide))  (v_sum hU0.1 hU0.2.2.1.1) rfl rfl (Nat.le_of_ble_eq_true rfl) ⟨by omega, by omega⟩) rfl ?_
  refine pw_lload_n (q := 170) (j := 1) C dL_pays_169 rfl rfl rfl ?_
  refine pw_lcmp0 (q := 171) C dL_pays_170 (by rw [hU0.page]) rfl ?_
  refine pw_if_ne_n (q := 174) 178 C dL_pays_171 (by decide) rfl (by omega) (fun g171 => absurd g171 (fun h => h rfl)) (fun g171 => ?_)
  refine pw_iconst_n (q := 175) C 1 dL_pays_174 (by decide +kernel) rfl ?_
  refine pw_goto (q := 0) 179 C dL_pays_175 (by decide) ?_
  exact pw_zret C dL_pays_179 rfl (by first | decide +kernel | exact nar_bN _ | exact nar_01 (by omega)) ⟨by omega, by omega⟩ (RV.mk rfl hU0.end)
