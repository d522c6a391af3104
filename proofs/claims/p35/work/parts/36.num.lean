/-! The law's numbers: stones by courses, masons and states. -/
theorem pw_and11 {Γ : CX} {G : GC} {Z : State → Prop} {i : MI} {T : List ExceptionTableEntry} {mc ms pc q k n : Nat} {ls : LL} {st : List Value} {M : PH} (C : Cx Γ G i T mc ms) (d : decode i.2.1 pc = .ok (.iand, 1)) (hq : pc + 1 = q) (K : PW Γ G Z q ls (.int (nI 1) :: st) M k n) : PW Γ G Z pc ls (.int (nI 1) :: .int (nI 1) :: st) M k n := by
  refine pw_iand (q := q) C d hq ?_
  rw [show nI 1 &&& nI 1 = nI 1 by decide +kernel]
  exact K
theorem pw_andb {Γ : CX} {G : GC} {Z : State → Prop} {i : MI} {T : List ExceptionTableEntry} {mc ms pc q k n : Nat} {ls : LL} {st : List Value} {M : PH} {a b : Nat} (c : Nat) (C : Cx Γ G i T mc ms) (d : decode i.2.1 pc = .ok (.iand, 1)) (ha : a ≤ 1) (hb : b ≤ 1) (hc : c = a * b) (hq : pc + 1 = q) (K : PW Γ G Z q ls (.int (nI c) :: st) M k n) : PW Γ G Z pc ls (.int (nI b) :: .int (nI a) :: st) M k n := by
  refine pw_iand (q := q) C d hq ?_
  subst hc
  rw [show nI a &&& nI b = nI (a * b) by
    rcases (show a = 0 ∨ a = 1 by omega) with rfl | rfl <;> rcases (show b = 0 ∨ b = 1 by omega) with rfl | rfl <;> decide +kernel]
  exact K
theorem lacks_le {P : Nat → Nat} (c : Nat) : lacks P c ≤ P (8 + 3 * c + 2) - cntC P c 3 := by
  unfold lacks
  omega
theorem full_yes {a b : Nat} (h : a < b) : min a b + 1 = min (a + 1) b := by omega
theorem full_no {a b : Nat} (h : ¬ a < b) : min a b + 0 = min (a + 1) b := by omega
set_option maxHeartbeats 400000 in
set_option maxRecDepth 100000 in
theorem num1 {Γ : CX} {G : GC} {Z : State → Prop} {mc ms k n : Nat} {M : PH} {x D : Nat} {S : St} (hX : RepX M x S) (hG : SG D S) (hD : D < 90000) (C : Cx Γ G iL_numbers [] mc ms) (hkn : k ≤ mc ∧ n ≤ ms) (K : PW Γ G Z 122 [some (.ref x), some (.int (nI 1)), some (.int (nI (0))), some (.int (nI (0))), some (.int (nI (0))), some (.int (nI 1)), some (.int (nI (cnt (fun s => sP S (50 + 6 * s + 3) = 1) (sP S 7)))), some (.int (nI (sP S 7))), none, none, none, none] [] M k n) : ∀ (d r : Nat), r + d = sP S 7 → ∀ a, a = cnt (fun s => sP S (50 + 6 * s + 3) = 1) r → PW Γ G Z 18 [some (.ref x), some (.int (nI 1)), some (.int (nI (0))), some (.int (nI (0))), some (.int (nI (0))), some (.int (nI 1)), some (.int (nI (a))), some (.int (nI (r))), none, none, none, none] [] M k n := by
  have hS := hG.1
  have hI := hS.1.1
  have hb := hI.b
  have hF := hG.2.1
  intro d
  induction d with
  | zero =>
    intro r hr a ha
    obtain rfl : r = sP S 7 := by omega
    subst ha
    refine pw_iload (q := 20) C dL_numbers_18 rfl rfl ?_
    refine pw_aload_n (q := 21) (j := 0) C dL_numbers_20 rfl rfl rfl ?_
    refine pw_iconst_n (q := 22) C 2 dL_numbers_21 (by decide +kernel) rfl ?_
    refine pw_rd (q := 25) (cr_s (j := iL_about) C dL_numbers_22 lL_176 mL_about (ro_mk (by decide) (by decide))  (v_a2 hX hS) rfl rfl (Nat.le_of_ble_eq_true rfl) ⟨by omega, by omega⟩) rfl ?_
    refine pw_icmp_ge_n (q := 28) 122 C dL_numbers_25 (by decide) rfl (by omega) (by omega) (fun g25 => ?_) (fun g25 => absurd g25 (by omega))
    exact K
  | succ d ih =>
    intro r hr a ha
    have q := hI.s (s := r) (by omega)
    have qf := hF.2.2.2 r (by omega)
    refine pw_iload (q := 20) C dL_numbers_18 rfl rfl ?_
    refine pw_aload_n (q := 21) (j := 0) C dL_numbers_20 rfl rfl rfl ?_
    refine pw_iconst_n (q := 22) C 2 dL_numbers_21 (by decide +kernel) rfl ?_
    refine pw_rd (q := 25) (cr_s (j := iL_about) C dL_numbers_22 lL_176 mL_about (ro_mk (by decide) (by decide))  (v_a2 hX hS) rfl rfl (Nat.le_of_ble_eq_true rfl) ⟨by omega, by omega⟩) rfl ?_
    refine pw_icmp_ge_n (q := 28) 122 C dL_numbers_25 (by decide) rfl (by omega) (by omega) (fun g25 => absurd g25 (by omega)) (fun g25 => ?_)
    refine pw_iload (q := 30) C dL_numbers_28 rfl rfl ?_
    refine pw_aload_n (q := 31) (j := 0) C dL_numbers_30 rfl rfl rfl ?_
    refine pw_iload (q := 33) C dL_numbers_31 rfl rfl ?_
    refine pw_iconst_n (q := 34) C 3 dL_numbers_33 (by decide +kernel) rfl ?_
    refine pw_rd (q := 37) (cr_s (j := iL_stone) C dL_numbers_34 lL_182 mL_stone (ro_mk (by decide) (by decide))  (v_s3 hX hS (by omega)) rfl rfl (Nat.le_of_ble_eq_true rfl) ⟨by omega, by omega⟩) rfl ?_
    refine pw_iconst_n (q := 38) C 1 dL_numbers_37 (by decide +kernel) rfl ?_
    refine pw_icmp_ne_n (q := 41) 45 C dL_numbers_38 (by decide) rfl (by omega) (by omega) (fun g38 => ?_) (fun g38 => ?_)
    · refine pw_iconst_n (q := 46) C 0 dL_numbers_45 (by decide +kernel) rfl ?_
      refine pw_iadd_n (q := 47) C dL_numbers_46 rfl ?_
      refine pw_istore (q := 49) C dL_numbers_47 rfl (by decide) rfl ?_
      refine pw_iload_n (q := 50) (j := 1) C dL_numbers_49 rfl rfl rfl ?_
      refine pw_aload_n (q := 51) (j := 0) C dL_numbers_50 rfl rfl rfl ?_
      refine pw_iload (q := 53) C dL_numbers_51 rfl rfl ?_
      refine pw_iconst_n (q := 54) C 2 dL_numbers_53 (by decide +kernel) rfl ?_
      refine pw_rd (q := 57) (cr_s (j := iL_stone) C dL_numbers_54 lL_182 mL_stone (ro_mk (by decide) (by decide))  (v_s2 hX hS (by omega)) rfl rfl (Nat.le_of_ble_eq_true rfl) ⟨by omega, by omega⟩) rfl ?_
      refine pw_if_lt (q := 60) 113 C dL_numbers_57 (by decide) rfl (fun g57 => absurd g57 (nI_pos (by omega))) (fun g57 => ?_)
      refine pw_aload_n (q := 61) (j := 0) C dL_numbers_60 rfl rfl rfl ?_
      refine pw_iload (q := 63) C dL_numbers_61 rfl rfl ?_
      refine pw_iconst_n (q := 64) C 2 dL_numbers_63 (by decide +kernel) rfl ?_
      refine pw_rd (q := 67) (cr_s (j := iL_stone) C dL_numbers_64 lL_182 mL_stone (ro_mk (by decide) (by decide))  (v_s2 hX hS (by omega)) rfl rfl (Nat.le_of_ble_eq_true rfl) ⟨by omega, by omega⟩) rfl ?_
      refine pw_bipush_n (q := 69) C 9 dL_numbers_67 (by decide +kernel) rfl ?_
      refine pw_icmp_gt_n (q := 72) 113 C dL_numbers_69 (by decide) rfl (by omega) (by omega) (fun g69 => absurd g69 (by omega)) (fun g69 => ?_)
      refine pw_aload_n (q := 73) (j := 0) C dL_numbers_72 rfl rfl rfl ?_
      refine pw_iload (q := 75) C dL_numbers_73 rfl rfl ?_
      refine pw_iconst_n (q := 76) C 4 dL_numbers_75 (by decide +kernel) rfl ?_
      refine pw_rd (q := 79) (cr_s (j := iL_stone) C dL_numbers_76 lL_182 mL_stone (ro_mk (by decide) (by decide))  (v_s4 hX hS (by omega)) rfl rfl (Nat.le_of_ble_eq_true rfl) ⟨by omega, by omega⟩) rfl ?_
      refine pw_if_gt_n (q := 82) 99 C dL_numbers_79 (by decide) rfl (by omega) (fun g79 => ?_) (fun g79 => ?_)
      · refine pw_aload_n (q := 100) (j := 0) C dL_numbers_99 rfl rfl rfl ?_
        refine pw_iload (q := 102) C dL_numbers_100 rfl rfl ?_
        refine pw_iconst_n (q := 103) C 4 dL_numbers_102 (by decide +kernel) rfl ?_
        refine pw_rd (q := 106) (cr_s (j := iL_stone) C dL_numbers_103 lL_182 mL_stone (ro_mk (by decide) (by decide))  (v_s4 hX hS (by omega)) rfl rfl (Nat.le_of_ble_eq_true rfl) ⟨by omega, by omega⟩) rfl ?_
        refine pw_if_lt (q := 109) 113 C dL_numbers_106 (by decide) rfl (fun g106 => absurd g106 (nI_pos (by omega))) (fun g106 => ?_)
        refine pw_iconst_n (q := 110) C 1 dL_numbers_109 (by decide +kernel) rfl ?_
        refine pw_goto (q := 0) 114 C dL_numbers_110 (by decide) ?_
        refine pw_and11 (q := 115) C dL_numbers_114 rfl ?_
        refine pw_istore_n (q := 116) (j := 1) C dL_numbers_115 rfl rfl (by decide) rfl ?_
        refine pw_iinc_n (q := 119) C 1 dL_numbers_116 rfl (by decide +kernel) rfl (by decide) rfl ?_
        refine pw_goto (q := 0) 18 C dL_numbers_119 (by decide) ?_
        exact ih (r + 1) (by omega) _ (by rw [ha, cnt, if_neg g38])
      · refine pw_aload_n (q := 83) (j := 0) C dL_numbers_82 rfl rfl rfl ?_
        refine pw_iload (q := 85) C dL_numbers_83 rfl rfl ?_
        refine pw_iconst_n (q := 86) C 1 dL_numbers_85 (by decide +kernel) rfl ?_
        refine pw_rd (q := 89) (cr_s (j := iL_stone) C dL_numbers_86 lL_182 mL_stone (ro_mk (by decide) (by decide))  (v_s1 hX hS (by omega)) rfl rfl (Nat.le_of_ble_eq_true rfl) ⟨by omega, by omega⟩) rfl ?_
        refine pw_aload_n (q := 90) (j := 0) C dL_numbers_89 rfl rfl rfl ?_
        refine pw_iload (q := 92) C dL_numbers_90 rfl rfl ?_
        refine pw_iconst_n (q := 93) C 5 dL_numbers_92 (by decide +kernel) rfl ?_
        refine pw_rd (q := 96) (cr_s (j := iL_stone) C dL_numbers_93 lL_182 mL_stone (ro_mk (by decide) (by decide))  (v_s5 hX hS (by omega)) rfl rfl (Nat.le_of_ble_eq_true rfl) ⟨by omega, by omega⟩) rfl ?_
        refine pw_icmp_ne_n (q := 99) 113 C dL_numbers_96 (by decide) rfl (by omega) (by omega) (fun g96 => absurd g96 (by omega)) (fun g96 => ?_)
        refine pw_aload_n (q := 100) (j := 0) C dL_numbers_99 rfl rfl rfl ?_
        refine pw_iload (q := 102) C dL_numbers_100 rfl rfl ?_
        refine pw_iconst_n (q := 103) C 4 dL_numbers_102 (by decide +kernel) rfl ?_
        refine pw_rd (q := 106) (cr_s (j := iL_stone) C dL_numbers_103 lL_182 mL_stone (ro_mk (by decide) (by decide))  (v_s4 hX hS (by omega)) rfl rfl (Nat.le_of_ble_eq_true rfl) ⟨by omega, by omega⟩) rfl ?_
        refine pw_if_lt (q := 109) 113 C dL_numbers_106 (by decide) rfl (fun g106 => absurd g106 (nI_pos (by omega))) (fun g106 => ?_)
        refine pw_iconst_n (q := 110) C 1 dL_numbers_109 (by decide +kernel) rfl ?_
        refine pw_goto (q := 0) 114 C dL_numbers_110 (by decide) ?_
        refine pw_and11 (q := 115) C dL_numbers_114 rfl ?_
        refine pw_istore_n (q := 116) (j := 1) C dL_numbers_115 rfl rfl (by decide) rfl ?_
        refine pw_iinc_n (q := 119) C 1 dL_numbers_116 rfl (by decide +kernel) rfl (by decide) rfl ?_
        refine pw_goto (q := 0) 18 C dL_numbers_119 (by decide) ?_
        exact ih (r + 1) (by omega) _ (by rw [ha, cnt, if_neg g38])
    · refine pw_iconst_n (q := 42) C 1 dL_numbers_41 (by decide +kernel) rfl ?_
      refine pw_goto (q := 0) 46 C dL_numbers_42 (by decide) ?_
      refine pw_iadd_n (q := 47) C dL_numbers_46 rfl ?_
      refine pw_istore (q := 49) C dL_numbers_47 rfl (by decide) rfl ?_
      refine pw_iload_n (q := 50) (j := 1) C dL_numbers_49 rfl rfl rfl ?_
      refine pw_aload_n (q := 51) (j := 0) C dL_numbers_50 rfl rfl rfl ?_
      refine pw_iload (q := 53) C dL_numbers_51 rfl rfl ?_
      refine pw_iconst_n (q := 54) C 2 dL_numbers_53 (by decide +kernel) rfl ?_
      refine pw_rd (q := 57) (cr_s (j := iL_stone) C dL_numbers_54 lL_182 mL_stone (ro_mk (by decide) (by decide))  (v_s2 hX hS (by omega)) rfl rfl (Nat.le_of_ble_eq_true rfl) ⟨by omega, by omega⟩) rfl ?_
      refine pw_if_lt (q := 60) 113 C dL_numbers_57 (by decide) rfl (fun g57 => absurd g57 (nI_pos (by omega))) (fun g57 => ?_)
      refine pw_aload_n (q := 61) (j := 0) C dL_numbers_60 rfl rfl rfl ?_
      refine pw_iload (q := 63) C dL_numbers_61 rfl rfl ?_
      refine pw_iconst_n (q := 64) C 2 dL_numbers_63 (by decide +kernel) rfl ?_
      refine pw_rd (q := 67) (cr_s (j := iL_stone) C dL_numbers_64 lL_182 mL_stone (ro_mk (by decide) (by decide))  (v_s2 hX hS (by omega)) rfl rfl (Nat.le_of_ble_eq_true rfl) ⟨by omega, by omega⟩) rfl ?_
      refine pw_bipush_n (q := 69) C 9 dL_numbers_67 (by decide +kernel) rfl ?_
      refine pw_icmp_gt_n (q := 72) 113 C dL_numbers_69 (by decide) rfl (by omega) (by omega) (fun g69 => absurd g69 (by omega)) (fun g69 => ?_)
      refine pw_aload_n (q := 73) (j := 0) C dL_numbers_72 rfl rfl rfl ?_
      refine pw_iload (q := 75) C dL_numbers_73 rfl rfl ?_
      refine pw_iconst_n (q := 76) C 4 dL_numbers_75 (by decide +kernel) rfl ?_
      refine pw_rd (q := 79) (cr_s (j := iL_stone) C dL_numbers_76 lL_182 mL_stone (ro_mk (by decide) (by decide))  (v_s4 hX hS (by omega)) rfl rfl (Nat.le_of_ble_eq_true rfl) ⟨by omega, by omega⟩) rfl ?_
      refine pw_if_gt_n (q := 82) 99 C dL_numbers_79 (by decide) rfl (by omega) (fun g79 => ?_) (fun g79 => ?_)
      · refine pw_aload_n (q := 100) (j := 0) C dL_numbers_99 rfl rfl rfl ?_
        refine pw_iload (q := 102) C dL_numbers_100 rfl rfl ?_
        refine pw_iconst_n (q := 103) C 4 dL_numbers_102 (by decide +kernel) rfl ?_
        refine pw_rd (q := 106) (cr_s (j := iL_stone) C dL_numbers_103 lL_182 mL_stone (ro_mk (by decide) (by decide))  (v_s4 hX hS (by omega)) rfl rfl (Nat.le_of_ble_eq_true rfl) ⟨by omega, by omega⟩) rfl ?_
        refine pw_if_lt (q := 109) 113 C dL_numbers_106 (by decide) rfl (fun g106 => absurd g106 (nI_pos (by omega))) (fun g106 => ?_)
        refine pw_iconst_n (q := 110) C 1 dL_numbers_109 (by decide +kernel) rfl ?_
        refine pw_goto (q := 0) 114 C dL_numbers_110 (by decide) ?_
        refine pw_and11 (q := 115) C dL_numbers_114 rfl ?_
        refine pw_istore_n (q := 116) (j := 1) C dL_numbers_115 rfl rfl (by decide) rfl ?_
        refine pw_iinc_n (q := 119) C 1 dL_numbers_116 rfl (by decide +kernel) rfl (by decide) rfl ?_
        refine pw_goto (q := 0) 18 C dL_numbers_119 (by decide) ?_
        exact ih (r + 1) (by omega) _ (by rw [ha, cnt, if_pos g38])
      · refine pw_aload_n (q := 83) (j := 0) C dL_numbers_82 rfl rfl rfl ?_
        refine pw_iload (q := 85) C dL_numbers_83 rfl rfl ?_
        refine pw_iconst_n (q := 86) C 1 dL_numbers_85 (by decide +kernel) rfl ?_
        refine pw_rd (q := 89) (cr_s (j := iL_stone) C dL_numbers_86 lL_182 mL_stone (ro_mk (by decide) (by decide))  (v_s1 hX hS (by omega)) rfl rfl (Nat.le_of_ble_eq_true rfl) ⟨by omega, by omega⟩) rfl ?_
        refine pw_aload_n (q := 90) (j := 0) C dL_numbers_89 rfl rfl rfl ?_
        refine pw_iload (q := 92) C dL_numbers_90 rfl rfl ?_
        refine pw_iconst_n (q := 93) C 5 dL_numbers_92 (by decide +kernel) rfl ?_
        refine pw_rd (q := 96) (cr_s (j := iL_stone) C dL_numbers_93 lL_182 mL_stone (ro_mk (by decide) (by decide))  (v_s5 hX hS (by omega)) rfl rfl (Nat.le_of_ble_eq_true rfl) ⟨by omega, by omega⟩) rfl ?_
        refine pw_icmp_ne_n (q := 99) 113 C dL_numbers_96 (by decide) rfl (by omega) (by omega) (fun g96 => absurd g96 (by omega)) (fun g96 => ?_)
        refine pw_aload_n (q := 100) (j := 0) C dL_numbers_99 rfl rfl rfl ?_
        refine pw_iload (q := 102) C dL_numbers_100 rfl rfl ?_
        refine pw_iconst_n (q := 103) C 4 dL_numbers_102 (by decide +kernel) rfl ?_
        refine pw_rd (q := 106) (cr_s (j := iL_stone) C dL_numbers_103 lL_182 mL_stone (ro_mk (by decide) (by decide))  (v_s4 hX hS (by omega)) rfl rfl (Nat.le_of_ble_eq_true rfl) ⟨by omega, by omega⟩) rfl ?_
        refine pw_if_lt (q := 109) 113 C dL_numbers_106 (by decide) rfl (fun g106 => absurd g106 (nI_pos (by omega))) (fun g106 => ?_)
        refine pw_iconst_n (q := 110) C 1 dL_numbers_109 (by decide +kernel) rfl ?_
        refine pw_goto (q := 0) 114 C dL_numbers_110 (by decide) ?_
        refine pw_and11 (q := 115) C dL_numbers_114 rfl ?_
        refine pw_istore_n (q := 116) (j := 1) C dL_numbers_115 rfl rfl (by decide) rfl ?_
        refine pw_iinc_n (q := 119) C 1 dL_numbers_116 rfl (by decide +kernel) rfl (by decide) rfl ?_
        refine pw_goto (q := 0) 18 C dL_numbers_119 (by decide) ?_
        exact ih (r + 1) (by omega) _ (by rw [ha, cnt, if_pos g38])
set_option maxHeartbeats 400000 in
set_option maxRecDepth 100000 in
theorem num2 {Γ : CX} {G : GC} {Z : State → Prop} {mc ms k n : Nat} {M : PH} {x D : Nat} {S : St} (hX : RepX M x S) (hG : SG D S) (hD : D < 90000) (C : Cx Γ G iL_numbers [] mc ms) (hkn : k ≤ mc ∧ n ≤ ms) {a6 : Nat} (K : ∀ (a5 : Nat) (v9 : Option Value), PW Γ G Z 294 [some (.ref x), some (.int (nI 1)), some (.int (nI (sumN (fun c => cntC (sP S) c 3) (sP S 5)))), some (.int (nI (0))), some (.int (nI (compl (sP S)))), some (.int (nI (a5))), some (.int (nI (a6))), some (.int (nI (sumN (fun c => cntC (sP S) c 3 + cntC (sP S) c 0 + cntC (sP S) c 2) (sP S 5)))), some (.int (nI (sP S 5))), v9, none, none] [] M k n) : ∀ (d r : Nat), r + d = sP S 5 → ∀ (a2 a4 a5 a7 : Nat) (v9 : Option Value), a2 = sumN (fun c => cntC (sP S) c 3) r → a4 = min r (compl (sP S)) → a5 = bN (r ≤ compl (sP S)) → a7 = sumN (fun c => cntC (sP S) c 3 + cntC (sP S) c 0 + cntC (sP S) c 2) r → PW Γ G Z 128 [some (.ref x), some (.int (nI 1)), some (.int (nI (a2))), some (.int (nI (0))), some (.int (nI (a4))), some (.int (nI (a5))), some (.int (nI (a6))), some (.int (nI (a7))), some (.int (nI (r))), v9, none, none] [] M k n := by
  have hS := hG.1
  have hI := hS.1.1
  have hb := hI.b
  have hF := hG.2.1
  have hcl := compl_le (sP S)
  intro d
  induction d with
  | zero =>
    intro r hr a2 a4 a5 a7 v9 h2 h4 h5 h7
    obtain rfl : r = sP S 5 := by omega
    obtain rfl : a4 = compl (sP S) := by omega
    subst h2
    subst h7
    refine pw_iload (q := 130) C dL_numbers_128 rfl rfl ?_
    refine pw_aload_n (q := 131) (j := 0) C dL_numbers_130 rfl rfl rfl ?_
    refine pw_iconst_n (q := 132) C 0 dL_numbers_131 (by decide +kernel) rfl ?_
    refine pw_rd (q := 135) (cr_s (j := iL_about) C dL_numbers_132 lL_176 mL_about (ro_mk (by decide) (by decide))  (v_a0 hX hS) rfl rfl (Nat.le_of_ble_eq_true rfl) ⟨by omega, by omega⟩) rfl ?_
    refine pw_icmp_ge_n (q := 138) 294 C dL_numbers_135 (by decide) rfl (by omega) (by omega) (fun g135 => ?_) (fun g135 => absurd g135 (by omega))
    exact K _ _
  | succ d ih =>
    intro r hr a2 a4 a5 a7 v9 h2 h4 h5 h7
    have q := hI.c (c := r) (by omega)
    have qw := (hI.w r (by omega)).1
    have qi := compl_iff hI (c := r) (by omega)
    have ql := lacks_le (P := sP S) r
    have q0 := cntC_le hI r 0
    have q2 := cntC_le hI r 2
    have q5 : a5 ≤ 1 := by rw [h5]; exact bN_le _
    have qb : a5 = 0 → cntC (sP S) r 3 = 0 := fun h => by
      rw [h5] at h
      unfold bN at h
      split at h
      · omega
      · exact compl_gt hI (by omega) (by omega)
    refine pw_iload (q := 130) C dL_numbers_128 rfl rfl ?_
    refine pw_aload_n (q := 131) (j := 0) C dL_numbers_130 rfl rfl rfl ?_
    refine pw_iconst_n (q := 132) C 0 dL_numbers_131 (by decide +kernel) rfl ?_
    refine pw_rd (q := 135) (cr_s (j := iL_about) C dL_numbers_132 lL_176 mL_about (ro_mk (by decide) (by decide))  (v_a0 hX hS) rfl rfl (Nat.le_of_ble_eq_true rfl) ⟨by omega, by omega⟩) rfl ?_
    refine pw_icmp_ge_n (q := 138) 294 C dL_numbers_135 (by decide) rfl (by omega) (by omega) (fun g135 => absurd g135 (by omega)) (fun g135 => ?_)
    refine pw_aload_n (q := 139) (j := 0) C dL_numbers_138 rfl rfl rfl ?_
    refine pw_iload (q := 141) C dL_numbers_139 rfl rfl ?_
    refine pw_iconst_n (q := 142) C 3 dL_numbers_141 (by decide +kernel) rfl ?_
    refine pw_rd (q := 145) (cr_s (j := iL_course) C dL_numbers_142 lL_178 mL_course (ro_mk (by decide) (by decide))  (v_c3 hX hS (by omega)) rfl rfl (Nat.le_of_ble_eq_true rfl) ⟨by omega, by omega⟩) rfl ?_
    refine pw_istore (q := 147) C dL_numbers_145 rfl (by decide) rfl ?_
    refine pw_iload_n (q := 148) (j := 1) C dL_numbers_147 rfl rfl rfl ?_
    refine pw_iload (q := 150) C dL_numbers_148 rfl rfl ?_
    refine pw_aload_n (q := 151) (j := 0) C dL_numbers_150 rfl rfl rfl ?_
    refine pw_iload (q := 153) C dL_numbers_151 rfl rfl ?_
    refine pw_iconst_n (q := 154) C 2 dL_numbers_153 (by decide +kernel) rfl ?_
    refine pw_rd (q := 157) (cr_s (j := iL_course) C dL_numbers_154 lL_178 mL_course (ro_mk (by decide) (by decide))  (v_c2 hX hS (by omega)) rfl rfl (Nat.le_of_ble_eq_true rfl) ⟨by omega, by omega⟩) rfl ?_
    refine pw_icmp_gt_n (q := 160) 174 C dL_numbers_157 (by decide) rfl (by omega) (by omega) (fun g157 => absurd g157 (by omega)) (fun g157 => ?_)
    refine pw_iload (q := 162) C dL_numbers_160 rfl rfl ?_
    refine pw_if_ne_n (q := 165) 170 C dL_numbers_162 (by decide) rfl (by omega) (fun g162 => ?_) (fun g162 => ?_)
    · refine pw_iconst_n (q := 171) C 1 dL_numbers_170 (by decide +kernel) rfl ?_
      refine pw_goto (q := 0) 175 C dL_numbers_171 (by decide) ?_
      refine pw_and11 (q := 176) C dL_numbers_175 rfl ?_
      refine pw_istore_n (q := 177) (j := 1) C dL_numbers_176 rfl rfl (by decide) rfl ?_
      refine pw_iload (q := 179) C dL_numbers_177 rfl rfl ?_
      refine pw_iload (q := 181) C dL_numbers_179 rfl rfl ?_
      refine pw_aload_n (q := 182) (j := 0) C dL_numbers_181 rfl rfl rfl ?_
      refine pw_iload (q := 184) C dL_numbers_182 rfl rfl ?_
      refine pw_iconst_n (q := 185) C 2 dL_numbers_184 (by decide +kernel) rfl ?_
      refine pw_rd (q := 188) (cr_s (j := iL_course) C dL_numbers_185 lL_178 mL_course (ro_mk (by decide) (by decide))  (v_c2 hX hS (by omega)) rfl rfl (Nat.le_of_ble_eq_true rfl) ⟨by omega, by omega⟩) rfl ?_
      refine pw_icmp_ne_n (q := 191) 195 C dL_numbers_188 (by decide) rfl (by omega) (by omega) (fun g188 => ?_) (fun g188 => ?_)
      · refine pw_iconst_n (q := 196) C 0 dL_numbers_195 (by decide +kernel) rfl ?_
        refine pw_andb (q := 197) (a5 * 0) C dL_numbers_196 q5 (by omega) rfl rfl ?_
        refine pw_istore (q := 199) C dL_numbers_197 rfl (by decide) rfl ?_
        refine pw_iload (q := 201) C dL_numbers_199 rfl rfl ?_
        refine pw_iload (q := 203) C dL_numbers_201 rfl rfl ?_
        refine pw_aload_n (q := 204) (j := 0) C dL_numbers_203 rfl rfl rfl ?_
        refine pw_iload (q := 206) C dL_numbers_204 rfl rfl ?_
        refine pw_iconst_n (q := 207) C 2 dL_numbers_206 (by decide +kernel) rfl ?_
        refine pw_rd (q := 210) (cr_s (j := iL_course) C dL_numbers_207 lL_178 mL_course (ro_mk (by decide) (by decide))  (v_c2 hX hS (by omega)) rfl rfl (Nat.le_of_ble_eq_true rfl) ⟨by omega, by omega⟩) rfl ?_
        refine pw_icmp_ne_n (q := 213) 217 C dL_numbers_210 (by decide) rfl (by omega) (by omega) (fun g210 => ?_) (fun g210 => absurd g210 (by omega))
        refine pw_iconst_n (q := 218) C 0 dL_numbers_217 (by decide +kernel) rfl ?_
        refine pw_iadd_n (q := 219) C dL_numbers_218 rfl ?_
        refine pw_istore (q := 221) C dL_numbers_219 rfl (by decide) rfl ?_
        refine pw_iload_n (q := 222) (j := 2) C dL_numbers_221 rfl rfl rfl ?_
        refine pw_iload (q := 224) C dL_numbers_222 rfl rfl ?_
        refine pw_iadd_n (q := 225) C dL_numbers_224 rfl ?_
        refine pw_istore_n (q := 226) (j := 2) C dL_numbers_225 rfl rfl (by decide) rfl ?_
        refine pw_iload (q := 228) C dL_numbers_226 rfl rfl ?_
        refine pw_iload (q := 230) C dL_numbers_228 rfl rfl ?_
        refine pw_aload_n (q := 231) (j := 0) C dL_numbers_230 rfl rfl rfl ?_
        refine pw_iload (q := 233) C dL_numbers_231 rfl rfl ?_
        refine pw_iconst_n (q := 234) C 5 dL_numbers_233 (by decide +kernel) rfl ?_
        refine pw_rd (q := 237) (cr_s (j := iL_course) C dL_numbers_234 lL_178 mL_course (ro_mk (by decide) (by decide))  (v_c5 hX hS (by omega)) rfl rfl (Nat.le_of_ble_eq_true rfl) ⟨by omega, by omega⟩) rfl ?_
        refine pw_iadd_n (q := 238) C dL_numbers_237 rfl ?_
        refine pw_aload_n (q := 239) (j := 0) C dL_numbers_238 rfl rfl rfl ?_
        refine pw_iload (q := 241) C dL_numbers_239 rfl rfl ?_
        refine pw_bipush_n (q := 243) C 6 dL_numbers_241 (by decide +kernel) rfl ?_
        refine pw_rd (q := 246) (cr_s (j := iL_course) C dL_numbers_243 lL_178 mL_course (ro_mk (by decide) (by decide))  (v_c6 hX hS (by omega)) rfl rfl (Nat.le_of_ble_eq_true rfl) ⟨by omega, by omega⟩) rfl ?_
        refine pw_iadd_n (q := 247) C dL_numbers_246 rfl ?_
        refine pw_iadd_n (q := 248) C dL_numbers_247 rfl ?_
        refine pw_istore (q := 250) C dL_numbers_248 rfl (by decide) rfl ?_
        refine pw_iload_n (q := 251) (j := 1) C dL_numbers_250 rfl rfl rfl ?_
        refine pw_aload_n (q := 252) (j := 0) C dL_numbers_251 rfl rfl rfl ?_
        refine pw_iload (q := 254) C dL_numbers_252 rfl rfl ?_
        refine pw_iconst_n (q := 255) C 4 dL_numbers_254 (by decide +kernel) rfl ?_
        refine pw_rd (q := 258) (cr_s (j := iL_course) C dL_numbers_255 lL_178 mL_course (ro_mk (by decide) (by decide))  (v_c4 hX hS (by omega)) rfl rfl (Nat.le_of_ble_eq_true rfl) ⟨by omega, by omega⟩) rfl ?_
        refine pw_if_lt (q := 261) 285 C dL_numbers_258 (by decide) rfl (fun g258 => absurd g258 (nI_pos (by omega))) (fun g258 => ?_)
        refine pw_aload_n (q := 262) (j := 0) C dL_numbers_261 rfl rfl rfl ?_
        refine pw_iload (q := 264) C dL_numbers_262 rfl rfl ?_
        refine pw_iconst_n (q := 265) C 4 dL_numbers_264 (by decide +kernel) rfl ?_
        refine pw_rd (q := 268) (cr_s (j := iL_course) C dL_numbers_265 lL_178 mL_course (ro_mk (by decide) (by decide))  (v_c4 hX hS (by omega)) rfl rfl (Nat.le_of_ble_eq_true rfl) ⟨by omega, by omega⟩) rfl ?_
        refine pw_aload_n (q := 269) (j := 0) C dL_numbers_268 rfl rfl rfl ?_
        refine pw_iload (q := 271) C dL_numbers_269 rfl rfl ?_
        refine pw_iconst_n (q := 272) C 2 dL_numbers_271 (by decide +kernel) rfl ?_
        refine pw_rd (q := 275) (cr_s (j := iL_course) C dL_numbers_272 lL_178 mL_course (ro_mk (by decide) (by decide))  (v_c2 hX hS (by omega)) rfl rfl (Nat.le_of_ble_eq_true rfl) ⟨by omega, by omega⟩) rfl ?_
        refine pw_iload (q := 277) C dL_numbers_275 rfl rfl ?_
        refine pw_isub_n (q := 278) C dL_numbers_277 (by omega) rfl ?_
        refine pw_icmp_gt_n (q := 281) 285 C dL_numbers_278 (by decide) rfl (by omega) (by omega) (fun g278 => absurd g278 (by omega)) (fun g278 => ?_)
        refine pw_iconst_n (q := 282) C 1 dL_numbers_281 (by decide +kernel) rfl ?_
        refine pw_goto (q := 0) 286 C dL_numbers_282 (by decide) ?_
        refine pw_and11 (q := 287) C dL_numbers_286 rfl ?_
        refine pw_istore_n (q := 288) (j := 1) C dL_numbers_287 rfl rfl (by decide) rfl ?_
        refine pw_iinc_n (q := 291) C 1 dL_numbers_288 rfl (by decide +kernel) rfl (by decide) rfl ?_
        refine pw_goto (q := 0) 128 C dL_numbers_291 (by decide) ?_
        have c9 : ¬ r < compl (sP S) := fun c => absurd (qi.mpr c) (by omega)
        exact ih (r + 1) (by omega) _ _ _ _ _ (by rw [h2, sumN]) (by rw [h4]; exact full_no c9) (by rw [Nat.mul_zero, bN, if_neg (by omega)]) (by rw [h7, sumN])
      · refine pw_iconst_n (q := 192) C 1 dL_numbers_191 (by decide +kernel) rfl ?_
        refine pw_goto (q := 0) 196 C dL_numbers_192 (by decide) ?_
        refine pw_andb (q := 197) (a5 * 1) C dL_numbers_196 q5 (by omega) rfl rfl ?_
        refine pw_istore (q := 199) C dL_numbers_197 rfl (by decide) rfl ?_
        refine pw_iload (q := 201) C dL_numbers_199 rfl rfl ?_
        refine pw_iload (q := 203) C dL_numbers_201 rfl rfl ?_
        refine pw_aload_n (q := 204) (j := 0) C dL_numbers_203 rfl rfl rfl ?_
        refine pw_iload (q := 206) C dL_numbers_204 rfl rfl ?_
        refine pw_iconst_n (q := 207) C 2 dL_numbers_206 (by decide +kernel) rfl ?_
        refine pw_rd (q := 210) (cr_s (j := iL_course) C dL_numbers_207 lL_178 mL_course (ro_mk (by decide) (by decide))  (v_c2 hX hS (by omega)) rfl rfl (Nat.le_of_ble_eq_true rfl) ⟨by omega, by omega⟩) rfl ?_
        refine pw_icmp_ne_n (q := 213) 217 C dL_numbers_210 (by decide) rfl (by omega) (by omega) (fun g210 => absurd g210 (by omega)) (fun g210 => ?_)
        refine pw_iconst_n (q := 214) C 1 dL_numbers_213 (by decide +kernel) rfl ?_
        refine pw_goto (q := 0) 218 C dL_numbers_214 (by decide) ?_
        refine pw_iadd_n (q := 219) C dL_numbers_218 rfl ?_
        refine pw_istore (q := 221) C dL_numbers_219 rfl (by decide) rfl ?_
        refine pw_iload_n (q := 222) (j := 2) C dL_numbers_221 rfl rfl rfl ?_
        refine pw_iload (q := 224) C dL_numbers_222 rfl rfl ?_
        refine pw_iadd_n (q := 225) C dL_numbers_224 rfl ?_
        refine pw_istore_n (q := 226) (j := 2) C dL_numbers_225 rfl rfl (by decide) rfl ?_
        refine pw_iload (q := 228) C dL_numbers_226 rfl rfl ?_
        refine pw_iload (q := 230) C dL_numbers_228 rfl rfl ?_
        refine pw_aload_n (q := 231) (j := 0) C dL_numbers_230 rfl rfl rfl ?_
        refine pw_iload (q := 233) C dL_numbers_231 rfl rfl ?_
        refine pw_iconst_n (q := 234) C 5 dL_numbers_233 (by decide +kernel) rfl ?_
        refine pw_rd (q := 237) (cr_s (j := iL_course) C dL_numbers_234 lL_178 mL_course (ro_mk (by decide) (by decide))  (v_c5 hX hS (by omega)) rfl rfl (Nat.le_of_ble_eq_true rfl) ⟨by omega, by omega⟩) rfl ?_
        refine pw_iadd_n (q := 238) C dL_numbers_237 rfl ?_
        refine pw_aload_n (q := 239) (j := 0) C dL_numbers_238 rfl rfl rfl ?_
        refine pw_iload (q := 241) C dL_numbers_239 rfl rfl ?_
        refine pw_bipush_n (q := 243) C 6 dL_numbers_241 (by decide +kernel) rfl ?_
        refine pw_rd (q := 246) (cr_s (j := iL_course) C dL_numbers_243 lL_178 mL_course (ro_mk (by decide) (by decide))  (v_c6 hX hS (by omega)) rfl rfl (Nat.le_of_ble_eq_true rfl) ⟨by omega, by omega⟩) rfl ?_
        refine pw_iadd_n (q := 247) C dL_numbers_246 rfl ?_
        refine pw_iadd_n (q := 248) C dL_numbers_247 rfl ?_
        refine pw_istore (q := 250) C dL_numbers_248 rfl (by decide) rfl ?_
        refine pw_iload_n (q := 251) (j := 1) C dL_numbers_250 rfl rfl rfl ?_
        refine pw_aload_n (q := 252) (j := 0) C dL_numbers_251 rfl rfl rfl ?_
        refine pw_iload (q := 254) C dL_numbers_252 rfl rfl ?_
        refine pw_iconst_n (q := 255) C 4 dL_numbers_254 (by decide +kernel) rfl ?_
        refine pw_rd (q := 258) (cr_s (j := iL_course) C dL_numbers_255 lL_178 mL_course (ro_mk (by decide) (by decide))  (v_c4 hX hS (by omega)) rfl rfl (Nat.le_of_ble_eq_true rfl) ⟨by omega, by omega⟩) rfl ?_
        refine pw_if_lt (q := 261) 285 C dL_numbers_258 (by decide) rfl (fun g258 => absurd g258 (nI_pos (by omega))) (fun g258 => ?_)
        refine pw_aload_n (q := 262) (j := 0) C dL_numbers_261 rfl rfl rfl ?_
        refine pw_iload (q := 264) C dL_numbers_262 rfl rfl ?_
        refine pw_iconst_n (q := 265) C 4 dL_numbers_264 (by decide +kernel) rfl ?_
        refine pw_rd (q := 268) (cr_s (j := iL_course) C dL_numbers_265 lL_178 mL_course (ro_mk (by decide) (by decide))  (v_c4 hX hS (by omega)) rfl rfl (Nat.le_of_ble_eq_true rfl) ⟨by omega, by omega⟩) rfl ?_
        refine pw_aload_n (q := 269) (j := 0) C dL_numbers_268 rfl rfl rfl ?_
        refine pw_iload (q := 271) C dL_numbers_269 rfl rfl ?_
        refine pw_iconst_n (q := 272) C 2 dL_numbers_271 (by decide +kernel) rfl ?_
        refine pw_rd (q := 275) (cr_s (j := iL_course) C dL_numbers_272 lL_178 mL_course (ro_mk (by decide) (by decide))  (v_c2 hX hS (by omega)) rfl rfl (Nat.le_of_ble_eq_true rfl) ⟨by omega, by omega⟩) rfl ?_
        refine pw_iload (q := 277) C dL_numbers_275 rfl rfl ?_
        refine pw_isub_n (q := 278) C dL_numbers_277 (by omega) rfl ?_
        refine pw_icmp_gt_n (q := 281) 285 C dL_numbers_278 (by decide) rfl (by omega) (by omega) (fun g278 => absurd g278 (by omega)) (fun g278 => ?_)
        refine pw_iconst_n (q := 282) C 1 dL_numbers_281 (by decide +kernel) rfl ?_
        refine pw_goto (q := 0) 286 C dL_numbers_282 (by decide) ?_
        refine pw_and11 (q := 287) C dL_numbers_286 rfl ?_
        refine pw_istore_n (q := 288) (j := 1) C dL_numbers_287 rfl rfl (by decide) rfl ?_
        refine pw_iinc_n (q := 291) C 1 dL_numbers_288 rfl (by decide +kernel) rfl (by decide) rfl ?_
        refine pw_goto (q := 0) 128 C dL_numbers_291 (by decide) ?_
        have c9 := qi.mp (by omega)
        exact ih (r + 1) (by omega) _ _ _ _ _ (by rw [h2, sumN]) (by rw [h4]; exact full_yes c9) (by rw [h5, bN, bN, if_pos (by omega), if_pos (by omega)]) (by rw [h7, sumN])
    · refine pw_iload (q := 167) C dL_numbers_165 rfl rfl ?_
      refine pw_if_ne_n (q := 170) 174 C dL_numbers_167 (by decide) rfl (by omega) (fun g167 => absurd g167 (by have := qb (by omega); omega)) (fun g167 => ?_)
      refine pw_iconst_n (q := 171) C 1 dL_numbers_170 (by decide +kernel) rfl ?_
      refine pw_goto (q := 0) 175 C dL_numbers_171 (by decide) ?_
      refine pw_and11 (q := 176) C dL_numbers_175 rfl ?_
      refine pw_istore_n (q := 177) (j := 1) C dL_numbers_176 rfl rfl (by decide) rfl ?_
      refine pw_iload (q := 179) C dL_numbers_177 rfl rfl ?_
      refine pw_iload (q := 181) C dL_numbers_179 rfl rfl ?_
      refine pw_aload_n (q := 182) (j := 0) C dL_numbers_181 rfl rfl rfl ?_
      refine pw_iload (q := 184) C dL_numbers_182 rfl rfl ?_
      refine pw_iconst_n (q := 185) C 2 dL_numbers_184 (by decide +kernel) rfl ?_
      refine pw_rd (q := 188) (cr_s (j := iL_course) C dL_numbers_185 lL_178 mL_course (ro_mk (by decide) (by decide))  (v_c2 hX hS (by omega)) rfl rfl (Nat.le_of_ble_eq_true rfl) ⟨by omega, by omega⟩) rfl ?_
      refine pw_icmp_ne_n (q := 191) 195 C dL_numbers_188 (by decide) rfl (by omega) (by omega) (fun g188 => ?_) (fun g188 => ?_)
      · refine pw_iconst_n (q := 196) C 0 dL_numbers_195 (by decide +kernel) rfl ?_
        refine pw_andb (q := 197) (a5 * 0) C dL_numbers_196 q5 (by omega) rfl rfl ?_
        refine pw_istore (q := 199) C dL_numbers_197 rfl (by decide) rfl ?_
        refine pw_iload (q := 201) C dL_numbers_199 rfl rfl ?_
        refine pw_iload (q := 203) C dL_numbers_201 rfl rfl ?_
        refine pw_aload_n (q := 204) (j := 0) C dL_numbers_203 rfl rfl rfl ?_
        refine pw_iload (q := 206) C dL_numbers_204 rfl rfl ?_
        refine pw_iconst_n (q := 207) C 2 dL_numbers_206 (by decide +kernel) rfl ?_
        refine pw_rd (q := 210) (cr_s (j := iL_course) C dL_numbers_207 lL_178 mL_course (ro_mk (by decide) (by decide))  (v_c2 hX hS (by omega)) rfl rfl (Nat.le_of_ble_eq_true rfl) ⟨by omega, by omega⟩) rfl ?_
        refine pw_icmp_ne_n (q := 213) 217 C dL_numbers_210 (by decide) rfl (by omega) (by omega) (fun g210 => ?_) (fun g210 => absurd g210 (by omega))
        refine pw_iconst_n (q := 218) C 0 dL_numbers_217 (by decide +kernel) rfl ?_
        refine pw_iadd_n (q := 219) C dL_numbers_218 rfl ?_
        refine pw_istore (q := 221) C dL_numbers_219 rfl (by decide) rfl ?_
        refine pw_iload_n (q := 222) (j := 2) C dL_numbers_221 rfl rfl rfl ?_
        refine pw_iload (q := 224) C dL_numbers_222 rfl rfl ?_
        refine pw_iadd_n (q := 225) C dL_numbers_224 rfl ?_
        refine pw_istore_n (q := 226) (j := 2) C dL_numbers_225 rfl rfl (by decide) rfl ?_
        refine pw_iload (q := 228) C dL_numbers_226 rfl rfl ?_
        refine pw_iload (q := 230) C dL_numbers_228 rfl rfl ?_
        refine pw_aload_n (q := 231) (j := 0) C dL_numbers_230 rfl rfl rfl ?_
        refine pw_iload (q := 233) C dL_numbers_231 rfl rfl ?_
        refine pw_iconst_n (q := 234) C 5 dL_numbers_233 (by decide +kernel) rfl ?_
        refine pw_rd (q := 237) (cr_s (j := iL_course) C dL_numbers_234 lL_178 mL_course (ro_mk (by decide) (by decide))  (v_c5 hX hS (by omega)) rfl rfl (Nat.le_of_ble_eq_true rfl) ⟨by omega, by omega⟩) rfl ?_
        refine pw_iadd_n (q := 238) C dL_numbers_237 rfl ?_
        refine pw_aload_n (q := 239) (j := 0) C dL_numbers_238 rfl rfl rfl ?_
        refine pw_iload (q := 241) C dL_numbers_239 rfl rfl ?_
        refine pw_bipush_n (q := 243) C 6 dL_numbers_241 (by decide +kernel) rfl ?_
        refine pw_rd (q := 246) (cr_s (j := iL_course) C dL_numbers_243 lL_178 mL_course (ro_mk (by decide) (by decide))  (v_c6 hX hS (by omega)) rfl rfl (Nat.le_of_ble_eq_true rfl) ⟨by omega, by omega⟩) rfl ?_
        refine pw_iadd_n (q := 247) C dL_numbers_246 rfl ?_
        refine pw_iadd_n (q := 248) C dL_numbers_247 rfl ?_
        refine pw_istore (q := 250) C dL_numbers_248 rfl (by decide) rfl ?_
        refine pw_iload_n (q := 251) (j := 1) C dL_numbers_250 rfl rfl rfl ?_
        refine pw_aload_n (q := 252) (j := 0) C dL_numbers_251 rfl rfl rfl ?_
        refine pw_iload (q := 254) C dL_numbers_252 rfl rfl ?_
        refine pw_iconst_n (q := 255) C 4 dL_numbers_254 (by decide +kernel) rfl ?_
        refine pw_rd (q := 258) (cr_s (j := iL_course) C dL_numbers_255 lL_178 mL_course (ro_mk (by decide) (by decide))  (v_c4 hX hS (by omega)) rfl rfl (Nat.le_of_ble_eq_true rfl) ⟨by omega, by omega⟩) rfl ?_
        refine pw_if_lt (q := 261) 285 C dL_numbers_258 (by decide) rfl (fun g258 => absurd g258 (nI_pos (by omega))) (fun g258 => ?_)
        refine pw_aload_n (q := 262) (j := 0) C dL_numbers_261 rfl rfl rfl ?_
        refine pw_iload (q := 264) C dL_numbers_262 rfl rfl ?_
        refine pw_iconst_n (q := 265) C 4 dL_numbers_264 (by decide +kernel) rfl ?_
        refine pw_rd (q := 268) (cr_s (j := iL_course) C dL_numbers_265 lL_178 mL_course (ro_mk (by decide) (by decide))  (v_c4 hX hS (by omega)) rfl rfl (Nat.le_of_ble_eq_true rfl) ⟨by omega, by omega⟩) rfl ?_
        refine pw_aload_n (q := 269) (j := 0) C dL_numbers_268 rfl rfl rfl ?_
        refine pw_iload (q := 271) C dL_numbers_269 rfl rfl ?_
        refine pw_iconst_n (q := 272) C 2 dL_numbers_271 (by decide +kernel) rfl ?_
        refine pw_rd (q := 275) (cr_s (j := iL_course) C dL_numbers_272 lL_178 mL_course (ro_mk (by decide) (by decide))  (v_c2 hX hS (by omega)) rfl rfl (Nat.le_of_ble_eq_true rfl) ⟨by omega, by omega⟩) rfl ?_
        refine pw_iload (q := 277) C dL_numbers_275 rfl rfl ?_
        refine pw_isub_n (q := 278) C dL_numbers_277 (by omega) rfl ?_
        refine pw_icmp_gt_n (q := 281) 285 C dL_numbers_278 (by decide) rfl (by omega) (by omega) (fun g278 => absurd g278 (by omega)) (fun g278 => ?_)
        refine pw_iconst_n (q := 282) C 1 dL_numbers_281 (by decide +kernel) rfl ?_
        refine pw_goto (q := 0) 286 C dL_numbers_282 (by decide) ?_
        refine pw_and11 (q := 287) C dL_numbers_286 rfl ?_
        refine pw_istore_n (q := 288) (j := 1) C dL_numbers_287 rfl rfl (by decide) rfl ?_
        refine pw_iinc_n (q := 291) C 1 dL_numbers_288 rfl (by decide +kernel) rfl (by decide) rfl ?_
        refine pw_goto (q := 0) 128 C dL_numbers_291 (by decide) ?_
        have c9 : ¬ r < compl (sP S) := fun c => absurd (qi.mpr c) (by omega)
        exact ih (r + 1) (by omega) _ _ _ _ _ (by rw [h2, sumN]) (by rw [h4]; exact full_no c9) (by rw [Nat.mul_zero, bN, if_neg (by omega)]) (by rw [h7, sumN])
      · refine pw_iconst_n (q := 192) C 1 dL_numbers_191 (by decide +kernel) rfl ?_
        refine pw_goto (q := 0) 196 C dL_numbers_192 (by decide) ?_
        refine pw_andb (q := 197) (a5 * 1) C dL_numbers_196 q5 (by omega) rfl rfl ?_
        refine pw_istore (q := 199) C dL_numbers_197 rfl (by decide) rfl ?_
        refine pw_iload (q := 201) C dL_numbers_199 rfl rfl ?_
        refine pw_iload (q := 203) C dL_numbers_201 rfl rfl ?_
        refine pw_aload_n (q := 204) (j := 0) C dL_numbers_203 rfl rfl rfl ?_
        refine pw_iload (q := 206) C dL_numbers_204 rfl rfl ?_
        refine pw_iconst_n (q := 207) C 2 dL_numbers_206 (by decide +kernel) rfl ?_
        refine pw_rd (q := 210) (cr_s (j := iL_course) C dL_numbers_207 lL_178 mL_course (ro_mk (by decide) (by decide))  (v_c2 hX hS (by omega)) rfl rfl (Nat.le_of_ble_eq_true rfl) ⟨by omega, by omega⟩) rfl ?_
        refine pw_icmp_ne_n (q := 213) 217 C dL_numbers_210 (by decide) rfl (by omega) (by omega) (fun g210 => absurd g210 (by omega)) (fun g210 => ?_)
        refine pw_iconst_n (q := 214) C 1 dL_numbers_213 (by decide +kernel) rfl ?_
        refine pw_goto (q := 0) 218 C dL_numbers_214 (by decide) ?_
        refine pw_iadd_n (q := 219) C dL_numbers_218 rfl ?_
        refine pw_istore (q := 221) C dL_numbers_219 rfl (by decide) rfl ?_
        refine pw_iload_n (q := 222) (j := 2) C dL_numbers_221 rfl rfl rfl ?_
        refine pw_iload (q := 224) C dL_numbers_222 rfl rfl ?_
        refine pw_iadd_n (q := 225) C dL_numbers_224 rfl ?_
        refine pw_istore_n (q := 226) (j := 2) C dL_numbers_225 rfl rfl (by decide) rfl ?_
        refine pw_iload (q := 228) C dL_numbers_226 rfl rfl ?_
        refine pw_iload (q := 230) C dL_numbers_228 rfl rfl ?_
        refine pw_aload_n (q := 231) (j := 0) C dL_numbers_230 rfl rfl rfl ?_
        refine pw_iload (q := 233) C dL_numbers_231 rfl rfl ?_
        refine pw_iconst_n (q := 234) C 5 dL_numbers_233 (by decide +kernel) rfl ?_
        refine pw_rd (q := 237) (cr_s (j := iL_course) C dL_numbers_234 lL_178 mL_course (ro_mk (by decide) (by decide))  (v_c5 hX hS (by omega)) rfl rfl (Nat.le_of_ble_eq_true rfl) ⟨by omega, by omega⟩) rfl ?_
        refine pw_iadd_n (q := 238) C dL_numbers_237 rfl ?_
        refine pw_aload_n (q := 239) (j := 0) C dL_numbers_238 rfl rfl rfl ?_
        refine pw_iload (q := 241) C dL_numbers_239 rfl rfl ?_
        refine pw_bipush_n (q := 243) C 6 dL_numbers_241 (by decide +kernel) rfl ?_
        refine pw_rd (q := 246) (cr_s (j := iL_course) C dL_numbers_243 lL_178 mL_course (ro_mk (by decide) (by decide))  (v_c6 hX hS (by omega)) rfl rfl (Nat.le_of_ble_eq_true rfl) ⟨by omega, by omega⟩) rfl ?_
        refine pw_iadd_n (q := 247) C dL_numbers_246 rfl ?_
        refine pw_iadd_n (q := 248) C dL_numbers_247 rfl ?_
        refine pw_istore (q := 250) C dL_numbers_248 rfl (by decide) rfl ?_
        refine pw_iload_n (q := 251) (j := 1) C dL_numbers_250 rfl rfl rfl ?_
        refine pw_aload_n (q := 252) (j := 0) C dL_numbers_251 rfl rfl rfl ?_
        refine pw_iload (q := 254) C dL_numbers_252 rfl rfl ?_
        refine pw_iconst_n (q := 255) C 4 dL_numbers_254 (by decide +kernel) rfl ?_
        refine pw_rd (q := 258) (cr_s (j := iL_course) C dL_numbers_255 lL_178 mL_course (ro_mk (by decide) (by decide))  (v_c4 hX hS (by omega)) rfl rfl (Nat.le_of_ble_eq_true rfl) ⟨by omega, by omega⟩) rfl ?_
        refine pw_if_lt (q := 261) 285 C dL_numbers_258 (by decide) rfl (fun g258 => absurd g258 (nI_pos (by omega))) (fun g258 => ?_)
        refine pw_aload_n (q := 262) (j := 0) C dL_numbers_261 rfl rfl rfl ?_
        refine pw_iload (q := 264) C dL_numbers_262 rfl rfl ?_
        refine pw_iconst_n (q := 265) C 4 dL_numbers_264 (by decide +kernel) rfl ?_
        refine pw_rd (q := 268) (cr_s (j := iL_course) C dL_numbers_265 lL_178 mL_course (ro_mk (by decide) (by decide))  (v_c4 hX hS (by omega)) rfl rfl (Nat.le_of_ble_eq_true rfl) ⟨by omega, by omega⟩) rfl ?_
        refine pw_aload_n (q := 269) (j := 0) C dL_numbers_268 rfl rfl rfl ?_
        refine pw_iload (q := 271) C dL_numbers_269 rfl rfl ?_
        refine pw_iconst_n (q := 272) C 2 dL_numbers_271 (by decide +kernel) rfl ?_
        refine pw_rd (q := 275) (cr_s (j := iL_course) C dL_numbers_272 lL_178 mL_course (ro_mk (by decide) (by decide))  (v_c2 hX hS (by omega)) rfl rfl (Nat.le_of_ble_eq_true rfl) ⟨by omega, by omega⟩) rfl ?_
        refine pw_iload (q := 277) C dL_numbers_275 rfl rfl ?_
        refine pw_isub_n (q := 278) C dL_numbers_277 (by omega) rfl ?_
        refine pw_icmp_gt_n (q := 281) 285 C dL_numbers_278 (by decide) rfl (by omega) (by omega) (fun g278 => absurd g278 (by omega)) (fun g278 => ?_)
        refine pw_iconst_n (q := 282) C 1 dL_numbers_281 (by decide +kernel) rfl ?_
        refine pw_goto (q := 0) 286 C dL_numbers_282 (by decide) ?_
        refine pw_and11 (q := 287) C dL_numbers_286 rfl ?_
        refine pw_istore_n (q := 288) (j := 1) C dL_numbers_287 rfl rfl (by decide) rfl ?_
        refine pw_iinc_n (q := 291) C 1 dL_numbers_288 rfl (by decide +kernel) rfl (by decide) rfl ?_
        refine pw_goto (q := 0) 128 C dL_numbers_291 (by decide) ?_
        have c9 := qi.mp (by omega)
        exact ih (r + 1) (by omega) _ _ _ _ _ (by rw [h2, sumN]) (by rw [h4]; exact full_yes c9) (by rw [h5, bN, bN, if_pos (by omega), if_pos (by omega)]) (by rw [h7, sumN])
set_option maxHeartbeats 400000 in
set_option maxRecDepth 100000 in
theorem num3 {Γ : CX} {G : GC} {Z : State → Prop} {mc ms k n : Nat} {M : PH} {x D : Nat} {S : St} (hX : RepX M x S) (hG : SG D S) (hD : D < 90000) (C : Cx Γ G iL_numbers [] mc ms) (hkn : k ≤ mc ∧ n ≤ ms) {a2 a4 a5 a6 a7 : Nat} (K : PW Γ G Z 416 [some (.ref x), some (.int (nI 1)), some (.int (nI (a2))), some (.int (nI (sumN (fun m => sP S (26 + 4 * m + 3)) (sP S 6)))), some (.int (nI (a4))), some (.int (nI (a5))), some (.int (nI (a6))), some (.int (nI (a7))), some (.int (nI (sumN (fun m => cntM (sP S) m 2 + cntM (sP S) m 4) (sP S 6)))), some (.int (nI (sumN (fun m => cntM (sP S) m 3) (sP S 6)))), some (.int (nI (sP S 6))), none] [] M k n) : ∀ (d r : Nat), r + d = sP S 6 → ∀ (a3 a8 a9 : Nat), a3 = sumN (fun m => sP S (26 + 4 * m + 3)) r → a8 = sumN (fun m => cntM (sP S) m 2 + cntM (sP S) m 4) r → a9 = sumN (fun m => cntM (sP S) m 3) r → PW Γ G Z 303 [some (.ref x), some (.int (nI 1)), some (.int (nI (a2))), some (.int (nI (a3))), some (.int (nI (a4))), some (.int (nI (a5))), some (.int (nI (a6))), some (.int (nI (a7))), some (.int (nI (a8))), some (.int (nI (a9))), some (.int (nI (r))), none] [] M k n := by
  have hS := hG.1
  have hI := hS.1.1
  have hb := hI.b
  have hF := hG.2.1
  intro d
  induction d with
  | zero =>
    intro r hr a3 a8 a9 h3 h8 h9
    obtain rfl : r = sP S 6 := by omega
    subst h3
    subst h8
    subst h9
    refine pw_iload (q := 305) C dL_numbers_303 rfl rfl ?_
    refine pw_aload_n (q := 306) (j := 0) C dL_numbers_305 rfl rfl rfl ?_
    refine pw_iconst_n (q := 307) C 1 dL_numbers_306 (by decide +kernel) rfl ?_
    refine pw_rd (q := 310) (cr_s (j := iL_about) C dL_numbers_307 lL_176 mL_about (ro_mk (by decide) (by decide))  (v_a1 hX hS) rfl rfl (Nat.le_of_ble_eq_true rfl) ⟨by omega, by omega⟩) rfl ?_
    refine pw_icmp_ge_n (q := 313) 416 C dL_numbers_310 (by decide) rfl (by omega) (by omega) (fun g310 => ?_) (fun g310 => absurd g310 (by omega))
    exact K
  | succ d ih =>
    intro r hr a3 a8 a9 h3 h8 h9
    have q := hI.m (m := r) (by omega)
    have qf := hF.2.2.1 r (by omega)
    have q1 := cntM_le hI r 2
    have q2 := cntM_le hI r 3
    have q3 := cntM_le hI r 4
    refine pw_iload (q := 305) C dL_numbers_303 rfl rfl ?_
    refine pw_aload_n (q := 306) (j := 0) C dL_numbers_305 rfl rfl rfl ?_
    refine pw_iconst_n (q := 307) C 1 dL_numbers_306 (by decide +kernel) rfl ?_
    refine pw_rd (q := 310) (cr_s (j := iL_about) C dL_numbers_307 lL_176 mL_about (ro_mk (by decide) (by decide))  (v_a1 hX hS) rfl rfl (Nat.le_of_ble_eq_true rfl) ⟨by omega, by omega⟩) rfl ?_
    refine pw_icmp_ge_n (q := 313) 416 C dL_numbers_310 (by decide) rfl (by omega) (by omega) (fun g310 => absurd g310 (by omega)) (fun g310 => ?_)
    refine pw_iload_n (q := 314) (j := 1) C dL_numbers_313 rfl rfl rfl ?_
    refine pw_aload_n (q := 315) (j := 0) C dL_numbers_314 rfl rfl rfl ?_
    refine pw_iload (q := 317) C dL_numbers_315 rfl rfl ?_
    refine pw_iconst_n (q := 318) C 2 dL_numbers_317 (by decide +kernel) rfl ?_
    refine pw_rd (q := 321) (cr_s (j := iL_mason) C dL_numbers_318 lL_180 mL_mason (ro_mk (by decide) (by decide))  (v_m2 hX hS (by omega)) rfl rfl (Nat.le_of_ble_eq_true rfl) ⟨by omega, by omega⟩) rfl ?_
    refine pw_if_lt (q := 324) 373 C dL_numbers_321 (by decide) rfl (fun g321 => absurd g321 (nI_pos (by omega))) (fun g321 => ?_)
    refine pw_aload_n (q := 325) (j := 0) C dL_numbers_324 rfl rfl rfl ?_
    refine pw_iload (q := 327) C dL_numbers_325 rfl rfl ?_
    refine pw_iconst_n (q := 328) C 2 dL_numbers_327 (by decide +kernel) rfl ?_
    refine pw_rd (q := 331) (cr_s (j := iL_mason) C dL_numbers_328 lL_180 mL_mason (ro_mk (by decide) (by decide))  (v_m2 hX hS (by omega)) rfl rfl (Nat.le_of_ble_eq_true rfl) ⟨by omega, by omega⟩) rfl ?_
    refine pw_aload_n (q := 332) (j := 0) C dL_numbers_331 rfl rfl rfl ?_
    refine pw_iload (q := 334) C dL_numbers_332 rfl rfl ?_
    refine pw_iconst_n (q := 335) C 1 dL_numbers_334 (by decide +kernel) rfl ?_
    refine pw_rd (q := 338) (cr_s (j := iL_mason) C dL_numbers_335 lL_180 mL_mason (ro_mk (by decide) (by decide))  (v_m1 hX hS (by omega)) rfl rfl (Nat.le_of_ble_eq_true rfl) ⟨by omega, by omega⟩) rfl ?_
    refine pw_icmp_gt_n (q := 341) 373 C dL_numbers_338 (by decide) rfl (by omega) (by omega) (fun g338 => absurd g338 (by omega)) (fun g338 => ?_)
    refine pw_aload_n (q := 342) (j := 0) C dL_numbers_341 rfl rfl rfl ?_
    refine pw_iload (q := 344) C dL_numbers_342 rfl rfl ?_
    refine pw_iconst_n (q := 345) C 3 dL_numbers_344 (by decide +kernel) rfl ?_
    refine pw_rd (q := 348) (cr_s (j := iL_mason) C dL_numbers_345 lL_180 mL_mason (ro_mk (by decide) (by decide))  (v_m3 hX hS (by omega)) rfl rfl (Nat.le_of_ble_eq_true rfl) ⟨by omega, by omega⟩) rfl ?_
    refine pw_if_lt (q := 351) 373 C dL_numbers_348 (by decide) rfl (fun g348 => absurd g348 (nI_pos (by omega))) (fun g348 => ?_)
    refine pw_aload_n (q := 352) (j := 0) C dL_numbers_351 rfl rfl rfl ?_
    refine pw_iconst_n (q := 353) C 4 dL_numbers_352 (by decide +kernel) rfl ?_
    refine pw_rd (q := 356) (cr_s (j := iL_about) C dL_numbers_353 lL_176 mL_about (ro_mk (by decide) (by decide))  (v_a4 hX hS) rfl rfl (Nat.le_of_ble_eq_true rfl) ⟨by omega, by omega⟩) rfl ?_
    refine pw_if_eq_n (q := 359) 369 C dL_numbers_356 (by decide) rfl (by omega) (fun g356 => ?_) (fun g356 => ?_)
    · refine pw_iconst_n (q := 370) C 1 dL_numbers_369 (by decide +kernel) rfl ?_
      refine pw_goto (q := 0) 374 C dL_numbers_370 (by decide) ?_
      refine pw_and11 (q := 375) C dL_numbers_374 rfl ?_
      refine pw_istore_n (q := 376) (j := 1) C dL_numbers_375 rfl rfl (by decide) rfl ?_
      refine pw_iload_n (q := 377) (j := 3) C dL_numbers_376 rfl rfl rfl ?_
      refine pw_aload_n (q := 378) (j := 0) C dL_numbers_377 rfl rfl rfl ?_
      refine pw_iload (q := 380) C dL_numbers_378 rfl rfl ?_
      refine pw_iconst_n (q := 381) C 3 dL_numbers_380 (by decide +kernel) rfl ?_
      refine pw_rd (q := 384) (cr_s (j := iL_mason) C dL_numbers_381 lL_180 mL_mason (ro_mk (by decide) (by decide))  (v_m3 hX hS (by omega)) rfl rfl (Nat.le_of_ble_eq_true rfl) ⟨by omega, by omega⟩) rfl ?_
      refine pw_iadd_n (q := 385) C dL_numbers_384 rfl ?_
      refine pw_istore_n (q := 386) (j := 3) C dL_numbers_385 rfl rfl (by decide) rfl ?_
      refine pw_iload (q := 388) C dL_numbers_386 rfl rfl ?_
      refine pw_aload_n (q := 389) (j := 0) C dL_numbers_388 rfl rfl rfl ?_
      refine pw_iload (q := 391) C dL_numbers_389 rfl rfl ?_
      refine pw_iconst_n (q := 392) C 4 dL_numbers_391 (by decide +kernel) rfl ?_
      refine pw_rd (q := 395) (cr_s (j := iL_mason) C dL_numbers_392 lL_180 mL_mason (ro_mk (by decide) (by decide))  (v_m4 hX hS (by omega)) rfl rfl (Nat.le_of_ble_eq_true rfl) ⟨by omega, by omega⟩) rfl ?_
      refine pw_iadd_n (q := 396) C dL_numbers_395 rfl ?_
      refine pw_istore (q := 398) C dL_numbers_396 rfl (by decide) rfl ?_
      refine pw_iload (q := 400) C dL_numbers_398 rfl rfl ?_
      refine pw_aload_n (q := 401) (j := 0) C dL_numbers_400 rfl rfl rfl ?_
      refine pw_iload (q := 403) C dL_numbers_401 rfl rfl ?_
      refine pw_iconst_n (q := 404) C 5 dL_numbers_403 (by decide +kernel) rfl ?_
      refine pw_rd (q := 407) (cr_s (j := iL_mason) C dL_numbers_404 lL_180 mL_mason (ro_mk (by decide) (by decide))  (v_m5 hX hS (by omega)) rfl rfl (Nat.le_of_ble_eq_true rfl) ⟨by omega, by omega⟩) rfl ?_
      refine pw_iadd_n (q := 408) C dL_numbers_407 rfl ?_
      refine pw_istore (q := 410) C dL_numbers_408 rfl (by decide) rfl ?_
      refine pw_iinc_n (q := 413) C 1 dL_numbers_410 rfl (by decide +kernel) rfl (by decide) rfl ?_
      refine pw_goto (q := 0) 303 C dL_numbers_413 (by decide) ?_
      exact ih (r + 1) (by omega) _ _ _ (by rw [h3, sumN]) (by rw [h8, sumN]) (by rw [h9, sumN])
    · refine pw_aload_n (q := 360) (j := 0) C dL_numbers_359 rfl rfl rfl ?_
      refine pw_iload (q := 362) C dL_numbers_360 rfl rfl ?_
      refine pw_iconst_n (q := 363) C 2 dL_numbers_362 (by decide +kernel) rfl ?_
      refine pw_rd (q := 366) (cr_s (j := iL_mason) C dL_numbers_363 lL_180 mL_mason (ro_mk (by decide) (by decide))  (v_m2 hX hS (by omega)) rfl rfl (Nat.le_of_ble_eq_true rfl) ⟨by omega, by omega⟩) rfl ?_
      refine pw_if_ne_n (q := 369) 373 C dL_numbers_366 (by decide) rfl (by omega) (fun g366 => absurd g366 (by omega)) (fun g366 => ?_)
      refine pw_iconst_n (q := 370) C 1 dL_numbers_369 (by decide +kernel) rfl ?_
      refine pw_goto (q := 0) 374 C dL_numbers_370 (by decide) ?_
      refine pw_and11 (q := 375) C dL_numbers_374 rfl ?_
      refine pw_istore_n (q := 376) (j := 1) C dL_numbers_375 rfl rfl (by decide) rfl ?_
      refine pw_iload_n (q := 377) (j := 3) C dL_numbers_376 rfl rfl rfl ?_
      refine pw_aload_n (q := 378) (j := 0) C dL_numbers_377 rfl rfl rfl ?_
      refine pw_iload (q := 380) C dL_numbers_378 rfl rfl ?_
      refine pw_iconst_n (q := 381) C 3 dL_numbers_380 (by decide +kernel) rfl ?_
      refine pw_rd (q := 384) (cr_s (j := iL_mason) C dL_numbers_381 lL_180 mL_mason (ro_mk (by decide) (by decide))  (v_m3 hX hS (by omega)) rfl rfl (Nat.le_of_ble_eq_true rfl) ⟨by omega, by omega⟩) rfl ?_
      refine pw_iadd_n (q := 385) C dL_numbers_384 rfl ?_
      refine pw_istore_n (q := 386) (j := 3) C dL_numbers_385 rfl rfl (by decide) rfl ?_
      refine pw_iload (q := 388) C dL_numbers_386 rfl rfl ?_
      refine pw_aload_n (q := 389) (j := 0) C dL_numbers_388 rfl rfl rfl ?_
      refine pw_iload (q := 391) C dL_numbers_389 rfl rfl ?_
      refine pw_iconst_n (q := 392) C 4 dL_numbers_391 (by decide +kernel) rfl ?_
      refine pw_rd (q := 395) (cr_s (j := iL_mason) C dL_numbers_392 lL_180 mL_mason (ro_mk (by decide) (by decide))  (v_m4 hX hS (by omega)) rfl rfl (Nat.le_of_ble_eq_true rfl) ⟨by omega, by omega⟩) rfl ?_
      refine pw_iadd_n (q := 396) C dL_numbers_395 rfl ?_
      refine pw_istore (q := 398) C dL_numbers_396 rfl (by decide) rfl ?_
      refine pw_iload (q := 400) C dL_numbers_398 rfl rfl ?_
      refine pw_aload_n (q := 401) (j := 0) C dL_numbers_400 rfl rfl rfl ?_
      refine pw_iload (q := 403) C dL_numbers_401 rfl rfl ?_
      refine pw_iconst_n (q := 404) C 5 dL_numbers_403 (by decide +kernel) rfl ?_
      refine pw_rd (q := 407) (cr_s (j := iL_mason) C dL_numbers_404 lL_180 mL_mason (ro_mk (by decide) (by decide))  (v_m5 hX hS (by omega)) rfl rfl (Nat.le_of_ble_eq_true rfl) ⟨by omega, by omega⟩) rfl ?_
      refine pw_iadd_n (q := 408) C dL_numbers_407 rfl ?_
      refine pw_istore (q := 410) C dL_numbers_408 rfl (by decide) rfl ?_
      refine pw_iinc_n (q := 413) C 1 dL_numbers_410 rfl (by decide +kernel) rfl (by decide) rfl ?_
      refine pw_goto (q := 0) 303 C dL_numbers_413 (by decide) ?_
      exact ih (r + 1) (by omega) _ _ _ (by rw [h3, sumN]) (by rw [h8, sumN]) (by rw [h9, sumN])
set_option maxHeartbeats 200000 in
set_option maxRecDepth 100000 in
theorem num4 {Γ : CX} {G : GC} {Z : State → Prop} {mc ms k n : Nat} {M : PH} {x D : Nat} {S : St} (hX : RepX M x S) (hG : SG D S) (hD : D < 90000) (C : Cx Γ G iL_numbers [] mc ms) (hkn : k ≤ mc ∧ n ≤ ms) {a2 a3 a4 a5 a6 a7 a8 a9 : Nat} (K : PW Γ G Z 459 [some (.ref x), some (.int (nI 1)), some (.int (nI (a2))), some (.int (nI (a3))), some (.int (nI (a4))), some (.int (nI (a5))), some (.int (nI (a6))), some (.int (nI (a7))), some (.int (nI (a8))), some (.int (nI (a9))), some (.int (nI (cntS (sP S) 2))), some (.int (nI (sP S 7)))] [] M k n) : ∀ (d r : Nat), r + d = sP S 7 → ∀ (a : Nat), a = cnt (fun s => sP S (50 + 6 * s + 3) = 2) r → PW Γ G Z 422 [some (.ref x), some (.int (nI 1)), some (.int (nI (a2))), some (.int (nI (a3))), some (.int (nI (a4))), some (.int (nI (a5))), some (.int (nI (a6))), some (.int (nI (a7))), some (.int (nI (a8))), some (.int (nI (a9))), some (.int (nI (a))), some (.int (nI (r)))] [] M k n := by
  have hS := hG.1
  have hI := hS.1.1
  have hb := hI.b
  have hF := hG.2.1
  intro d
  induction d with
  | zero =>
    intro r hr a ha
    obtain rfl : r = sP S 7 := by omega
    obtain rfl : a = cntS (sP S) 2 := ha
    refine pw_iload (q := 424) C dL_numbers_422 rfl rfl ?_
    refine pw_aload_n (q := 425) (j := 0) C dL_numbers_424 rfl rfl rfl ?_
    refine pw_iconst_n (q := 426) C 2 dL_numbers_425 (by decide +kernel) rfl ?_
    refine pw_rd (q := 429) (cr_s (j := iL_about) C dL_numbers_426 lL_176 mL_about (ro_mk (by decide) (by decide))  (v_a2 hX hS) rfl rfl (Nat.le_of_ble_eq_true rfl) ⟨by omega, by omega⟩) rfl ?_
    refine pw_icmp_ge_n (q := 432) 459 C dL_numbers_429 (by decide) rfl (by omega) (by omega) (fun g429 => ?_) (fun g429 => absurd g429 (by omega))
    exact K
  | succ d ih =>
    intro r hr a ha
    have q := hI.s (s := r) (by omega)
    refine pw_iload (q := 424) C dL_numbers_422 rfl rfl ?_
    refine pw_aload_n (q := 425) (j := 0) C dL_numbers_424 rfl rfl rfl ?_
    refine pw_iconst_n (q := 426) C 2 dL_numbers_425 (by decide +kernel) rfl ?_
    refine pw_rd (q := 429) (cr_s (j := iL_about) C dL_numbers_426 lL_176 mL_about (ro_mk (by decide) (by decide))  (v_a2 hX hS) rfl rfl (Nat.le_of_ble_eq_true rfl) ⟨by omega, by omega⟩) rfl ?_
    refine pw_icmp_ge_n (q := 432) 459 C dL_numbers_429 (by decide) rfl (by omega) (by omega) (fun g429 => absurd g429 (by omega)) (fun g429 => ?_)
    refine pw_iload (q := 434) C dL_numbers_432 rfl rfl ?_
    refine pw_aload_n (q := 435) (j := 0) C dL_numbers_434 rfl rfl rfl ?_
    refine pw_iload (q := 437) C dL_numbers_435 rfl rfl ?_
    refine pw_iconst_n (q := 438) C 3 dL_numbers_437 (by decide +kernel) rfl ?_
    refine pw_rd (q := 441) (cr_s (j := iL_stone) C dL_numbers_438 lL_182 mL_stone (ro_mk (by decide) (by decide))  (v_s3 hX hS (by omega)) rfl rfl (Nat.le_of_ble_eq_true rfl) ⟨by omega, by omega⟩) rfl ?_
    refine pw_iconst_n (q := 442) C 2 dL_numbers_441 (by decide +kernel) rfl ?_
    refine pw_icmp_ne_n (q := 445) 449 C dL_numbers_442 (by decide) rfl (by omega) (by omega) (fun g442 => ?_) (fun g442 => ?_)
    · refine pw_iconst_n (q := 450) C 0 dL_numbers_449 (by decide +kernel) rfl ?_
      refine pw_iadd_n (q := 451) C dL_numbers_450 rfl ?_
      refine pw_istore (q := 453) C dL_numbers_451 rfl (by decide) rfl ?_
      refine pw_iinc_n (q := 456) C 1 dL_numbers_453 rfl (by decide +kernel) rfl (by decide) rfl ?_
      refine pw_goto (q := 0) 422 C dL_numbers_456 (by decide) ?_
      exact ih (r + 1) (by omega) _ (by rw [ha, cnt, if_neg g442])
    · refine pw_iconst_n (q := 446) C 1 dL_numbers_445 (by decide +kernel) rfl ?_
      refine pw_goto (q := 0) 450 C dL_numbers_446 (by decide) ?_
      refine pw_iadd_n (q := 451) C dL_numbers_450 rfl ?_
      refine pw_istore (q := 453) C dL_numbers_451 rfl (by decide) rfl ?_
      refine pw_iinc_n (q := 456) C 1 dL_numbers_453 rfl (by decide +kernel) rfl (by decide) rfl ?_
      refine pw_goto (q := 0) 422 C dL_numbers_456 (by decide) ?_
      exact ih (r + 1) (by omega) _ (by rw [ha, cnt, if_pos g442])
set_option maxHeartbeats 200000 in
set_option maxRecDepth 100000 in
theorem v_numbers {M : PH} {x D : Nat} {S : St} (hX : RepX M x S) (hG : SG D S) (hD : D < 90000) : Run iL_numbers [.ref x] M 0 0 (RV (.int (nI 1)) (fun M1 => M1 = M)) := by
  have hS := hG.1
  have hI := hS.1.1
  have hb := hI.b
  have hF := hG.2.1
  have n1 := num_c hI 3
  have n2 := num_m hI 3
  have n3 := num_bad hI
  have n4 := num_by hI
  have n5 := num_all hI
  have n6 := cntS_le hI 3
  have n7 := cntS_le hI 2
  have n8 := cntS_le hI 4
  have n9 := compl_le (sP S)
  have m1 := hF.owed
  have m2 : owedAll (sP S) < 2147483648 := by
    have m3 : sP S 6 * (100 * D) ≤ 6 * (100 * D) := Nat.mul_le_mul_right _ (by omega)
    omega
  have m4 : sumN (fun m => sP S (26 + 4 * m + 3)) (sP S 6) = owedAll (sP S) := rfl
  have m5 : cnt (fun s => sP S (50 + 6 * s + 3) = 1) (sP S 7) = cntS (sP S) 1 := rfl
  have h00 : 0 ≤ 0 ∧ 0 ≤ 0 := ⟨Nat.le_refl 0, Nat.le_refl 0⟩
  refine Run.of (l0 := [some (.ref x), none, none, none, none, none, none, none, none, none, none, none]) (by decide +kernel) (Nat.le_of_ble_eq_true rfl) (by rfl) (fun Γ G C => ?_)
  refine pw_iconst_n (q := 1) C 1 dL_numbers_0 (by decide +kernel) rfl ?_
  refine pw_istore_n (q := 2) (j := 1) C dL_numbers_1 rfl rfl (by decide) rfl ?_
  refine pw_iconst_n (q := 3) C 0 dL_numbers_2 (by decide +kernel) rfl ?_
  refine pw_istore_n (q := 4) (j := 2) C dL_numbers_3 rfl rfl (by decide) rfl ?_
  refine pw_iconst_n (q := 5) C 0 dL_numbers_4 (by decide +kernel) rfl ?_
  refine pw_istore_n (q := 6) (j := 3) C dL_numbers_5 rfl rfl (by decide) rfl ?_
  refine pw_iconst_n (q := 7) C 0 dL_numbers_6 (by decide +kernel) rfl ?_
  refine pw_istore (q := 9) C dL_numbers_7 rfl (by decide) rfl ?_
  refine pw_iconst_n (q := 10) C 1 dL_numbers_9 (by decide +kernel) rfl ?_
  refine pw_istore (q := 12) C dL_numbers_10 rfl (by decide) rfl ?_
  refine pw_iconst_n (q := 13) C 0 dL_numbers_12 (by decide +kernel) rfl ?_
  refine pw_istore (q := 15) C dL_numbers_13 rfl (by decide) rfl ?_
  refine pw_iconst_n (q := 16) C 0 dL_numbers_15 (by decide +kernel) rfl ?_
  refine pw_istore (q := 18) C dL_numbers_16 rfl (by decide) rfl ?_
  refine num1 hX hG hD C h00 ?_ (sP S 7) 0 (by omega) 0 rfl
  refine pw_iconst_n (q := 123) C 0 dL_numbers_122 (by decide +kernel) rfl ?_
  refine pw_istore (q := 125) C dL_numbers_123 rfl (by decide) rfl ?_
  refine pw_iconst_n (q := 126) C 0 dL_numbers_125 (by decide +kernel) rfl ?_
  refine pw_istore (q := 128) C dL_numbers_126 rfl (by decide) rfl ?_
  refine num2 hX hG hD C h00 (fun a5 v9 => ?_) (sP S 5) 0 (by omega) 0 0 1 0 none rfl (by omega) (by rw [bN, if_pos (Nat.zero_le _)]) rfl
  refine pw_iconst_n (q := 295) C 0 dL_numbers_294 (by decide +kernel) rfl ?_
  refine pw_istore (q := 297) C dL_numbers_295 rfl (by decide) rfl ?_
  refine pw_iconst_n (q := 298) C 0 dL_numbers_297 (by decide +kernel) rfl ?_
  refine pw_istore (q := 300) C dL_numbers_298 rfl (by decide) rfl ?_
  refine pw_iconst_n (q := 301) C 0 dL_numbers_300 (by decide +kernel) rfl ?_
  refine pw_istore (q := 303) C dL_numbers_301 rfl (by decide) rfl ?_
  refine num3 hX hG hD C h00 ?_ (sP S 6) 0 (by omega) 0 0 0 rfl rfl rfl
  refine pw_iconst_n (q := 417) C 0 dL_numbers_416 (by decide +kernel) rfl ?_
  refine pw_istore (q := 419) C dL_numbers_417 rfl (by decide) rfl ?_
  refine pw_iconst_n (q := 420) C 0 dL_numbers_419 (by decide +kernel) rfl ?_
  refine pw_istore (q := 422) C dL_numbers_420 rfl (by decide) rfl ?_
  refine num4 hX hG hD C h00 ?_ (sP S 7) 0 (by omega) 0 rfl
  refine pw_iload_n (q := 460) (j := 1) C dL_numbers_459 rfl rfl rfl ?_
  refine pw_if_eq_n (q := 463) 538 C dL_numbers_460 (by decide) rfl (by omega) (fun g460 => absurd g460 (by decide)) (fun g460 => ?_)
  refine pw_iload_n (q := 464) (j := 2) C dL_numbers_463 rfl rfl rfl ?_
  refine pw_aload_n (q := 465) (j := 0) C dL_numbers_464 rfl rfl rfl ?_
  refine pw_bipush_n (q := 467) C 7 dL_numbers_465 (by decide +kernel) rfl ?_
  refine pw_rd (q := 470) (cr_s (j := iL_about) C dL_numbers_467 lL_176 mL_about (ro_mk (by decide) (by decide))  (v_a7 hX hS) rfl rfl (Nat.le_of_ble_eq_true rfl) ⟨by omega, by omega⟩) rfl ?_
  refine pw_icmp_ne_n (q := 473) 538 C dL_numbers_470 (by decide) rfl (by omega) (by omega) (fun g470 => absurd g470 (by omega)) (fun g470 => ?_)
  refine pw_iload (q := 475) C dL_numbers_473 rfl rfl ?_
  refine pw_iload_n (q := 476) (j := 2) C dL_numbers_475 rfl rfl rfl ?_
  refine pw_icmp_ne_n (q := 479) 538 C dL_numbers_476 (by decide) rfl (by omega) (by omega) (fun g476 => absurd g476 (by omega)) (fun g476 => ?_)
  refine pw_iload_n (q := 480) (j := 3) C dL_numbers_479 rfl rfl rfl ?_
  refine pw_aload_n (q := 481) (j := 0) C dL_numbers_480 rfl rfl rfl ?_
  refine pw_bipush_n (q := 483) C 9 dL_numbers_481 (by decide +kernel) rfl ?_
  refine pw_rd (q := 486) (cr_s (j := iL_about) C dL_numbers_483 lL_176 mL_about (ro_mk (by decide) (by decide))  (v_a9 hX hS) rfl rfl (Nat.le_of_ble_eq_true rfl) ⟨by omega, by omega⟩) rfl ?_
  refine pw_icmp_ne_n (q := 489) 538 C dL_numbers_486 (by decide) rfl (by omega) (by omega) (fun g486 => absurd g486 (by omega)) (fun g486 => ?_)
  refine pw_iload (q := 491) C dL_numbers_489 rfl rfl ?_
  refine pw_aload_n (q := 492) (j := 0) C dL_numbers_491 rfl rfl rfl ?_
  refine pw_bipush_n (q := 494) C 6 dL_numbers_492 (by decide +kernel) rfl ?_
  refine pw_rd (q := 497) (cr_s (j := iL_about) C dL_numbers_494 lL_176 mL_about (ro_mk (by decide) (by decide))  (v_a6 hX hS) rfl rfl (Nat.le_of_ble_eq_true rfl) ⟨by omega, by omega⟩) rfl ?_
  refine pw_icmp_ne_n (q := 500) 538 C dL_numbers_497 (by decide) rfl (by omega) (by omega) (fun g497 => absurd g497 (by omega)) (fun g497 => ?_)
  refine pw_iload (q := 502) C dL_numbers_500 rfl rfl ?_
  refine pw_iload (q := 504) C dL_numbers_502 rfl rfl ?_
  refine pw_aload_n (q := 505) (j := 0) C dL_numbers_504 rfl rfl rfl ?_
  refine pw_bipush_n (q := 507) C 8 dL_numbers_505 (by decide +kernel) rfl ?_
  refine pw_rd (q := 510) (cr_s (j := iL_about) C dL_numbers_507 lL_176 mL_about (ro_mk (by decide) (by decide))  (v_a8 hX hS) rfl rfl (Nat.le_of_ble_eq_true rfl) ⟨by omega, by omega⟩) rfl ?_
  refine pw_iadd_n (q := 511) C dL_numbers_510 rfl ?_
  refine pw_icmp_ne_n (q := 514) 538 C dL_numbers_511 (by decide) rfl (by omega) (by omega) (fun g511 => absurd g511 (by omega)) (fun g511 => ?_)
  refine pw_iload (q := 516) C dL_numbers_514 rfl rfl ?_
  refine pw_iload (q := 518) C dL_numbers_516 rfl rfl ?_
  refine pw_iadd_n (q := 519) C dL_numbers_518 rfl ?_
  refine pw_aload_n (q := 520) (j := 0) C dL_numbers_519 rfl rfl rfl ?_
  refine pw_bipush_n (q := 522) C 8 dL_numbers_520 (by decide +kernel) rfl ?_
  refine pw_rd (q := 525) (cr_s (j := iL_about) C dL_numbers_522 lL_176 mL_about (ro_mk (by decide) (by decide))  (v_a8 hX hS) rfl rfl (Nat.le_of_ble_eq_true rfl) ⟨by omega, by omega⟩) rfl ?_
  refine pw_iadd_n (q := 526) C dL_numbers_525 rfl ?_
  refine pw_aload_n (q := 527) (j := 0) C dL_numbers_526 rfl rfl rfl ?_
  refine pw_iconst_n (q := 528) C 2 dL_numbers_527 (by decide +kernel) rfl ?_
  refine pw_rd (q := 531) (cr_s (j := iL_about) C dL_numbers_528 lL_176 mL_about (ro_mk (by decide) (by decide))  (v_a2 hX hS) rfl rfl (Nat.le_of_ble_eq_true rfl) ⟨by omega, by omega⟩) rfl ?_
  refine pw_icmp_ne_n (q := 534) 538 C dL_numbers_531 (by decide) rfl (by omega) (by omega) (fun g531 => absurd g531 (by omega)) (fun g531 => ?_)
  refine pw_iconst_n (q := 535) C 1 dL_numbers_534 (by decide +kernel) rfl ?_
  refine pw_goto (q := 0) 539 C dL_numbers_535 (by decide) ?_
  exact pw_zret C dL_numbers_539 rfl (by first | decide +kernel | exact nar_bN _ | exact nar_01 (by omega)) ⟨by omega, by omega⟩ (RV.mk rfl rfl)
