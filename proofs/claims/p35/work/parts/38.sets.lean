/-! The law's sets. -/
theorem can_le {P : Nat → Nat} (hI : Inv P) : canSetN P ≤ 144 := by
  have hb := hI.b
  unfold canSetN
  split
  · omega
  · refine Nat.le_trans (sumN_le (b := 24) (fun c hc => Nat.le_trans (Nat.min_le_right _ _) (cntC_le hI c 1))) ?_
    have h1 : min (fst (fun c => cntC P c 1 < openC P c) (P 5) + 1) (P 5) ≤ 6 := by omega
    have h2 := Nat.mul_le_mul_right 24 h1
    omega
def setsS (S : St) : St := if canSetN (sP S) ≤ 12 then trim (canSetN (sP S)) S else S
theorem SG.sets {D : Nat} {S : St} (h : SG D S) : SG D (setsS S) := by
  unfold setsS
  split
  · exact h.trim
  · exact h
/-- in a round: w tells whether a stone was set -/
def RI (c0 : Nat) (T : St) (r w : Nat) : Prop := w ≤ 1 ∧ (w = 0 → canSetN (sP T) = c0 ∧ ∀ s, s < r → why (sP T) s ≠ 0) ∧ (w = 1 → canSetN (sP T) < c0)
theorem RI.no {c0 r w : Nat} {T : St} (h : RI c0 T r w) (hy : why (sP T) r ≠ 0) : RI c0 T (r + 1) w := ⟨h.1, fun q => ⟨(h.2.1 q).1, fun s hs => by
  by_cases e : s = r
  · subst e; exact hy
  · exact (h.2.1 q).2 s (by omega)⟩, h.2.2⟩
theorem RI.yes {c0 r w : Nat} {T : St} (h : RI c0 T r w) (hI : Inv (sP T)) (hr : r < sP T 7) (hy : why (sP T) r = 0) : RI c0 (wA T (stateP (sP T) r 3)) (r + 1) 1 := by
  refine ⟨Nat.le_refl 1, fun q => absurd q (by decide), fun _ => ?_⟩
  have h1 := set_can hI hr hy
  show canSetN (stateP (sP T) r 3) < c0
  have h2 := h.2.1
  have h3 := h.2.2
  rcases (show w = 0 ∨ w = 1 by have := h.1; omega) with e | e
  · have := (h2 e).1; omega
  · have := h3 e; omega
set_option maxHeartbeats 400000 in
set_option maxRecDepth 100000 in
theorem sets1 {Γ : CX} {G : GC} {Z : State → Prop} {x D : Nat} {S : St} {M0 : PH} (h14 : sM S ≤ 14) (h12 : canSetN (sP S) ≤ 12) (C : Cx Γ G iL_sets [] 64 800) {c0 : Nat} (K : ∀ (M : PH) (T : St) (k w : Nat) (v8 v9 v10 : Option Value), SI M0 x D S T k M → canSetN (sP T) + k = canSetN (sP S) → sP T 7 = sP S 7 → RI c0 T (sP S 7) w → PW Γ G Z 27 [some (.ref x), some (.long (sumL (sP S))), none, some (.int (nI (canSetN (sP S)))), some (.int (nI (k))), some (.int (nI (1))), some (.int (nI (w))), some (.int (nI (sP S 7))), v8, v9, v10] [] M (2 * k) (12 * k)) : ∀ (d r : Nat), r + d = sP S 7 → ∀ (M : PH) (T : St) (k w : Nat) (v8 v9 v10 : Option Value), SI M0 x D S T k M → canSetN (sP T) + k = canSetN (sP S) → sP T 7 = sP S 7 → RI c0 T r w → PW Γ G Z 38 [some (.ref x), some (.long (sumL (sP S))), none, some (.int (nI (canSetN (sP S)))), some (.int (nI (k))), some (.int (nI (1))), some (.int (nI (w))), some (.int (nI (r))), v8, v9, v10] [] M (2 * k) (12 * k) := by
  intro d
  induction d with
  | zero =>
    intro r hr M T k w v8 v9 v10 hSI hc h7 hR
    obtain ⟨hX, hFr, hG, hB⟩ := id hSI
    have hS := hG.1
    have hI := hS.1.1
    have hb := hI.b
    obtain rfl : r = sP S 7 := by omega
    refine pw_iload (q := 40) C dL_sets_38 rfl rfl ?_
    refine pw_aload_n (q := 41) (j := 0) C dL_sets_40 rfl rfl rfl ?_
    refine pw_iconst_n (q := 42) C 2 dL_sets_41 (by decide +kernel) rfl ?_
    refine pw_rd (q := 45) (cr_s (j := iL_about) C dL_sets_42 lL_176 mL_about (ro_mk (by decide) (by decide))  (v_a2 hX hS) rfl rfl (Nat.le_of_ble_eq_true rfl) ⟨by omega, by omega⟩) rfl ?_
    refine pw_icmp_ge_n (q := 48) 176 C dL_sets_45 (by decide) rfl (by omega) (by omega) (fun g45 => ?_) (fun g45 => absurd g45 (by omega))
    refine pw_goto (q := 0) 27 C dL_sets_176 (by decide) ?_
    exact K M T k w v8 v9 v10 hSI hc h7 hR
  | succ d ih =>
    intro r hr M T k w v8 v9 v10 hSI hc h7 hR
    obtain ⟨hX, hFr, hG, hB⟩ := id hSI
    have hS := hG.1
    have hI := hS.1.1
    have hb := hI.b
    have q := hI.s (s := r) (by omega)
    have hw := why_le (sP T) r
    have hw1 := hR.1
    have q3 := cntC_le hI (sP T (50 + 6 * r)) 3
    refine pw_iload (q := 40) C dL_sets_38 rfl rfl ?_
    refine pw_aload_n (q := 41) (j := 0) C dL_sets_40 rfl rfl rfl ?_
    refine pw_iconst_n (q := 42) C 2 dL_sets_41 (by decide +kernel) rfl ?_
    refine pw_rd (q := 45) (cr_s (j := iL_about) C dL_sets_42 lL_176 mL_about (ro_mk (by decide) (by decide))  (v_a2 hX hS) rfl rfl (Nat.le_of_ble_eq_true rfl) ⟨by omega, by omega⟩) rfl ?_
    refine pw_icmp_ge_n (q := 48) 176 C dL_sets_45 (by decide) rfl (by omega) (by omega) (fun g45 => absurd g45 (by omega)) (fun g45 => ?_)
    refine pw_aload_n (q := 49) (j := 0) C dL_sets_48 rfl rfl rfl ?_
    refine pw_bipush_n (q := 51) C 6 dL_sets_49 (by decide +kernel) rfl ?_
    refine pw_iload (q := 53) C dL_sets_51 rfl rfl ?_
    refine pw_iconst_n (q := 54) C 0 dL_sets_53 (by decide +kernel) rfl ?_
    refine pw_iconst_n (q := 55) C 0 dL_sets_54 (by decide +kernel) rfl ?_
    refine pw_iconst_n (q := 56) C 0 dL_sets_55 (by decide +kernel) rfl ?_
    refine pw_rd (q := 59) (cr_s (j := iL_call) C dL_sets_56 lL_170 mL_call (ro_mk (by decide) (by decide))  (v_why hX hS (by omega)) rfl rfl (Nat.le_of_ble_eq_true rfl) ⟨by omega, by omega⟩) rfl ?_
    refine pw_istore (q := 61) C dL_sets_59 rfl (by decide) rfl ?_
    refine pw_aload_n (q := 62) (j := 0) C dL_sets_61 rfl rfl rfl ?_
    refine pw_aload_n (q := 63) (j := 0) C dL_sets_62 rfl rfl rfl ?_
    refine pw_iload (q := 65) C dL_sets_63 rfl rfl ?_
    refine pw_iconst_n (q := 66) C 0 dL_sets_65 (by decide +kernel) rfl ?_
    refine pw_rd (q := 69) (cr_s (j := iL_stone) C dL_sets_66 lL_182 mL_stone (ro_mk (by decide) (by decide))  (v_s0 hX hS (by omega)) rfl rfl (Nat.le_of_ble_eq_true rfl) ⟨by omega, by omega⟩) rfl ?_
    refine pw_iconst_n (q := 70) C 3 dL_sets_69 (by decide +kernel) rfl ?_
    refine pw_rd (q := 73) (cr_s (j := iL_course) C dL_sets_70 lL_178 mL_course (ro_mk (by decide) (by decide))  (v_c3 hX hS (by omega)) rfl rfl (Nat.le_of_ble_eq_true rfl) ⟨by omega, by omega⟩) rfl ?_
    refine pw_istore (q := 75) C dL_sets_73 rfl (by decide) rfl ?_
    refine pw_iload (q := 77) C dL_sets_75 rfl rfl ?_
    refine pw_if_ne_n (q := 80) 101 C dL_sets_77 (by decide) rfl (by omega) (fun g77 => ?_) (fun g77 => ?_)
    · refine pw_ldci (q := 103) C dL_sets_101 cn_26 rfl ?_
      refine pw_istore (q := 105) C dL_sets_103 rfl (by decide) rfl ?_
      refine pw_iload (q := 107) C dL_sets_105 rfl rfl ?_
      refine pw_iload (q := 109) C dL_sets_107 rfl rfl ?_
      refine pw_if_gt_n (q := 112) 128 C dL_sets_109 (by decide) rfl (by omega) (fun g109 => ?_) (fun g109 => absurd g109 (by omega))
      refine pw_iconst_n (q := 129) C 1 dL_sets_128 (by decide +kernel) rfl ?_
      refine pw_goto (q := 0) 133 C dL_sets_129 (by decide) ?_
      refine pw_and11 (q := 134) C dL_sets_133 rfl ?_
      refine pw_istore (q := 136) C dL_sets_134 rfl (by decide) rfl ?_
      refine pw_iload (q := 138) C dL_sets_136 rfl rfl ?_
      refine pw_iload (q := 140) C dL_sets_138 rfl rfl ?_
      refine pw_ldci (q := 142) C dL_sets_140 cn_26 rfl ?_
      refine pw_icmp_ne (q := 145) 149 C dL_sets_142 (by decide) rfl (fun g142 => absurd g142 (fun h => h rfl)) (fun g142 => ?_)
      refine pw_iconst_n (q := 146) C 0 dL_sets_145 (by decide +kernel) rfl ?_
      refine pw_goto (q := 0) 150 C dL_sets_146 (by decide) ?_
      refine pw_iadd_n (q := 151) C dL_sets_150 rfl ?_
      refine pw_istore (q := 153) C dL_sets_151 rfl (by decide) rfl ?_
      refine pw_iload (q := 155) C dL_sets_153 rfl rfl ?_
      refine pw_iload (q := 157) C dL_sets_155 rfl rfl ?_
      refine pw_ldci (q := 159) C dL_sets_157 cn_26 rfl ?_
      refine pw_icmp_eq (q := 162) 166 C dL_sets_159 (by decide) rfl (fun g159 => ?_) (fun g159 => absurd g159 (fun h => h rfl))
      refine pw_iconst_n (q := 167) C 0 dL_sets_166 (by decide +kernel) rfl ?_
      refine pw_or0 (q := 168) C dL_sets_167 hw1 rfl ?_
      refine pw_istore (q := 170) C dL_sets_168 rfl (by decide) rfl ?_
      refine pw_iinc_n (q := 173) C 1 dL_sets_170 rfl (by decide +kernel) rfl (by decide) rfl ?_
      refine pw_goto (q := 0) 38 C dL_sets_173 (by decide) ?_
      exact ih (r + 1) (by omega) M T k w _ _ _ hSI hc h7 (hR.no g77)
    · refine pw_iload (q := 82) C dL_sets_80 rfl rfl ?_
      refine pw_bipush_n (q := 84) C 13 dL_sets_82 (by decide +kernel) rfl ?_
      refine pw_icmp_ge_n (q := 87) 101 C dL_sets_84 (by decide) rfl (by omega) (by omega) (fun g84 => absurd g84 (by omega)) (fun g84 => ?_)
      refine pw_aload_n (q := 88) (j := 0) C dL_sets_87 rfl rfl rfl ?_
      refine pw_bipush_n (q := 90) C 15 dL_sets_88 (by decide +kernel) rfl ?_
      refine pw_iload (q := 92) C dL_sets_90 rfl rfl ?_
      refine pw_iconst_n (q := 93) C 0 dL_sets_92 (by decide +kernel) rfl ?_
      refine pw_iconst_n (q := 94) C 0 dL_sets_93 (by decide +kernel) rfl ?_
      refine pw_iconst_n (q := 95) C 0 dL_sets_94 (by decide +kernel) rfl ?_
      refine pw_val (q := 98) (cr_s (j := iL_call) C dL_sets_95 lL_170 mL_call (ro_mk (by decide) (by decide))  (a_of (g_place hX hS) (e_place hI (by omega) g77)) rfl rfl (Nat.le_of_ble_eq_true rfl) ⟨by omega, by omega⟩) rfl (fun M95 e95 => ?_)
      have hSI9 := hSI.act h14 (by omega) e95 (by have z := sg_set hG (nI r); rw [e_place hI (by omega) g77] at z; exact z)
      refine pw_goto (q := 0) 103 C dL_sets_98 (by decide) ?_
      refine pw_istore (q := 105) C dL_sets_103 rfl (by decide) rfl ?_
      refine pw_iload (q := 107) C dL_sets_105 rfl rfl ?_
      refine pw_iload (q := 109) C dL_sets_107 rfl rfl ?_
      refine pw_if_gt_n (q := 112) 128 C dL_sets_109 (by decide) rfl (by omega) (fun g109 => absurd g109 (by omega)) (fun g109 => ?_)
      refine pw_iload (q := 114) C dL_sets_112 rfl rfl ?_
      refine pw_bipush_n (q := 116) C 12 dL_sets_114 (by decide +kernel) rfl ?_
      refine pw_icmp_gt_n (q := 119) 128 C dL_sets_116 (by decide) rfl (by omega) (by omega) (fun g116 => absurd g116 (by omega)) (fun g116 => ?_)
      refine pw_iload (q := 121) C dL_sets_119 rfl rfl ?_
      refine pw_iload (q := 123) C dL_sets_121 rfl rfl ?_
      refine pw_iconst_n (q := 124) C 1 dL_sets_123 (by decide +kernel) rfl ?_
      refine pw_iadd_n (q := 125) C dL_sets_124 rfl ?_
      refine pw_icmp_ne_n (q := 128) 132 C dL_sets_125 (by decide) rfl (by omega) (by omega) (fun g125 => absurd g125 (by omega)) (fun g125 => ?_)
      refine pw_iconst_n (q := 129) C 1 dL_sets_128 (by decide +kernel) rfl ?_
      refine pw_goto (q := 0) 133 C dL_sets_129 (by decide) ?_
      refine pw_and11 (q := 134) C dL_sets_133 rfl ?_
      refine pw_istore (q := 136) C dL_sets_134 rfl (by decide) rfl ?_
      refine pw_iload (q := 138) C dL_sets_136 rfl rfl ?_
      refine pw_iload (q := 140) C dL_sets_138 rfl rfl ?_
      refine pw_ldci (q := 142) C dL_sets_140 cn_26 rfl ?_
      refine pw_icmp_ne (q := 145) 149 C dL_sets_142 (by decide) rfl (fun g142 => ?_) (fun g142 => absurd g142 (nI_neS (by omega)))
      refine pw_iconst_n (q := 150) C 1 dL_sets_149 (by decide +kernel) rfl ?_
      refine pw_iadd_n (q := 151) C dL_sets_150 rfl ?_
      refine pw_istore (q := 153) C dL_sets_151 rfl (by decide) rfl ?_
      refine pw_iload (q := 155) C dL_sets_153 rfl rfl ?_
      refine pw_iload (q := 157) C dL_sets_155 rfl rfl ?_
      refine pw_ldci (q := 159) C dL_sets_157 cn_26 rfl ?_
      refine pw_icmp_eq (q := 162) 166 C dL_sets_159 (by decide) rfl (fun g159 => absurd g159 (nI_neS (by omega))) (fun g159 => ?_)
      refine pw_iconst_n (q := 163) C 1 dL_sets_162 (by decide +kernel) rfl ?_
      refine pw_goto (q := 0) 167 C dL_sets_163 (by decide) ?_
      refine pw_or1 (q := 168) C dL_sets_167 hw1 rfl ?_
      refine pw_istore (q := 170) C dL_sets_168 rfl (by decide) rfl ?_
      refine pw_iinc_n (q := 173) C 1 dL_sets_170 rfl (by decide +kernel) rfl (by decide) rfl ?_
      refine pw_goto (q := 0) 38 C dL_sets_173 (by decide) ?_
      have z := ih (r + 1) (by omega) _ _ (k + 1) 1 (some (.int (nI (why (sP T) r)))) (some (.int (nI (cntC (sP T) (sP T (50 + 6 * r)) 3)))) (some (.int (nI (cntC (sP T) (sP T (50 + 6 * r)) 3 + 1)))) hSI9 (by have z := set_can hI (show r < sP T 7 by omega) g77; show canSetN (stateP (sP T) r 3) + (k + 1) = _; omega) ((updN_ne (by omega)).trans h7) (hR.yes hI (by omega) g77)
      rw [show 2 * (k + 1) = 2 * k + 2 by omega, show 12 * (k + 1) = 12 * k + 12 by omega] at z
      exact z
set_option maxHeartbeats 400000 in
set_option maxRecDepth 100000 in
theorem sets2 {Γ : CX} {G : GC} {Z : State → Prop} {x D : Nat} {S : St} {M0 : PH} (h14 : sM S ≤ 14) (h12 : canSetN (sP S) ≤ 12) (C : Cx Γ G iL_sets [] 64 800) (K : ∀ (M : PH) (T : St) (k : Nat) (v7 v8 v9 v10 : Option Value), SI M0 x D S T k M → canSetN (sP T) + k = canSetN (sP S) → sP T 7 = sP S 7 → canSetN (sP T) = 0 → PW Γ G Z 179 [some (.ref x), some (.long (sumL (sP S))), none, some (.int (nI (canSetN (sP S)))), some (.int (nI (k))), some (.int (nI (1))), some (.int (nI (0))), v7, v8, v9, v10] [] M (2 * k) (12 * k)) : ∀ (c0 c : Nat), c ≤ c0 → ∀ (M : PH) (T : St) (k : Nat) (v7 v8 v9 v10 : Option Value), SI M0 x D S T k M → canSetN (sP T) + k = canSetN (sP S) → sP T 7 = sP S 7 → canSetN (sP T) = c → PW Γ G Z 27 [some (.ref x), some (.long (sumL (sP S))), none, some (.int (nI (canSetN (sP S)))), some (.int (nI (k))), some (.int (nI (1))), some (.int (nI (1))), v7, v8, v9, v10] [] M (2 * k) (12 * k) := by
  intro c0
  induction c0 with
  | zero =>
    intro c hc0
    intro M T k v7 v8 v9 v10 hSI hc h7 hcc
    refine pw_iload (q := 29) C dL_sets_27 rfl rfl ?_
    refine pw_if_eq_n (q := 32) 179 C dL_sets_29 (by decide) rfl (by omega) (fun g29 => absurd g29 (by decide)) (fun g29 => ?_)
    refine pw_iconst_n (q := 33) C 0 dL_sets_32 (by decide +kernel) rfl ?_
    refine pw_istore (q := 35) C dL_sets_33 rfl (by decide) rfl ?_
    refine pw_iconst_n (q := 36) C 0 dL_sets_35 (by decide +kernel) rfl ?_
    refine pw_istore (q := 38) C dL_sets_36 rfl (by decide) rfl ?_
    refine sets1 h14 h12 C (c0 := c) (fun M1 T1 k1 w1 v8 v9 v10 hS1 hc1 h71 hR1 => ?_) (sP S 7) 0 (by omega) M T k 0 _ _ _ hSI hc h7 ⟨Nat.zero_le 1, fun _ => ⟨hcc, fun s hs => absurd hs (Nat.not_lt_zero s)⟩, fun q => absurd q (by decide)⟩
    rcases (show w1 = 0 ∨ w1 = 1 by have := hR1.1; omega) with rfl | rfl
    · refine pw_iload (q := 29) C dL_sets_27 rfl rfl ?_
      refine pw_if_eq_n (q := 32) 179 C dL_sets_29 (by decide) rfl (by omega) (fun g29 => ?_) (fun g29 => absurd g29 (fun h => h rfl))
      exact K M1 T1 k1 _ _ _ _ hS1 hc1 h71 (can_0 hS1.2.2.1.1.1.1 (fun s hs => (hR1.2.1 rfl).2 s (by omega)))
    · exact absurd (hR1.2.2 rfl) (by omega)
  | succ c0 ih =>
    intro c hc0
    intro M T k v7 v8 v9 v10 hSI hc h7 hcc
    refine pw_iload (q := 29) C dL_sets_27 rfl rfl ?_
    refine pw_if_eq_n (q := 32) 179 C dL_sets_29 (by decide) rfl (by omega) (fun g29 => absurd g29 (by decide)) (fun g29 => ?_)
    refine pw_iconst_n (q := 33) C 0 dL_sets_32 (by decide +kernel) rfl ?_
    refine pw_istore (q := 35) C dL_sets_33 rfl (by decide) rfl ?_
    refine pw_iconst_n (q := 36) C 0 dL_sets_35 (by decide +kernel) rfl ?_
    refine pw_istore (q := 38) C dL_sets_36 rfl (by decide) rfl ?_
    refine sets1 h14 h12 C (c0 := c) (fun M1 T1 k1 w1 v8 v9 v10 hS1 hc1 h71 hR1 => ?_) (sP S 7) 0 (by omega) M T k 0 _ _ _ hSI hc h7 ⟨Nat.zero_le 1, fun _ => ⟨hcc, fun s hs => absurd hs (Nat.not_lt_zero s)⟩, fun q => absurd q (by decide)⟩
    rcases (show w1 = 0 ∨ w1 = 1 by have := hR1.1; omega) with rfl | rfl
    · refine pw_iload (q := 29) C dL_sets_27 rfl rfl ?_
      refine pw_if_eq_n (q := 32) 179 C dL_sets_29 (by decide) rfl (by omega) (fun g29 => ?_) (fun g29 => absurd g29 (fun h => h rfl))
      exact K M1 T1 k1 _ _ _ _ hS1 hc1 h71 (can_0 hS1.2.2.1.1.1.1 (fun s hs => (hR1.2.1 rfl).2 s (by omega)))
    · exact ih (canSetN (sP T1)) (by have := hR1.2.2 rfl; omega) M1 T1 k1 _ v8 v9 v10 hS1 hc1 h71 rfl
set_option maxHeartbeats 400000 in
set_option maxRecDepth 100000 in
theorem sets3 {Γ : CX} {G : GC} {Z : State → Prop} {x D K : Nat} {S : St} {M0 : PH} (h12 : K ≤ 12) (C : Cx Γ G iL_sets [] 64 800) {v8 v9 v10 : Option Value} (KE : ∀ (M : PH) (U : St), UI M0 x D K S U 0 M → PW Γ G Z 241 [some (.ref x), some (.long (sumL (sP S))), none, some (.int (nI (K))), some (.int (nI (K))), some (.int (nI (1))), some (.int (nI (0))), some (.int (nI (K))), v8, v9, v10] [] M (4 * K) (24 * K)) : ∀ (d r : Nat), r + d = K → ∀ (M : PH) (U : St), UI M0 x D K S U d M → PW Γ G Z 205 [some (.ref x), some (.long (sumL (sP S))), none, some (.int (nI (K))), some (.int (nI (K))), some (.int (nI (1))), some (.int (nI (0))), some (.int (nI (r))), v8, v9, v10] [] M (2 * K + 2 * r) (12 * K + 12 * r) := by
  intro d
  induction d with
  | zero =>
    intro r hr M U hU
    obtain rfl : r = K := by omega
    refine pw_iload (q := 207) C dL_sets_205 rfl rfl ?_
    refine pw_iload (q := 209) C dL_sets_207 rfl rfl ?_
    refine pw_icmp_ge_n (q := 212) 241 C dL_sets_209 (by decide) rfl (by omega) (by omega) (fun g209 => ?_) (fun g209 => absurd g209 (by omega))
    have z := KE M U hU
    rw [show 4 * r = 2 * r + 2 * r by omega, show 24 * r = 12 * r + 12 * r by omega] at z
    exact z
  | succ d ih =>
    intro r hr M U hU
    have hp := hU.pos
    have hm := hU.1.m14
    refine pw_iload (q := 207) C dL_sets_205 rfl rfl ?_
    refine pw_iload (q := 209) C dL_sets_207 rfl rfl ?_
    refine pw_icmp_ge_n (q := 212) 241 C dL_sets_209 (by decide) rfl (by omega) (by omega) (fun g209 => absurd g209 (by omega)) (fun g209 => ?_)
    refine pw_iload (q := 214) C dL_sets_212 rfl rfl ?_
    refine pw_aload_n (q := 215) (j := 0) C dL_sets_214 rfl rfl rfl ?_
    refine pw_bipush_n (q := 217) C 16 dL_sets_215 (by decide +kernel) rfl ?_
    refine pw_iconst_n (q := 218) C 0 dL_sets_217 (by decide +kernel) rfl ?_
    refine pw_iconst_n (q := 219) C 0 dL_sets_218 (by decide +kernel) rfl ?_
    refine pw_iconst_n (q := 220) C 0 dL_sets_219 (by decide +kernel) rfl ?_
    refine pw_iconst_n (q := 221) C 0 dL_sets_220 (by decide +kernel) rfl ?_
    refine pw_val (q := 224) (cr_s (j := iL_call) C dL_sets_221 lL_170 mL_call (ro_mk (by decide) (by decide))  (u_undo hU) rfl rfl (Nat.le_of_ble_eq_true rfl) ⟨by omega, by omega⟩) rfl (fun M221 e221 => ?_)
    refine pw_if_lt (q := 227) 231 C dL_sets_224 (by decide) rfl (fun g224 => absurd g224 (nI_pos (by omega))) (fun g224 => ?_)
    refine pw_iconst_n (q := 228) C 1 dL_sets_227 (by decide +kernel) rfl ?_
    refine pw_goto (q := 0) 232 C dL_sets_228 (by decide) ?_
    refine pw_and11 (q := 233) C dL_sets_232 rfl ?_
    refine pw_istore (q := 235) C dL_sets_233 rfl (by decide) rfl ?_
    refine pw_iinc_n (q := 238) C 1 dL_sets_235 rfl (by decide +kernel) rfl (by decide) rfl ?_
    refine pw_goto (q := 0) 205 C dL_sets_238 (by decide) ?_
    have z := ih (r + 1) (by omega) _ _ (hU.undo e221)
    rw [show 2 * K + 2 * (r + 1) = 2 * K + 2 * r + 2 by omega, show 12 * K + 12 * (r + 1) = 12 * K + 12 * r + 12 by omega] at z
    exact z
set_option maxHeartbeats 200000 in
set_option maxRecDepth 100000 in
theorem v_sets {M : PH} {x D : Nat} {S : St} (hX : RepX M x S) (hG : SG D S) : Run iL_sets [.ref x] M 64 800 (RV (.int (nI 1)) (fun M1 => RepX M1 x (setsS S) ∧ Fr M M1 x)) := by
  have hS := hG.1
  have hI := hS.1.1
  have hb := hI.b
  have h14 := hX.m14
  have hcl := can_le hI
  refine Run.of (l0 := [some (.ref x), none, none, none, none, none, none, none, none, none, none]) (by decide +kernel) (Nat.le_of_ble_eq_true rfl) (by rfl) (fun Γ G C => ?_)
  refine pw_aload_n (q := 1) (j := 0) C dL_sets_0 rfl rfl rfl ?_
  refine pw_rd (q := 4) (cr_s (j := iL_sum) C dL_sets_1 lL_184 mL_sum (ro_mk (by decide) (by decide))  (v_sum hX hS) rfl rfl (Nat.le_of_ble_eq_true rfl) ⟨by omega, by omega⟩) rfl ?_
  refine pw_lstore_n (q := 5) (j := 1) C dL_sets_4 rfl rfl (by decide) rfl ?_
  refine pw_aload_n (q := 6) (j := 0) C dL_sets_5 rfl rfl rfl ?_
  refine pw_rd (q := 9) (cr_v (j := iX10_canSet) C dL_sets_6 lL_188 mX10_canSet (ro_mk (by decide) (by decide)) hX.1 rfl (r_canSet hX hS) rfl rfl (Nat.le_of_ble_eq_true rfl) ⟨by omega, by omega⟩) rfl ?_
  refine pw_istore_n (q := 10) (j := 3) C dL_sets_9 rfl rfl (by decide) rfl ?_
  refine pw_iload_n (q := 11) (j := 3) C dL_sets_10 rfl rfl rfl ?_
  refine pw_bipush_n (q := 13) C 12 dL_sets_11 (by decide +kernel) rfl ?_
  refine pw_icmp_le_n (q := 16) 18 C dL_sets_13 (by decide) rfl (by omega) (by omega) (fun g13 => ?_) (fun g13 => ?_)
  · refine pw_iconst_n (q := 19) C 0 dL_sets_18 (by decide +kernel) rfl ?_
    refine pw_istore (q := 21) C dL_sets_19 rfl (by decide) rfl ?_
    refine pw_iconst_n (q := 22) C 1 dL_sets_21 (by decide +kernel) rfl ?_
    refine pw_istore (q := 24) C dL_sets_22 rfl (by decide) rfl ?_
    refine pw_iconst_n (q := 25) C 1 dL_sets_24 (by decide +kernel) rfl ?_
    refine pw_istore (q := 27) C dL_sets_25 rfl (by decide) rfl ?_
    have h12 : canSetN (sP S) ≤ 12 := by omega
    refine sets2 h14 h12 C (fun M1 T k v7 v8 v9 v10 hSI hc h7 h0 => ?_) (canSetN (sP S)) (canSetN (sP S)) (Nat.le_refl _) M S 0 none none none none (SI.start hX hG) (by omega) rfl rfl
    refine pw_iload (q := 181) C dL_sets_179 rfl rfl ?_
    refine pw_iload (q := 183) C dL_sets_181 rfl rfl ?_
    refine pw_iload_n (q := 184) (j := 3) C dL_sets_183 rfl rfl rfl ?_
    refine pw_icmp_ne_n (q := 187) 198 C dL_sets_184 (by decide) rfl (by omega) (by omega) (fun g184 => absurd g184 (by omega)) (fun g184 => ?_)
    refine pw_aload_n (q := 188) (j := 0) C dL_sets_187 rfl rfl rfl ?_
    refine pw_rd (q := 191) (cr_v (j := iX10_canSet) C dL_sets_188 lL_188 mX10_canSet (ro_mk (by decide) (by decide)) hSI.1.1 rfl (r_canSet hSI.1 hSI.2.2.1.1) rfl rfl (Nat.le_of_ble_eq_true rfl) ⟨by omega, by omega⟩) rfl ?_
    refine pw_if_ne_n (q := 194) 198 C dL_sets_191 (by decide) rfl (by omega) (fun g191 => absurd g191 (by omega)) (fun g191 => ?_)
    refine pw_iconst_n (q := 195) C 1 dL_sets_194 (by decide +kernel) rfl ?_
    refine pw_goto (q := 0) 199 C dL_sets_195 (by decide) ?_
    refine pw_and11 (q := 200) C dL_sets_199 rfl ?_
    refine pw_istore (q := 202) C dL_sets_200 rfl (by decide) rfl ?_
    refine pw_iconst_n (q := 203) C 0 dL_sets_202 (by decide +kernel) rfl ?_
    refine pw_istore (q := 205) C dL_sets_203 rfl (by decide) rfl ?_
    obtain rfl : k = canSetN (sP S) := by omega
    refine sets3 (v8 := v8) (v9 := v9) (v10 := v10) h12 C (fun M1 U hU => ?_) (canSetN (sP S)) 0 (by omega) M1 T (UI.start hSI)
    clear hSI hc h7 h0
    refine pw_iload (q := 243) C dL_sets_241 rfl rfl ?_
    refine pw_if_eq_n (q := 246) 259 C dL_sets_243 (by decide) rfl (by omega) (fun g243 => absurd g243 (by decide)) (fun g243 => ?_)
    refine pw_aload_n (q := 247) (j := 0) C dL_sets_246 rfl rfl rfl ?_
    refine pw_rd (q := 250) (cr_s (j := iL_sum) C dL_sets_247 lL_184 mL_sum (ro_mk (by decide) (by decide))  (v_sum hU.1 hU.2.2.1.1) rfl rfl (Nat.le_of_ble_eq_true rfl) ⟨by omega, by omega⟩) rfl ?_
    refine pw_lload_n (q := 251) (j := 1) C dL_sets_250 rfl rfl rfl ?_
    refine pw_lcmp0 (q := 252) C dL_sets_251 (by rw [hU.page]) rfl ?_
    refine pw_if_ne_n (q := 255) 259 C dL_sets_252 (by decide) rfl (by omega) (fun g252 => absurd g252 (fun h => h rfl)) (fun g252 => ?_)
    refine pw_iconst_n (q := 256) C 1 dL_sets_255 (by decide +kernel) rfl ?_
    refine pw_goto (q := 0) 260 C dL_sets_256 (by decide) ?_
    exact pw_zret C dL_sets_260 rfl (by first | decide +kernel | exact nar_bN _ | exact nar_01 (by omega)) ⟨by omega, by omega⟩ (RV.mk rfl (by unfold setsS; rw [if_pos h12]; exact hU.end))
  · refine pw_iconst_n (q := 17) C 1 dL_sets_16 (by decide +kernel) rfl ?_
    exact pw_zret C dL_sets_17 rfl (by first | decide +kernel | exact nar_bN _ | exact nar_01 (by omega)) ⟨by omega, by omega⟩ (RV.mk rfl ⟨by unfold setsS; rw [if_neg (by omega)]; exact hX, Fr.rf⟩)
