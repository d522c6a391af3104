/-! The reference's calls that only read. -/
def RepM (M : PH) (m rf : Nat) (S : St) : Prop := ∃ (M0 : PH) (sp ft : Nat) (R Q D K L : Nat → Nat), M = mh M0 m rf (sN S) sp ft (sM S) (sT S) R (sP S) Q D K (sB S) L ∧ (∀ j, j < sM S → ∀ k, k < 194 → D (194 * j + k) = sH S j k) ∧ (∀ i, i < 2 → sB S i = 1 → ∀ k, k < 194 → K (194 * i + k) = sK S i k) ∧ ft ≤ 1
/-- bounds that the class's object keeps -/
def MB (S : St) : Prop := sN S ≤ 80 ∧ (∀ k, k < sN S → sT S k ≤ 255) ∧ sM S ≤ 14 ∧ ∀ i, i < 2 → sB S i ≤ 1
theorem RepM.mk {M0 : PH} {m rf sp ft : Nat} {S : St} {R Q D K L : Nat → Nat} (hD : ∀ j, j < sM S → ∀ k, k < 194 → D (194 * j + k) = sH S j k) (hK : ∀ i, i < 2 → sB S i = 1 → ∀ k, k < 194 → K (194 * i + k) = sK S i k) (hF : ft ≤ 1) : RepM (mh M0 m rf (sN S) sp ft (sM S) (sT S) R (sP S) Q D K (sB S) L) m rf S := ⟨M0, sp, ft, R, Q, D, K, L, rfl, hD, hK, hF⟩
def QM (M : PH) (m : Nat) (r : RS) : OC → PH → Prop := fun o M1 => (∃ v, o = .inl (some (.int v)) ∧ (r.1 = 0 → v = r.2.1)) ∧ RepM M1 m r.1 r.2.2 ∧ Same M M1 m (m + 9)
theorem QM.ok {M M1 : PH} {m : Nat} {r : RS} {v : Int32} {S : St} (h : r = (0, v, S)) (hR : RepM M1 m 0 S) (hs : Same M M1 m (m + 9)) : QM M m r (.inl (some (.int v))) M1 := by
  subst h
  exact ⟨⟨v, rfl, fun _ => rfl⟩, hR, hs⟩
theorem QM.no {M M1 : PH} {m : Nat} {r : RS} {v w : Int32} {S : St} (k : Nat) (h : r = (k + 1, w, S)) (hR : RepM M1 m (k + 1) S) (hs : Same M M1 m (m + 9)) : QM M m r (.inl (some (.int v))) M1 := by
  subst h
  exact ⟨⟨v, rfl, fun q => absurd q (Nat.succ_ne_zero k)⟩, hR, hs⟩
theorem same_mh {M0 : PH} {m a1 a2 a3 a4 a5 b1 b2 b3 b4 b5 : Nat} {c1 c2 c3 c4 c5 c6 c7 c8 d1 d2 d3 d4 d5 d6 d7 d8 : Nat → Nat} : Same (mh M0 m a1 a2 a3 a4 a5 c1 c2 c3 c4 c5 c6 c7 c8) (mh M0 m b1 b2 b3 b4 b5 d1 d2 d3 d4 d5 d6 d7 d8) m (m + 9) := ⟨rfl, fun q h => by rw [mh_far h, mh_far h]⟩
theorem rv_t {i : MI} {as : List Value} {M : PH} {a b : Nat} {p : Prop} [Decidable p] {Q : PH → Prop} (h : p) (r : Run i as M a b (RV (.int (nI (bN p))) Q)) : Run i as M a b (RV (.int (nI 1)) Q) := by
  rw [bN_t h] at r
  exact r
theorem rv_f {i : MI} {as : List Value} {M : PH} {a b : Nat} {p : Prop} [Decidable p] {Q : PH → Prop} (h : ¬ p) (r : Run i as M a b (RV (.int (nI (bN p))) Q)) : Run i as M a b (RV (.int (nI 0)) Q) := by
  rw [bN_f h] at r
  exact r
theorem cnt_seg {p : Nat → Prop} [DecidablePred p] {f : Nat} : ∀ {n : Nat}, f ≤ n → (∀ k, k < n → (p k ↔ k < f)) → cnt p n = f
  | 0, h, _ => by rw [show f = 0 by omega]; rfl
  | n + 1, h, hk => by
    by_cases hf : f ≤ n
    · have h1 := hk n (by omega)
      rw [cnt_no (fun q => by have := h1.mp q; omega)]
      exact cnt_seg hf (fun k h2 => hk k (by omega))
    · have h1 := hk n (by omega)
      rw [cnt_yes (h1.mpr (by omega)), cnt_seg (f := n) (Nat.le_refl n) (fun k h2 => ⟨fun _ => h2, fun _ => (hk k (by omega)).mpr (by omega)⟩)]
      omega
theorem cnt_compl {P : Nat → Nat} (hI : Inv P) : cnt (fun c => P (8 + 3 * c + 2) ≤ cntC P c 3) (P 5) = compl P := by
  have hl := compl_le P
  refine cnt_seg hl (fun k hk => ⟨fun h => ?_, fun h => ?_⟩)
  · refine Nat.lt_of_not_le (fun q => ?_)
    have h5 := fst_yes (p := fun c => ¬ P (8 + 3 * c + 2) ≤ cntC P c 3) (n := P 5) (show compl P < P 5 by omega)
    have h6 : fst (fun c => ¬ P (8 + 3 * c + 2) ≤ cntC P c 3) (P 5) = compl P := rfl
    rw [h6] at h5
    by_cases h7 : k = compl P
    · rw [← h7] at h5; exact h5 h
    · have h8 := (hI.w (compl P) (by omega)).2 (by omega) k (by omega) hk
      have h9 := hI.c hk
      omega
  · exact Decidable.not_not.mp (fst_no (p := fun c => ¬ P (8 + 3 * c + 2) ≤ cntC P c 3) (n := P 5) h)
theorem masonV_lo {P : Nat → Nat} {m j : Nat} (h : j < 4) : masonV P m j = P (26 + 4 * m + j) := by
  unfold masonV
  split <;> omega
set_option maxHeartbeats 200000 in
set_option maxRecDepth 100000 in
theorem c_about {M : PH} {m rf D0 : Nat} {S : St} (hM : RepM M m rf S) (hB : MB S) (hS : SInv D0 S) (w : Int32) : Run iX11_about [.ref m, .int w] M 0 0 (QM M m (spAbout S w)) := by
  obtain ⟨M0, sp, ft, R, Q, D, K, L, rfl, hD, hK, hF⟩ := hM
  have hI := hS.1.1
  have hb := hI.b
  obtain ⟨hB1, hB2, hB3, hB4⟩ := id hB
  refine Run.of (l0 := [some (.ref m), some (.int w), none, none]) (by decide +kernel) (Nat.le_of_ble_eq_true rfl) (by rfl) (fun Γ G C => ?_)
  by_cases h9 : inW w 0 11
  · refine pw_aload_n (q := 1) (j := 0) C dX11_about_0 rfl rfl rfl ?_
    refine pw_iload_n (q := 2) (j := 1) C dX11_about_1 rfl rfl rfl ?_
    refine pw_i2l (q := 3) C dX11_about_2 rfl ?_
    refine pw_lconst (q := 4) (v := 0) C dX11_about_3 (by decide +kernel) rfl ?_
    refine pw_ldc2 (q := 7) C dX11_about_4 cgX11_117 rfl ?_
    refine pw_rd (q := 10) (cr_s (j := iX11_in) C dX11_about_7 lX11_39 mX11_in (ro_mk (by decide) (by decide))  (rv_t ((inW_l (lo := 0) (hi := 11) (by decide +kernel) (by decide +kernel)).mpr h9) m_in) rfl rfl (Nat.le_of_ble_eq_true rfl) ⟨by omega, by omega⟩) rfl ?_
    refine pw_if_eq_n (q := 13) 17 C dX11_about_10 (by decide) rfl (by omega) (fun g10 => absurd g10 (by decide)) (fun g10 => ?_)
    refine pw_iconst_n (q := 14) C 0 dX11_about_13 (by decide +kernel) rfl ?_
    refine pw_goto (q := 0) 18 C dX11_about_14 (by decide) ?_
    refine pw_val (q := 21) (cr_v (j := iX11_refused) C dX11_about_18 lX11_76 mX11_refused (ro_mk (by decide) (by decide)) mh_o rfl (rv_f (by decide) (m_refused 0 (by decide))) rfl rfl (Nat.le_of_ble_eq_true rfl) ⟨by omega, by omega⟩) rfl (fun M18 e18 => ?_)
    subst e18
    refine pw_if_eq_n (q := 24) 26 C dX11_about_21 (by decide) rfl (by omega) (fun g21 => ?_) (fun g21 => absurd g21 (fun q => q rfl))
    refine pw_iload_n (q := 27) (j := 1) C dX11_about_26 rfl rfl rfl ?_
    rcases (tab11 w).resolve_right (not_not_intro h9) with rfl | rfl | rfl | rfl | rfl | rfl | rfl | rfl | rfl | rfl | rfl | rfl
    · refine pw_tableIn (q := 0) 84 C dX11_about_27 (by decide +kernel) (by decide +kernel) (by rfl) (by decide) ?_
      refine pw_aload_n (q := 85) (j := 0) C dX11_about_84 rfl rfl rfl ?_
      refine pw_getf (q := 88) C dX11_about_85 fX11_16 mh_o (by rfl) rfl ?_
      refine pw_iconst_n (q := 89) C 5 dX11_about_88 (by decide +kernel) rfl ?_
      refine pw_ipg (q := 90) C dX11_about_89 mh_P (by omega) (by omega) rfl ?_
      exact pw_iret C dX11_about_90 rfl ⟨by omega, by omega⟩ ((QM.ok (by rw [spAbout, if_pos h9, idx_n (show 0 < 2147483648 by omega)]; rfl) (RepM.mk hD hK hF) same_mh))
    · refine pw_tableIn (q := 0) 91 C dX11_about_27 (by decide +kernel) (by decide +kernel) (by rfl) (by decide) ?_
      refine pw_aload_n (q := 92) (j := 0) C dX11_about_91 rfl rfl rfl ?_
      refine pw_getf (q := 95) C dX11_about_92 fX11_16 mh_o (by rfl) rfl ?_
      refine pw_bipush_n (q := 97) C 6 dX11_about_95 (by decide +kernel) rfl ?_
      refine pw_ipg (q := 98) C dX11_about_97 mh_P (by omega) (by omega) rfl ?_
      exact pw_iret C dX11_about_98 rfl ⟨by omega, by omega⟩ ((QM.ok (by rw [spAbout, if_pos h9, idx_n (show 1 < 2147483648 by omega)]; rfl) (RepM.mk hD hK hF) same_mh))
    · refine pw_tableIn (q := 0) 99 C dX11_about_27 (by decide +kernel) (by decide +kernel) (by rfl) (by decide) ?_
      refine pw_aload_n (q := 100) (j := 0) C dX11_about_99 rfl rfl rfl ?_
      refine pw_getf (q := 103) C dX11_about_100 fX11_16 mh_o (by rfl) rfl ?_
      refine pw_bipush_n (q := 105) C 7 dX11_about_103 (by decide +kernel) rfl ?_
      refine pw_ipg (q := 106) C dX11_about_105 mh_P (by omega) (by omega) rfl ?_
      exact pw_iret C dX11_about_106 rfl ⟨by omega, by omega⟩ ((QM.ok (by rw [spAbout, if_pos h9, idx_n (show 2 < 2147483648 by omega)]; rfl) (RepM.mk hD hK hF) same_mh))
    · refine pw_tableIn (q := 0) 107 C dX11_about_27 (by decide +kernel) (by decide +kernel) (by rfl) (by decide) ?_
      refine pw_aload_n (q := 108) (j := 0) C dX11_about_107 rfl rfl rfl ?_
      refine pw_getf (q := 111) C dX11_about_108 fX11_16 mh_o (by rfl) rfl ?_
      refine pw_iconst_n (q := 112) C 1 dX11_about_111 (by decide +kernel) rfl ?_
      refine pw_ipg (q := 113) C dX11_about_112 mh_P (by omega) (by omega) rfl ?_
      exact pw_iret C dX11_about_113 rfl ⟨by omega, by omega⟩ ((QM.ok (by rw [spAbout, if_pos h9, idx_n (show 3 < 2147483648 by omega)]; rfl) (RepM.mk hD hK hF) same_mh))
    · refine pw_tableIn (q := 0) 114 C dX11_about_27 (by decide +kernel) (by decide +kernel) (by rfl) (by decide) ?_
      refine pw_aload_n (q := 115) (j := 0) C dX11_about_114 rfl rfl rfl ?_
      refine pw_getf (q := 118) C dX11_about_115 fX11_16 mh_o (by rfl) rfl ?_
      refine pw_iconst_n (q := 119) C 2 dX11_about_118 (by decide +kernel) rfl ?_
      refine pw_ipg (q := 120) C dX11_about_119 mh_P (by omega) (by omega) rfl ?_
      exact pw_iret C dX11_about_120 rfl ⟨by omega, by omega⟩ ((QM.ok (by rw [spAbout, if_pos h9, idx_n (show 4 < 2147483648 by omega)]; rfl) (RepM.mk hD hK hF) same_mh))
    · refine pw_tableIn (q := 0) 121 C dX11_about_27 (by decide +kernel) (by decide +kernel) (by rfl) (by decide) ?_
      refine pw_aload_n (q := 122) (j := 0) C dX11_about_121 rfl rfl rfl ?_
      refine pw_getf (q := 125) C dX11_about_122 fX11_16 mh_o (by rfl) rfl ?_
      refine pw_iconst_n (q := 126) C 0 dX11_about_125 (by decide +kernel) rfl ?_
      refine pw_ipg (q := 127) C dX11_about_126 mh_P (by omega) (by omega) rfl ?_
      exact pw_iret C dX11_about_127 rfl ⟨by omega, by omega⟩ ((QM.ok (by rw [spAbout, if_pos h9, idx_n (show 5 < 2147483648 by omega)]; rfl) (RepM.mk hD hK hF) same_mh))
    · refine pw_tableIn (q := 0) 128 C dX11_about_27 (by decide +kernel) (by decide +kernel) (by rfl) (by decide) ?_
      refine pw_iconst_n (q := 129) C 0 dX11_about_128 (by decide +kernel) rfl ?_
      refine pw_istore_n (q := 130) (j := 2) C dX11_about_129 rfl rfl (by decide) rfl ?_
      refine pw_iconst_n (q := 131) C 0 dX11_about_130 (by decide +kernel) rfl ?_
      refine pw_istore_n (q := 132) (j := 3) C dX11_about_131 rfl rfl (by decide) rfl ?_
      have loop : ∀ (d c : Nat), c + d = sP S 5 → PW Γ G (ZJ Γ G 0 0 (QM (mh M0 m rf (sN S) sp ft (sM S) (sT S) R (sP S) Q D K (sB S) L) m (spAbout S (nI 6)))) 132 [some (.ref m), some (.int (nI 6)), some (.int (nI (cnt (fun c => sP S (8 + 3 * c + 2) ≤ cntC (sP S) c 3) c))), some (.int (nI c))] [] (mh M0 m 0 (sN S) sp ft (sM S) (sT S) R (sP S) Q D K (sB S) L) 0 0 := by
        intro d
        induction d with
        | zero =>
          intro c hd
          refine pw_iload_n (q := 133) (j := 3) C dX11_about_132 rfl rfl rfl ?_
          refine pw_aload_n (q := 134) (j := 0) C dX11_about_133 rfl rfl rfl ?_
          refine pw_getf (q := 137) C dX11_about_134 fX11_16 mh_o (by rfl) rfl ?_
          refine pw_iconst_n (q := 138) C 5 dX11_about_137 (by decide +kernel) rfl ?_
          refine pw_ipg (q := 139) C dX11_about_138 mh_P (by omega) (by omega) rfl ?_
          refine pw_icmp_ge_n (q := 142) 167 C dX11_about_139 (by decide) rfl (by omega) (by omega) (fun g139 => ?_) (fun g139 => absurd g139 (by omega))
          refine pw_iload_n (q := 168) (j := 2) C dX11_about_167 rfl rfl rfl ?_
          exact pw_iret C dX11_about_168 rfl ⟨by omega, by omega⟩ ((QM.ok (by rw [spAbout, if_pos h9, idx_n (show 6 < 2147483648 by omega)]; rw [show cnt (fun c => sP S (8 + 3 * c + 2) ≤ cntC (sP S) c 3) c = compl (sP S) by rw [show c = sP S 5 by omega]; exact cnt_compl hI]; rfl) (RepM.mk hD hK hF) same_mh))
        | succ d ih =>
          intro c hd
          refine pw_iload_n (q := 133) (j := 3) C dX11_about_132 rfl rfl rfl ?_
          refine pw_aload_n (q := 134) (j := 0) C dX11_about_133 rfl rfl rfl ?_
          refine pw_getf (q := 137) C dX11_about_134 fX11_16 mh_o (by rfl) rfl ?_
          refine pw_iconst_n (q := 138) C 5 dX11_about_137 (by decide +kernel) rfl ?_
          refine pw_ipg (q := 139) C dX11_about_138 mh_P (by omega) (by omega) rfl ?_
          refine pw_icmp_ge_n (q := 142) 167 C dX11_about_139 (by decide) rfl (by omega) (by omega) (fun g139 => absurd g139 (by omega)) (fun g139 => ?_)
          refine pw_iload_n (q := 143) (j := 2) C dX11_about_142 rfl rfl rfl ?_
          refine pw_aload_n (q := 144) (j := 0) C dX11_about_143 rfl rfl rfl ?_
          refine pw_getf (q := 147) C dX11_about_144 fX11_16 mh_o (by rfl) rfl ?_
          refine pw_iload_n (q := 148) (j := 3) C dX11_about_147 rfl rfl rfl ?_
          refine pw_rd (q := 151) (cr_s (j := iX11_isComplete) C dX11_about_148 lX11_64 mX11_isComplete (ro_mk (by decide) (by decide))  (m_isComplete mh_P hI (by omega)) rfl rfl (Nat.le_of_ble_eq_true rfl) ⟨by omega, by omega⟩) rfl ?_
          refine pw_if_eq_b (q := 154) 158 C dX11_about_151 (by decide) rfl (fun g151 => ?_) (fun g151 => ?_)
          · refine pw_iconst_n (q := 159) C 0 dX11_about_158 (by decide +kernel) rfl ?_
            refine pw_iadd_n (q := 160) C dX11_about_159 rfl ?_
            refine pw_istore_n (q := 161) (j := 2) C dX11_about_160 rfl rfl (by decide) rfl ?_
            refine pw_iinc_n (q := 164) C 1 dX11_about_161 rfl (by decide +kernel) rfl (by decide) rfl ?_
            refine pw_goto (q := 0) 132 C dX11_about_164 (by decide) ?_
            have e9 : cnt (fun c => sP S (8 + 3 * c + 2) ≤ cntC (sP S) c 3) (c + 1) = cnt (fun c => sP S (8 + 3 * c + 2) ≤ cntC (sP S) c 3) c + 0 := cnt_no g151
            rw [← e9]
            exact ih (c + 1) (by omega)
          · refine pw_iconst_n (q := 155) C 1 dX11_about_154 (by decide +kernel) rfl ?_
            refine pw_goto (q := 0) 159 C dX11_about_155 (by decide) ?_
            refine pw_iadd_n (q := 160) C dX11_about_159 rfl ?_
            refine pw_istore_n (q := 161) (j := 2) C dX11_about_160 rfl rfl (by decide) rfl ?_
            refine pw_iinc_n (q := 164) C 1 dX11_about_161 rfl (by decide +kernel) rfl (by decide) rfl ?_
            refine pw_goto (q := 0) 132 C dX11_about_164 (by decide) ?_
            have e9 : cnt (fun c => sP S (8 + 3 * c + 2) ≤ cntC (sP S) c 3) (c + 1) = cnt (fun c => sP S (8 + 3 * c + 2) ≤ cntC (sP S) c 3) c + 1 := cnt_yes g151
            rw [← e9]
            exact ih (c + 1) (by omega)
      exact loop (sP S 5) 0 (by omega)
    · refine pw_tableIn (q := 0) 169 C dX11_about_27 (by decide +kernel) (by decide +kernel) (by rfl) (by decide) ?_
      refine pw_aload_n (q := 170) (j := 0) C dX11_about_169 rfl rfl rfl ?_
      refine pw_getf (q := 173) C dX11_about_170 fX11_16 mh_o (by rfl) rfl ?_
      refine pw_iconst_n (q := 174) C 3 dX11_about_173 (by decide +kernel) rfl ?_
      refine pw_rd (q := 177) (cr_s (j := iX11_stonesWith) C dX11_about_174 lX11_119 mX11_stonesWith (ro_mk (by decide) (by decide))  (m_stonesWith mh_P hI (by omega)) rfl rfl (Nat.le_of_ble_eq_true rfl) ⟨by omega, by omega⟩) rfl ?_
      exact pw_iret C dX11_about_177 rfl ⟨by omega, by omega⟩ ((QM.ok (by rw [spAbout, if_pos h9, idx_n (show 7 < 2147483648 by omega)]; rfl) (RepM.mk hD hK hF) same_mh))
    · refine pw_tableIn (q := 0) 178 C dX11_about_27 (by decide +kernel) (by decide +kernel) (by rfl) (by decide) ?_
      refine pw_aload_n (q := 179) (j := 0) C dX11_about_178 rfl rfl rfl ?_
      refine pw_getf (q := 182) C dX11_about_179 fX11_16 mh_o (by rfl) rfl ?_
      refine pw_iconst_n (q := 183) C 4 dX11_about_182 (by decide +kernel) rfl ?_
      refine pw_rd (q := 186) (cr_s (j := iX11_stonesWith) C dX11_about_183 lX11_119 mX11_stonesWith (ro_mk (by decide) (by decide))  (m_stonesWith mh_P hI (by omega)) rfl rfl (Nat.le_of_ble_eq_true rfl) ⟨by omega, by omega⟩) rfl ?_
      exact pw_iret C dX11_about_186 rfl ⟨by omega, by omega⟩ ((QM.ok (by rw [spAbout, if_pos h9, idx_n (show 8 < 2147483648 by omega)]; rfl) (RepM.mk hD hK hF) same_mh))
    · refine pw_tableIn (q := 0) 187 C dX11_about_27 (by decide +kernel) (by decide +kernel) (by rfl) (by decide) ?_
      refine pw_aload_n (q := 188) (j := 0) C dX11_about_187 rfl rfl rfl ?_
      refine pw_getf (q := 191) C dX11_about_188 fX11_16 mh_o (by rfl) rfl ?_
      refine pw_rd (q := 194) (cr_s (j := iX11_owedToAll) C dX11_about_191 lX11_122 mX11_owedToAll (ro_mk (by decide) (by decide))  (m_owed mh_P hI) rfl rfl (Nat.le_of_ble_eq_true rfl) ⟨by omega, by omega⟩) rfl ?_
      exact pw_iret C dX11_about_194 rfl ⟨by omega, by omega⟩ ((QM.ok (by rw [spAbout, if_pos h9, idx_n (show 9 < 2147483648 by omega)]; rfl) (RepM.mk hD hK hF) same_mh))
    · refine pw_tableIn (q := 0) 195 C dX11_about_27 (by decide +kernel) (by decide +kernel) (by rfl) (by decide) ?_
      refine pw_aload_n (q := 196) (j := 0) C dX11_about_195 rfl rfl rfl ?_
      refine pw_getf (q := 199) C dX11_about_196 fX11_16 mh_o (by rfl) rfl ?_
      refine pw_iconst_n (q := 200) C 3 dX11_about_199 (by decide +kernel) rfl ?_
      refine pw_ipg (q := 201) C dX11_about_200 mh_P (by omega) (by omega) rfl ?_
      exact pw_iret C dX11_about_201 rfl ⟨by omega, by omega⟩ ((QM.ok (by rw [spAbout, if_pos h9, idx_n (show 10 < 2147483648 by omega)]; rfl) (RepM.mk hD hK hF) same_mh))
    · refine pw_tableOut (q := 0) 202 C dX11_about_27 (Or.inr (by decide +kernel)) (by decide) ?_
      refine pw_aload_n (q := 203) (j := 0) C dX11_about_202 rfl rfl rfl ?_
      refine pw_getf (q := 206) C dX11_about_203 fX11_16 mh_o (by rfl) rfl ?_
      refine pw_iconst_n (q := 207) C 4 dX11_about_206 (by decide +kernel) rfl ?_
      refine pw_ipg (q := 208) C dX11_about_207 mh_P (by omega) (by omega) rfl ?_
      exact pw_iret C dX11_about_208 rfl ⟨by omega, by omega⟩ ((QM.ok (by rw [spAbout, if_pos h9, idx_n (show 11 < 2147483648 by omega)]; rfl) (RepM.mk hD hK hF) same_mh))
  · refine pw_aload_n (q := 1) (j := 0) C dX11_about_0 rfl rfl rfl ?_
    refine pw_iload_n (q := 2) (j := 1) C dX11_about_1 rfl rfl rfl ?_
    refine pw_i2l (q := 3) C dX11_about_2 rfl ?_
    refine pw_lconst (q := 4) (v := 0) C dX11_about_3 (by decide +kernel) rfl ?_
    refine pw_ldc2 (q := 7) C dX11_about_4 cgX11_117 rfl ?_
    refine pw_rd (q := 10) (cr_s (j := iX11_in) C dX11_about_7 lX11_39 mX11_in (ro_mk (by decide) (by decide))  (rv_f (fun q => h9 ((inW_l (lo := 0) (hi := 11) (by decide +kernel) (by decide +kernel)).mp q)) m_in) rfl rfl (Nat.le_of_ble_eq_true rfl) ⟨by omega, by omega⟩) rfl ?_
    refine pw_if_eq_n (q := 13) 17 C dX11_about_10 (by decide) rfl (by omega) (fun g10 => ?_) (fun g10 => absurd g10 (fun q => q rfl))
    refine pw_iconst_n (q := 18) C 1 dX11_about_17 (by decide +kernel) rfl ?_
    refine pw_val (q := 21) (cr_v (j := iX11_refused) C dX11_about_18 lX11_76 mX11_refused (ro_mk (by decide) (by decide)) mh_o rfl (rv_t (by decide) (m_refused 1 (by decide))) rfl rfl (Nat.le_of_ble_eq_true rfl) ⟨by omega, by omega⟩) rfl (fun M18 e18 => ?_)
    subst e18
    refine pw_if_eq_n (q := 24) 26 C dX11_about_21 (by decide) rfl (by omega) (fun g21 => absurd g21 (by decide)) (fun g21 => ?_)
    refine pw_iconst_n (q := 25) C 0 dX11_about_24 (by decide +kernel) rfl ?_
    exact pw_iret C dX11_about_25 rfl ⟨by omega, by omega⟩ ((QM.no 0 (by rw [spAbout, if_neg h9]) (RepM.mk hD hK hF) same_mh))
set_option maxHeartbeats 200000 in
set_option maxRecDepth 100000 in
theorem c_course {M : PH} {m rf D0 : Nat} {S : St} (hM : RepM M m rf S) (hB : MB S) (hS : SInv D0 S) (c1 w : Int32) : Run iX11_course [.ref m, .int c1, .int w] M 0 0 (QM M m (spCourse S c1 w)) := by
  obtain ⟨M0, sp, ft, R, Q, D, K, L, rfl, hD, hK, hF⟩ := hM
  have hI := hS.1.1
  have hb := hI.b
  obtain ⟨hB1, hB2, hB3, hB4⟩ := id hB
  refine Run.of (l0 := [some (.ref m), some (.int c1), some (.int w)]) (by decide +kernel) (Nat.le_of_ble_eq_true rfl) (by rfl) (fun Γ G C => ?_)
  by_cases h1 : inI c1 (sP S 5)
  · obtain ⟨k1, hk1, rfl⟩ := inI_n h1 (by omega)
    refine pw_aload_n (q := 1) (j := 0) C dX11_course_0 rfl rfl rfl ?_
    refine pw_aload_n (q := 2) (j := 0) C dX11_course_1 rfl rfl rfl ?_
    refine pw_getf (q := 5) C dX11_course_2 fX11_16 mh_o (by rfl) rfl ?_
    refine pw_iload_n (q := 6) (j := 1) C dX11_course_5 rfl rfl rfl ?_
    refine pw_rd (q := 9) (cr_s (j := iX11_isCourse) C dX11_course_6 lX11_126 mX11_isCourse (ro_mk (by decide) (by decide))  (rv_t h1 (m_isCourse mh_P (by omega) _)) rfl rfl (Nat.le_of_ble_eq_true rfl) ⟨by omega, by omega⟩) rfl ?_
    refine pw_if_ne_n (q := 12) 16 C dX11_course_9 (by decide) rfl (by omega) (fun g9 => ?_) (fun g9 => absurd g9 (by decide))
    by_cases h9 : inW w 0 6
    · refine pw_iload_n (q := 17) (j := 2) C dX11_course_16 rfl rfl rfl ?_
      refine pw_i2l (q := 18) C dX11_course_17 rfl ?_
      refine pw_lconst (q := 19) (v := 0) C dX11_course_18 (by decide +kernel) rfl ?_
      refine pw_ldc2 (q := 22) C dX11_course_19 cgX11_129 rfl ?_
      refine pw_rd (q := 25) (cr_s (j := iX11_in) C dX11_course_22 lX11_39 mX11_in (ro_mk (by decide) (by decide))  (rv_t ((inW_l (lo := 0) (hi := 6) (by decide +kernel) (by decide +kernel)).mpr h9) m_in) rfl rfl (Nat.le_of_ble_eq_true rfl) ⟨by omega, by omega⟩) rfl ?_
      refine pw_if_ne_n (q := 28) 32 C dX11_course_25 (by decide) rfl (by omega) (fun g25 => ?_) (fun g25 => absurd g25 (by decide))
      refine pw_iconst_n (q := 33) C 0 dX11_course_32 (by decide +kernel) rfl ?_
      refine pw_val (q := 36) (cr_v (j := iX11_refused) C dX11_course_33 lX11_76 mX11_refused (ro_mk (by decide) (by decide)) mh_o rfl (rv_f (by decide) (m_refused 0 (by decide))) rfl rfl (Nat.le_of_ble_eq_true rfl) ⟨by omega, by omega⟩) rfl (fun M33 e33 => ?_)
      subst e33
      refine pw_if_eq_n (q := 39) 41 C dX11_course_36 (by decide) rfl (by omega) (fun g36 => ?_) (fun g36 => absurd g36 (fun q => q rfl))
      refine pw_iload_n (q := 42) (j := 2) C dX11_course_41 rfl rfl rfl ?_
      rcases (tab6 w).resolve_right (not_not_intro h9) with rfl | rfl | rfl | rfl | rfl | rfl | rfl
      · refine pw_tableOut (q := 0) 111 C dX11_course_42 (Or.inl (by decide +kernel)) (by decide) ?_
        skip
        refine pw_aload_n (q := 112) (j := 0) C dX11_course_111 rfl rfl rfl ?_
        refine pw_getf (q := 115) C dX11_course_112 fX11_16 mh_o (by rfl) rfl ?_
        refine pw_bipush_n (q := 117) C 8 dX11_course_115 (by decide +kernel) rfl ?_
        refine pw_iconst_n (q := 118) C 3 dX11_course_117 (by decide +kernel) rfl ?_
        refine pw_iload_n (q := 119) (j := 1) C dX11_course_118 rfl rfl rfl ?_
        refine pw_imul_n (q := 120) C dX11_course_119 rfl ?_
        refine pw_iadd_n (q := 121) C dX11_course_120 rfl ?_
        refine pw_iload_n (q := 122) (j := 2) C dX11_course_121 rfl rfl rfl ?_
        refine pw_iadd_n (q := 123) C dX11_course_122 rfl ?_
        refine pw_ipg (q := 124) C dX11_course_123 mh_P (by omega) (by omega) rfl ?_
        exact pw_iret C dX11_course_124 rfl ⟨by omega, by omega⟩ ((QM.ok (by rw [spCourse, if_pos h1, if_pos h9, idx_n (show k1 < 2147483648 by omega), idx_n (show 0 < 2147483648 by omega)]; rfl) (RepM.mk hD hK hF) same_mh))
      · refine pw_tableOut (q := 0) 111 C dX11_course_42 (Or.inl (by decide +kernel)) (by decide) ?_
        skip
        refine pw_aload_n (q := 112) (j := 0) C dX11_course_111 rfl rfl rfl ?_
        refine pw_getf (q := 115) C dX11_course_112 fX11_16 mh_o (by rfl) rfl ?_
        refine pw_bipush_n (q := 117) C 8 dX11_course_115 (by decide +kernel) rfl ?_
        refine pw_iconst_n (q := 118) C 3 dX11_course_117 (by decide +kernel) rfl ?_
        refine pw_iload_n (q := 119) (j := 1) C dX11_course_118 rfl rfl rfl ?_
        refine pw_imul_n (q := 120) C dX11_course_119 rfl ?_
        refine pw_iadd_n (q := 121) C dX11_course_120 rfl ?_
        refine pw_iload_n (q := 122) (j := 2) C dX11_course_121 rfl rfl rfl ?_
        refine pw_iadd_n (q := 123) C dX11_course_122 rfl ?_
        refine pw_ipg (q := 124) C dX11_course_123 mh_P (by omega) (by omega) rfl ?_
        exact pw_iret C dX11_course_124 rfl ⟨by omega, by omega⟩ ((QM.ok (by rw [spCourse, if_pos h1, if_pos h9, idx_n (show k1 < 2147483648 by omega), idx_n (show 1 < 2147483648 by omega)]; rfl) (RepM.mk hD hK hF) same_mh))
      · refine pw_tableOut (q := 0) 111 C dX11_course_42 (Or.inl (by decide +kernel)) (by decide) ?_
        skip
        refine pw_aload_n (q := 112) (j := 0) C dX11_course_111 rfl rfl rfl ?_
        refine pw_getf (q := 115) C dX11_course_112 fX11_16 mh_o (by rfl) rfl ?_
        refine pw_bipush_n (q := 117) C 8 dX11_course_115 (by decide +kernel) rfl ?_
        refine pw_iconst_n (q := 118) C 3 dX11_course_117 (by decide +kernel) rfl ?_
        refine pw_iload_n (q := 119) (j := 1) C dX11_course_118 rfl rfl rfl ?_
        refine pw_imul_n (q := 120) C dX11_course_119 rfl ?_
        refine pw_iadd_n (q := 121) C dX11_course_120 rfl ?_
        refine pw_iload_n (q := 122) (j := 2) C dX11_course_121 rfl rfl rfl ?_
        refine pw_iadd_n (q := 123) C dX11_course_122 rfl ?_
        refine pw_ipg (q := 124) C dX11_course_123 mh_P (by omega) (by omega) rfl ?_
        exact pw_iret C dX11_course_124 rfl ⟨by omega, by omega⟩ ((QM.ok (by rw [spCourse, if_pos h1, if_pos h9, idx_n (show k1 < 2147483648 by omega), idx_n (show 2 < 2147483648 by omega)]; rfl) (RepM.mk hD hK hF) same_mh))
      · refine pw_tableIn (q := 0) 72 C dX11_course_42 (by decide +kernel) (by decide +kernel) (by rfl) (by decide) ?_
        refine pw_aload_n (q := 73) (j := 0) C dX11_course_72 rfl rfl rfl ?_
        refine pw_getf (q := 76) C dX11_course_73 fX11_16 mh_o (by rfl) rfl ?_
        refine pw_iload_n (q := 77) (j := 1) C dX11_course_76 rfl rfl rfl ?_
        refine pw_iconst_n (q := 78) C 3 dX11_course_77 (by decide +kernel) rfl ?_
        refine pw_rd (q := 81) (cr_s (j := iX11_stonesOf) C dX11_course_78 lX11_43 mX11_stonesOf (ro_mk (by decide) (by decide))  (m_stonesOf mh_P hI (by omega) (by omega)) rfl rfl (Nat.le_of_ble_eq_true rfl) ⟨by omega, by omega⟩) rfl ?_
        exact pw_iret C dX11_course_81 rfl ⟨by omega, by omega⟩ ((QM.ok (by rw [spCourse, if_pos h1, if_pos h9, idx_n (show k1 < 2147483648 by omega), idx_n (show 3 < 2147483648 by omega)]; rfl) (RepM.mk hD hK hF) same_mh))
      · refine pw_tableIn (q := 0) 82 C dX11_course_42 (by decide +kernel) (by decide +kernel) (by rfl) (by decide) ?_
        refine pw_aload_n (q := 83) (j := 0) C dX11_course_82 rfl rfl rfl ?_
        refine pw_getf (q := 86) C dX11_course_83 fX11_16 mh_o (by rfl) rfl ?_
        refine pw_iload_n (q := 87) (j := 1) C dX11_course_86 rfl rfl rfl ?_
        refine pw_rd (q := 90) (cr_s (j := iX11_lacks) C dX11_course_87 lX11_68 mX11_lacks (ro_mk (by decide) (by decide))  (m_lacks mh_P hI (by omega)) rfl rfl (Nat.le_of_ble_eq_true rfl) ⟨by omega, by omega⟩) rfl ?_
        exact pw_iret C dX11_course_90 rfl ⟨by omega, by omega⟩ ((QM.ok (by rw [spCourse, if_pos h1, if_pos h9, idx_n (show k1 < 2147483648 by omega), idx_n (show 4 < 2147483648 by omega)]; rfl) (RepM.mk hD hK hF) same_mh))
      · refine pw_tableIn (q := 0) 91 C dX11_course_42 (by decide +kernel) (by decide +kernel) (by rfl) (by decide) ?_
        refine pw_aload_n (q := 92) (j := 0) C dX11_course_91 rfl rfl rfl ?_
        refine pw_getf (q := 95) C dX11_course_92 fX11_16 mh_o (by rfl) rfl ?_
        refine pw_iload_n (q := 96) (j := 1) C dX11_course_95 rfl rfl rfl ?_
        refine pw_iconst_n (q := 97) C 0 dX11_course_96 (by decide +kernel) rfl ?_
        refine pw_rd (q := 100) (cr_s (j := iX11_stonesOf) C dX11_course_97 lX11_43 mX11_stonesOf (ro_mk (by decide) (by decide))  (m_stonesOf mh_P hI (by omega) (by omega)) rfl rfl (Nat.le_of_ble_eq_true rfl) ⟨by omega, by omega⟩) rfl ?_
        exact pw_iret C dX11_course_100 rfl ⟨by omega, by omega⟩ ((QM.ok (by rw [spCourse, if_pos h1, if_pos h9, idx_n (show k1 < 2147483648 by omega), idx_n (show 5 < 2147483648 by omega)]; rfl) (RepM.mk hD hK hF) same_mh))
      · refine pw_tableIn (q := 0) 101 C dX11_course_42 (by decide +kernel) (by decide +kernel) (by rfl) (by decide) ?_
        refine pw_aload_n (q := 102) (j := 0) C dX11_course_101 rfl rfl rfl ?_
        refine pw_getf (q := 105) C dX11_course_102 fX11_16 mh_o (by rfl) rfl ?_
        refine pw_iload_n (q := 106) (j := 1) C dX11_course_105 rfl rfl rfl ?_
        refine pw_iconst_n (q := 107) C 2 dX11_course_106 (by decide +kernel) rfl ?_
        refine pw_rd (q := 110) (cr_s (j := iX11_stonesOf) C dX11_course_107 lX11_43 mX11_stonesOf (ro_mk (by decide) (by decide))  (m_stonesOf mh_P hI (by omega) (by omega)) rfl rfl (Nat.le_of_ble_eq_true rfl) ⟨by omega, by omega⟩) rfl ?_
        exact pw_iret C dX11_course_110 rfl ⟨by omega, by omega⟩ ((QM.ok (by rw [spCourse, if_pos h1, if_pos h9, idx_n (show k1 < 2147483648 by omega), idx_n (show 6 < 2147483648 by omega)]; rfl) (RepM.mk hD hK hF) same_mh))
    · refine pw_iload_n (q := 17) (j := 2) C dX11_course_16 rfl rfl rfl ?_
      refine pw_i2l (q := 18) C dX11_course_17 rfl ?_
      refine pw_lconst (q := 19) (v := 0) C dX11_course_18 (by decide +kernel) rfl ?_
      refine pw_ldc2 (q := 22) C dX11_course_19 cgX11_129 rfl ?_
      refine pw_rd (q := 25) (cr_s (j := iX11_in) C dX11_course_22 lX11_39 mX11_in (ro_mk (by decide) (by decide))  (rv_f (fun q => h9 ((inW_l (lo := 0) (hi := 6) (by decide +kernel) (by decide +kernel)).mp q)) m_in) rfl rfl (Nat.le_of_ble_eq_true rfl) ⟨by omega, by omega⟩) rfl ?_
      refine pw_if_ne_n (q := 28) 32 C dX11_course_25 (by decide) rfl (by omega) (fun g25 => absurd g25 (fun q => q rfl)) (fun g25 => ?_)
      refine pw_iconst_n (q := 29) C 2 dX11_course_28 (by decide +kernel) rfl ?_
      refine pw_goto (q := 0) 33 C dX11_course_29 (by decide) ?_
      refine pw_val (q := 36) (cr_v (j := iX11_refused) C dX11_course_33 lX11_76 mX11_refused (ro_mk (by decide) (by decide)) mh_o rfl (rv_t (by decide) (m_refused 2 (by decide))) rfl rfl (Nat.le_of_ble_eq_true rfl) ⟨by omega, by omega⟩) rfl (fun M33 e33 => ?_)
      subst e33
      refine pw_if_eq_n (q := 39) 41 C dX11_course_36 (by decide) rfl (by omega) (fun g36 => absurd g36 (by decide)) (fun g36 => ?_)
      refine pw_iconst_n (q := 40) C 0 dX11_course_39 (by decide +kernel) rfl ?_
      exact pw_iret C dX11_course_40 rfl ⟨by omega, by omega⟩ ((QM.no 1 (by rw [spCourse, if_pos h1, if_neg h9]) (RepM.mk hD hK hF) same_mh))
  · refine pw_aload_n (q := 1) (j := 0) C dX11_course_0 rfl rfl rfl ?_
    refine pw_aload_n (q := 2) (j := 0) C dX11_course_1 rfl rfl rfl ?_
    refine pw_getf (q := 5) C dX11_course_2 fX11_16 mh_o (by rfl) rfl ?_
    refine pw_iload_n (q := 6) (j := 1) C dX11_course_5 rfl rfl rfl ?_
    refine pw_rd (q := 9) (cr_s (j := iX11_isCourse) C dX11_course_6 lX11_126 mX11_isCourse (ro_mk (by decide) (by decide))  (rv_f h1 (m_isCourse mh_P (by omega) _)) rfl rfl (Nat.le_of_ble_eq_true rfl) ⟨by omega, by omega⟩) rfl ?_
    refine pw_if_ne_n (q := 12) 16 C dX11_course_9 (by decide) rfl (by omega) (fun g9 => absurd g9 (fun q => q rfl)) (fun g9 => ?_)
    refine pw_iconst_n (q := 13) C 1 dX11_course_12 (by decide +kernel) rfl ?_
    refine pw_goto (q := 0) 33 C dX11_course_13 (by decide) ?_
    refine pw_val (q := 36) (cr_v (j := iX11_refused) C dX11_course_33 lX11_76 mX11_refused (ro_mk (by decide) (by decide)) mh_o rfl (rv_t (by decide) (m_refused 1 (by decide))) rfl rfl (Nat.le_of_ble_eq_true rfl) ⟨by omega, by omega⟩) rfl (fun M33 e33 => ?_)
    subst e33
    refine pw_if_eq_n (q := 39) 41 C dX11_course_36 (by decide) rfl (by omega) (fun g36 => absurd g36 (by decide)) (fun g36 => ?_)
    refine pw_iconst_n (q := 40) C 0 dX11_course_39 (by decide +kernel) rfl ?_
    exact pw_iret C dX11_course_40 rfl ⟨by omega, by omega⟩ ((QM.no 0 (by rw [spCourse, if_neg h1]) (RepM.mk hD hK hF) same_mh))
set_option maxHeartbeats 200000 in
set_option maxRecDepth 100000 in
theorem c_mason {M : PH} {m rf D0 : Nat} {S : St} (hM : RepM M m rf S) (hB : MB S) (hS : SInv D0 S) (c1 w : Int32) : Run iX11_mason [.ref m, .int c1, .int w] M 0 0 (QM M m (spMason S c1 w)) := by
  obtain ⟨M0, sp, ft, R, Q, D, K, L, rfl, hD, hK, hF⟩ := hM
  have hI := hS.1.1
  have hb := hI.b
  obtain ⟨hB1, hB2, hB3, hB4⟩ := id hB
  refine Run.of (l0 := [some (.ref m), some (.int c1), some (.int w)]) (by decide +kernel) (Nat.le_of_ble_eq_true rfl) (by rfl) (fun Γ G C => ?_)
  by_cases h1 : inI c1 (sP S 6)
  · obtain ⟨k1, hk1, rfl⟩ := inI_n h1 (by omega)
    refine pw_aload_n (q := 1) (j := 0) C dX11_mason_0 rfl rfl rfl ?_
    refine pw_aload_n (q := 2) (j := 0) C dX11_mason_1 rfl rfl rfl ?_
    refine pw_getf (q := 5) C dX11_mason_2 fX11_16 mh_o (by rfl) rfl ?_
    refine pw_iload_n (q := 6) (j := 1) C dX11_mason_5 rfl rfl rfl ?_
    refine pw_rd (q := 9) (cr_s (j := iX11_isMason) C dX11_mason_6 lX11_131 mX11_isMason (ro_mk (by decide) (by decide))  (rv_t h1 (m_isMason mh_P (by omega) _)) rfl rfl (Nat.le_of_ble_eq_true rfl) ⟨by omega, by omega⟩) rfl ?_
    refine pw_if_ne_n (q := 12) 16 C dX11_mason_9 (by decide) rfl (by omega) (fun g9 => ?_) (fun g9 => absurd g9 (by decide))
    by_cases h9 : inW w 0 5
    · refine pw_iload_n (q := 17) (j := 2) C dX11_mason_16 rfl rfl rfl ?_
      refine pw_i2l (q := 18) C dX11_mason_17 rfl ?_
      refine pw_lconst (q := 19) (v := 0) C dX11_mason_18 (by decide +kernel) rfl ?_
      refine pw_ldc2 (q := 22) C dX11_mason_19 cgX11_134 rfl ?_
      refine pw_rd (q := 25) (cr_s (j := iX11_in) C dX11_mason_22 lX11_39 mX11_in (ro_mk (by decide) (by decide))  (rv_t ((inW_l (lo := 0) (hi := 5) (by decide +kernel) (by decide +kernel)).mpr h9) m_in) rfl rfl (Nat.le_of_ble_eq_true rfl) ⟨by omega, by omega⟩) rfl ?_
      refine pw_if_ne_n (q := 28) 32 C dX11_mason_25 (by decide) rfl (by omega) (fun g25 => ?_) (fun g25 => absurd g25 (by decide))
      refine pw_iconst_n (q := 33) C 0 dX11_mason_32 (by decide +kernel) rfl ?_
      refine pw_val (q := 36) (cr_v (j := iX11_refused) C dX11_mason_33 lX11_76 mX11_refused (ro_mk (by decide) (by decide)) mh_o rfl (rv_f (by decide) (m_refused 0 (by decide))) rfl rfl (Nat.le_of_ble_eq_true rfl) ⟨by omega, by omega⟩) rfl (fun M33 e33 => ?_)
      subst e33
      refine pw_if_eq_n (q := 39) 41 C dX11_mason_36 (by decide) rfl (by omega) (fun g36 => ?_) (fun g36 => absurd g36 (fun q => q rfl))
      obtain ⟨j, _, hj, rfl⟩ := inW_n h9 (by omega) (by omega)
      refine pw_iload_n (q := 42) (j := 2) C dX11_mason_41 rfl rfl rfl ?_
      refine pw_iconst_n (q := 43) C 4 dX11_mason_42 (by decide +kernel) rfl ?_
      refine pw_icmp_ge_n (q := 46) 60 C dX11_mason_43 (by decide) rfl (by omega) (by omega) (fun g43 => ?_) (fun g43 => ?_)
      · refine pw_iload_n (q := 61) (j := 2) C dX11_mason_60 rfl rfl rfl ?_
        refine pw_iconst_n (q := 62) C 4 dX11_mason_61 (by decide +kernel) rfl ?_
        refine pw_icmp_ne_n (q := 65) 77 C dX11_mason_62 (by decide) rfl (by omega) (by omega) (fun g62 => ?_) (fun g62 => ?_)
        · refine pw_aload_n (q := 78) (j := 0) C dX11_mason_77 rfl rfl rfl ?_
          refine pw_getf (q := 81) C dX11_mason_78 fX11_16 mh_o (by rfl) rfl ?_
          refine pw_iload_n (q := 82) (j := 1) C dX11_mason_81 rfl rfl rfl ?_
          refine pw_iconst_n (q := 83) C 2 dX11_mason_82 (by decide +kernel) rfl ?_
          refine pw_rd (q := 86) (cr_s (j := iX11_markedBy) C dX11_mason_83 lX11_136 mX11_markedBy (ro_mk (by decide) (by decide))  (m_markedBy mh_P hI (by omega) (by omega)) rfl rfl (Nat.le_of_ble_eq_true rfl) ⟨by omega, by omega⟩) rfl ?_
          refine pw_aload_n (q := 87) (j := 0) C dX11_mason_86 rfl rfl rfl ?_
          refine pw_getf (q := 90) C dX11_mason_87 fX11_16 mh_o (by rfl) rfl ?_
          refine pw_iload_n (q := 91) (j := 1) C dX11_mason_90 rfl rfl rfl ?_
          refine pw_iconst_n (q := 92) C 4 dX11_mason_91 (by decide +kernel) rfl ?_
          refine pw_rd (q := 95) (cr_s (j := iX11_markedBy) C dX11_mason_92 lX11_136 mX11_markedBy (ro_mk (by decide) (by decide))  (m_markedBy mh_P hI (by omega) (by omega)) rfl rfl (Nat.le_of_ble_eq_true rfl) ⟨by omega, by omega⟩) rfl ?_
          refine pw_iadd_n (q := 96) C dX11_mason_95 rfl ?_
          exact pw_iret C dX11_mason_96 rfl ⟨by omega, by omega⟩ ((QM.ok (by rw [spMason, if_pos h1, if_pos h9, idx_n (show k1 < 2147483648 by omega), idx_n (show j < 2147483648 by omega), show j = 5 by omega]; rfl) (RepM.mk hD hK hF) same_mh))
        · refine pw_aload_n (q := 66) (j := 0) C dX11_mason_65 rfl rfl rfl ?_
          refine pw_getf (q := 69) C dX11_mason_66 fX11_16 mh_o (by rfl) rfl ?_
          refine pw_iload_n (q := 70) (j := 1) C dX11_mason_69 rfl rfl rfl ?_
          refine pw_iconst_n (q := 71) C 3 dX11_mason_70 (by decide +kernel) rfl ?_
          refine pw_rd (q := 74) (cr_s (j := iX11_markedBy) C dX11_mason_71 lX11_136 mX11_markedBy (ro_mk (by decide) (by decide))  (m_markedBy mh_P hI (by omega) (by omega)) rfl rfl (Nat.le_of_ble_eq_true rfl) ⟨by omega, by omega⟩) rfl ?_
          refine pw_goto (q := 0) 96 C dX11_mason_74 (by decide) ?_
          exact pw_iret C dX11_mason_96 rfl ⟨by omega, by omega⟩ ((QM.ok (by rw [spMason, if_pos h1, if_pos h9, idx_n (show k1 < 2147483648 by omega), idx_n (show j < 2147483648 by omega), show j = 4 by omega]; rfl) (RepM.mk hD hK hF) same_mh))
      · refine pw_aload_n (q := 47) (j := 0) C dX11_mason_46 rfl rfl rfl ?_
        refine pw_getf (q := 50) C dX11_mason_47 fX11_16 mh_o (by rfl) rfl ?_
        refine pw_bipush_n (q := 52) C 26 dX11_mason_50 (by decide +kernel) rfl ?_
        refine pw_iconst_n (q := 53) C 4 dX11_mason_52 (by decide +kernel) rfl ?_
        refine pw_iload_n (q := 54) (j := 1) C dX11_mason_53 rfl rfl rfl ?_
        refine pw_imul_n (q := 55) C dX11_mason_54 rfl ?_
        refine pw_iadd_n (q := 56) C dX11_mason_55 rfl ?_
        refine pw_iload_n (q := 57) (j := 2) C dX11_mason_56 rfl rfl rfl ?_
        refine pw_iadd_n (q := 58) C dX11_mason_57 rfl ?_
        refine pw_ipg (q := 59) C dX11_mason_58 mh_P (by omega) (by omega) rfl ?_
        exact pw_iret C dX11_mason_59 rfl ⟨by omega, by omega⟩ ((QM.ok (by rw [spMason, if_pos h1, if_pos h9, idx_n (show k1 < 2147483648 by omega), idx_n (show j < 2147483648 by omega), masonV_lo (by omega)]) (RepM.mk hD hK hF) same_mh))
    · refine pw_iload_n (q := 17) (j := 2) C dX11_mason_16 rfl rfl rfl ?_
      refine pw_i2l (q := 18) C dX11_mason_17 rfl ?_
      refine pw_lconst (q := 19) (v := 0) C dX11_mason_18 (by decide +kernel) rfl ?_
      refine pw_ldc2 (q := 22) C dX11_mason_19 cgX11_134 rfl ?_
      refine pw_rd (q := 25) (cr_s (j := iX11_in) C dX11_mason_22 lX11_39 mX11_in (ro_mk (by decide) (by decide))  (rv_f (fun q => h9 ((inW_l (lo := 0) (hi := 5) (by decide +kernel) (by decide +kernel)).mp q)) m_in) rfl rfl (Nat.le_of_ble_eq_true rfl) ⟨by omega, by omega⟩) rfl ?_
      refine pw_if_ne_n (q := 28) 32 C dX11_mason_25 (by decide) rfl (by omega) (fun g25 => absurd g25 (fun q => q rfl)) (fun g25 => ?_)
      refine pw_iconst_n (q := 29) C 2 dX11_mason_28 (by decide +kernel) rfl ?_
      refine pw_goto (q := 0) 33 C dX11_mason_29 (by decide) ?_
      refine pw_val (q := 36) (cr_v (j := iX11_refused) C dX11_mason_33 lX11_76 mX11_refused (ro_mk (by decide) (by decide)) mh_o rfl (rv_t (by decide) (m_refused 2 (by decide))) rfl rfl (Nat.le_of_ble_eq_true rfl) ⟨by omega, by omega⟩) rfl (fun M33 e33 => ?_)
      subst e33
      refine pw_if_eq_n (q := 39) 41 C dX11_mason_36 (by decide) rfl (by omega) (fun g36 => absurd g36 (by decide)) (fun g36 => ?_)
      refine pw_iconst_n (q := 40) C 0 dX11_mason_39 (by decide +kernel) rfl ?_
      exact pw_iret C dX11_mason_40 rfl ⟨by omega, by omega⟩ ((QM.no 1 (by rw [spMason, if_pos h1, if_neg h9]) (RepM.mk hD hK hF) same_mh))
  · refine pw_aload_n (q := 1) (j := 0) C dX11_mason_0 rfl rfl rfl ?_
    refine pw_aload_n (q := 2) (j := 0) C dX11_mason_1 rfl rfl rfl ?_
    refine pw_getf (q := 5) C dX11_mason_2 fX11_16 mh_o (by rfl) rfl ?_
    refine pw_iload_n (q := 6) (j := 1) C dX11_mason_5 rfl rfl rfl ?_
    refine pw_rd (q := 9) (cr_s (j := iX11_isMason) C dX11_mason_6 lX11_131 mX11_isMason (ro_mk (by decide) (by decide))  (rv_f h1 (m_isMason mh_P (by omega) _)) rfl rfl (Nat.le_of_ble_eq_true rfl) ⟨by omega, by omega⟩) rfl ?_
    refine pw_if_ne_n (q := 12) 16 C dX11_mason_9 (by decide) rfl (by omega) (fun g9 => absurd g9 (fun q => q rfl)) (fun g9 => ?_)
    refine pw_iconst_n (q := 13) C 1 dX11_mason_12 (by decide +kernel) rfl ?_
    refine pw_goto (q := 0) 33 C dX11_mason_13 (by decide) ?_
    refine pw_val (q := 36) (cr_v (j := iX11_refused) C dX11_mason_33 lX11_76 mX11_refused (ro_mk (by decide) (by decide)) mh_o rfl (rv_t (by decide) (m_refused 1 (by decide))) rfl rfl (Nat.le_of_ble_eq_true rfl) ⟨by omega, by omega⟩) rfl (fun M33 e33 => ?_)
    subst e33
    refine pw_if_eq_n (q := 39) 41 C dX11_mason_36 (by decide) rfl (by omega) (fun g36 => absurd g36 (by decide)) (fun g36 => ?_)
    refine pw_iconst_n (q := 40) C 0 dX11_mason_39 (by decide +kernel) rfl ?_
    exact pw_iret C dX11_mason_40 rfl ⟨by omega, by omega⟩ ((QM.no 0 (by rw [spMason, if_neg h1]) (RepM.mk hD hK hF) same_mh))
set_option maxHeartbeats 200000 in
set_option maxRecDepth 100000 in
theorem c_stone {M : PH} {m rf D0 : Nat} {S : St} (hM : RepM M m rf S) (hB : MB S) (hS : SInv D0 S) (c1 w : Int32) : Run iX11_stone [.ref m, .int c1, .int w] M 0 0 (QM M m (spStone S c1 w)) := by
  obtain ⟨M0, sp, ft, R, Q, D, K, L, rfl, hD, hK, hF⟩ := hM
  have hI := hS.1.1
  have hb := hI.b
  obtain ⟨hB1, hB2, hB3, hB4⟩ := id hB
  refine Run.of (l0 := [some (.ref m), some (.int c1), some (.int w)]) (by decide +kernel) (Nat.le_of_ble_eq_true rfl) (by rfl) (fun Γ G C => ?_)
  by_cases h1 : inI c1 (sP S 7)
  · obtain ⟨k1, hk1, rfl⟩ := inI_n h1 (by omega)
    refine pw_aload_n (q := 1) (j := 0) C dX11_stone_0 rfl rfl rfl ?_
    refine pw_aload_n (q := 2) (j := 0) C dX11_stone_1 rfl rfl rfl ?_
    refine pw_getf (q := 5) C dX11_stone_2 fX11_16 mh_o (by rfl) rfl ?_
    refine pw_iload_n (q := 6) (j := 1) C dX11_stone_5 rfl rfl rfl ?_
    refine pw_rd (q := 9) (cr_s (j := iX11_isStone) C dX11_stone_6 lX11_139 mX11_isStone (ro_mk (by decide) (by decide))  (rv_t h1 (m_isStone mh_P (by omega) _)) rfl rfl (Nat.le_of_ble_eq_true rfl) ⟨by omega, by omega⟩) rfl ?_
    refine pw_if_ne_n (q := 12) 16 C dX11_stone_9 (by decide) rfl (by omega) (fun g9 => ?_) (fun g9 => absurd g9 (by decide))
    by_cases h9 : inW w 0 5
    · refine pw_iload_n (q := 17) (j := 2) C dX11_stone_16 rfl rfl rfl ?_
      refine pw_i2l (q := 18) C dX11_stone_17 rfl ?_
      refine pw_lconst (q := 19) (v := 0) C dX11_stone_18 (by decide +kernel) rfl ?_
      refine pw_ldc2 (q := 22) C dX11_stone_19 cgX11_134 rfl ?_
      refine pw_rd (q := 25) (cr_s (j := iX11_in) C dX11_stone_22 lX11_39 mX11_in (ro_mk (by decide) (by decide))  (rv_t ((inW_l (lo := 0) (hi := 5) (by decide +kernel) (by decide +kernel)).mpr h9) m_in) rfl rfl (Nat.le_of_ble_eq_true rfl) ⟨by omega, by omega⟩) rfl ?_
      refine pw_if_ne_n (q := 28) 32 C dX11_stone_25 (by decide) rfl (by omega) (fun g25 => ?_) (fun g25 => absurd g25 (by decide))
      refine pw_iconst_n (q := 33) C 0 dX11_stone_32 (by decide +kernel) rfl ?_
      refine pw_val (q := 36) (cr_v (j := iX11_refused) C dX11_stone_33 lX11_76 mX11_refused (ro_mk (by decide) (by decide)) mh_o rfl (rv_f (by decide) (m_refused 0 (by decide))) rfl rfl (Nat.le_of_ble_eq_true rfl) ⟨by omega, by omega⟩) rfl (fun M33 e33 => ?_)
      subst e33
      refine pw_if_eq_n (q := 39) 43 C dX11_stone_36 (by decide) rfl (by omega) (fun g36 => ?_) (fun g36 => absurd g36 (fun q => q rfl))
      obtain ⟨j, _, hj, rfl⟩ := inW_n h9 (by omega) (by omega)
      refine pw_aload_n (q := 44) (j := 0) C dX11_stone_43 rfl rfl rfl ?_
      refine pw_getf (q := 47) C dX11_stone_44 fX11_16 mh_o (by rfl) rfl ?_
      refine pw_bipush_n (q := 49) C 50 dX11_stone_47 (by decide +kernel) rfl ?_
      refine pw_bipush_n (q := 51) C 6 dX11_stone_49 (by decide +kernel) rfl ?_
      refine pw_iload_n (q := 52) (j := 1) C dX11_stone_51 rfl rfl rfl ?_
      refine pw_imul_n (q := 53) C dX11_stone_52 rfl ?_
      refine pw_iadd_n (q := 54) C dX11_stone_53 rfl ?_
      refine pw_iload_n (q := 55) (j := 2) C dX11_stone_54 rfl rfl rfl ?_
      refine pw_iadd_n (q := 56) C dX11_stone_55 rfl ?_
      refine pw_ipg (q := 57) C dX11_stone_56 mh_P (by omega) (by omega) rfl ?_
      exact pw_iret C dX11_stone_57 rfl ⟨by omega, by omega⟩ ((QM.ok (by rw [spStone, if_pos h1, if_pos h9, idx_n (show k1 < 2147483648 by omega), idx_n (show j < 2147483648 by omega)]) (RepM.mk hD hK hF) same_mh))
    · refine pw_iload_n (q := 17) (j := 2) C dX11_stone_16 rfl rfl rfl ?_
      refine pw_i2l (q := 18) C dX11_stone_17 rfl ?_
      refine pw_lconst (q := 19) (v := 0) C dX11_stone_18 (by decide +kernel) rfl ?_
      refine pw_ldc2 (q := 22) C dX11_stone_19 cgX11_134 rfl ?_
      refine pw_rd (q := 25) (cr_s (j := iX11_in) C dX11_stone_22 lX11_39 mX11_in (ro_mk (by decide) (by decide))  (rv_f (fun q => h9 ((inW_l (lo := 0) (hi := 5) (by decide +kernel) (by decide +kernel)).mp q)) m_in) rfl rfl (Nat.le_of_ble_eq_true rfl) ⟨by omega, by omega⟩) rfl ?_
      refine pw_if_ne_n (q := 28) 32 C dX11_stone_25 (by decide) rfl (by omega) (fun g25 => absurd g25 (fun q => q rfl)) (fun g25 => ?_)
      refine pw_iconst_n (q := 29) C 2 dX11_stone_28 (by decide +kernel) rfl ?_
      refine pw_goto (q := 0) 33 C dX11_stone_29 (by decide) ?_
      refine pw_val (q := 36) (cr_v (j := iX11_refused) C dX11_stone_33 lX11_76 mX11_refused (ro_mk (by decide) (by decide)) mh_o rfl (rv_t (by decide) (m_refused 2 (by decide))) rfl rfl (Nat.le_of_ble_eq_true rfl) ⟨by omega, by omega⟩) rfl (fun M33 e33 => ?_)
      subst e33
      refine pw_if_eq_n (q := 39) 43 C dX11_stone_36 (by decide) rfl (by omega) (fun g36 => absurd g36 (by decide)) (fun g36 => ?_)
      refine pw_iconst_n (q := 40) C 0 dX11_stone_39 (by decide +kernel) rfl ?_
      refine pw_goto (q := 0) 57 C dX11_stone_40 (by decide) ?_
      exact pw_iret C dX11_stone_57 rfl ⟨by omega, by omega⟩ ((QM.no 1 (by rw [spStone, if_pos h1, if_neg h9]) (RepM.mk hD hK hF) same_mh))
  · refine pw_aload_n (q := 1) (j := 0) C dX11_stone_0 rfl rfl rfl ?_
    refine pw_aload_n (q := 2) (j := 0) C dX11_stone_1 rfl rfl rfl ?_
    refine pw_getf (q := 5) C dX11_stone_2 fX11_16 mh_o (by rfl) rfl ?_
    refine pw_iload_n (q := 6) (j := 1) C dX11_stone_5 rfl rfl rfl ?_
    refine pw_rd (q := 9) (cr_s (j := iX11_isStone) C dX11_stone_6 lX11_139 mX11_isStone (ro_mk (by decide) (by decide))  (rv_f h1 (m_isStone mh_P (by omega) _)) rfl rfl (Nat.le_of_ble_eq_true rfl) ⟨by omega, by omega⟩) rfl ?_
    refine pw_if_ne_n (q := 12) 16 C dX11_stone_9 (by decide) rfl (by omega) (fun g9 => absurd g9 (fun q => q rfl)) (fun g9 => ?_)
    refine pw_iconst_n (q := 13) C 1 dX11_stone_12 (by decide +kernel) rfl ?_
    refine pw_goto (q := 0) 33 C dX11_stone_13 (by decide) ?_
    refine pw_val (q := 36) (cr_v (j := iX11_refused) C dX11_stone_33 lX11_76 mX11_refused (ro_mk (by decide) (by decide)) mh_o rfl (rv_t (by decide) (m_refused 1 (by decide))) rfl rfl (Nat.le_of_ble_eq_true rfl) ⟨by omega, by omega⟩) rfl (fun M33 e33 => ?_)
    subst e33
    refine pw_if_eq_n (q := 39) 43 C dX11_stone_36 (by decide) rfl (by omega) (fun g36 => absurd g36 (by decide)) (fun g36 => ?_)
    refine pw_iconst_n (q := 40) C 0 dX11_stone_39 (by decide +kernel) rfl ?_
    refine pw_goto (q := 0) 57 C dX11_stone_40 (by decide) ?_
    exact pw_iret C dX11_stone_57 rfl ⟨by omega, by omega⟩ ((QM.no 0 (by rw [spStone, if_neg h1]) (RepM.mk hD hK hF) same_mh))
set_option maxHeartbeats 200000 in
set_option maxRecDepth 100000 in
theorem c_whyNotSet {M : PH} {m rf D0 : Nat} {S : St} (hM : RepM M m rf S) (hB : MB S) (hS : SInv D0 S) (c1 : Int32) : Run iX11_whyNotSet [.ref m, .int c1] M 0 0 (QM M m (spWhy S c1)) := by
  obtain ⟨M0, sp, ft, R, Q, D, K, L, rfl, hD, hK, hF⟩ := hM
  have hI := hS.1.1
  have hb := hI.b
  obtain ⟨hB1, hB2, hB3, hB4⟩ := id hB
  refine Run.of (l0 := [some (.ref m), some (.int c1)]) (by decide +kernel) (Nat.le_of_ble_eq_true rfl) (by rfl) (fun Γ G C => ?_)
  by_cases h1 : inI c1 (sP S 7)
  · obtain ⟨k1, hk1, rfl⟩ := inI_n h1 (by omega)
    refine pw_aload_n (q := 1) (j := 0) C dX11_whyNotSet_0 rfl rfl rfl ?_
    refine pw_aload_n (q := 2) (j := 0) C dX11_whyNotSet_1 rfl rfl rfl ?_
    refine pw_getf (q := 5) C dX11_whyNotSet_2 fX11_16 mh_o (by rfl) rfl ?_
    refine pw_iload_n (q := 6) (j := 1) C dX11_whyNotSet_5 rfl rfl rfl ?_
    refine pw_rd (q := 9) (cr_s (j := iX11_isStone) C dX11_whyNotSet_6 lX11_139 mX11_isStone (ro_mk (by decide) (by decide))  (rv_t h1 (m_isStone mh_P (by omega) _)) rfl rfl (Nat.le_of_ble_eq_true rfl) ⟨by omega, by omega⟩) rfl ?_
    refine pw_if_eq_n (q := 12) 16 C dX11_whyNotSet_9 (by decide) rfl (by omega) (fun g9 => absurd g9 (by decide)) (fun g9 => ?_)
    refine pw_iconst_n (q := 13) C 0 dX11_whyNotSet_12 (by decide +kernel) rfl ?_
    refine pw_goto (q := 0) 17 C dX11_whyNotSet_13 (by decide) ?_
    refine pw_val (q := 20) (cr_v (j := iX11_refused) C dX11_whyNotSet_17 lX11_76 mX11_refused (ro_mk (by decide) (by decide)) mh_o rfl (rv_f (by decide) (m_refused 0 (by decide))) rfl rfl (Nat.le_of_ble_eq_true rfl) ⟨by omega, by omega⟩) rfl (fun M17 e17 => ?_)
    subst e17
    refine pw_if_eq_n (q := 23) 27 C dX11_whyNotSet_20 (by decide) rfl (by omega) (fun g20 => ?_) (fun g20 => absurd g20 (fun q => q rfl))
    refine pw_aload_n (q := 28) (j := 0) C dX11_whyNotSet_27 rfl rfl rfl ?_
    refine pw_getf (q := 31) C dX11_whyNotSet_28 fX11_16 mh_o (by rfl) rfl ?_
    refine pw_iload_n (q := 32) (j := 1) C dX11_whyNotSet_31 rfl rfl rfl ?_
    refine pw_rd (q := 35) (cr_s (j := iX11_why) C dX11_whyNotSet_32 lX11_142 mX11_why (ro_mk (by decide) (by decide))  (m_why mh_P hI (by omega)) rfl rfl (Nat.le_of_ble_eq_true rfl) ⟨by omega, by omega⟩) rfl ?_
    exact pw_iret C dX11_whyNotSet_35 rfl ⟨by omega, by omega⟩ ((QM.ok (by rw [spWhy, if_pos h1, idx_n (show k1 < 2147483648 by omega)]) (RepM.mk hD hK hF) same_mh))
  · refine pw_aload_n (q := 1) (j := 0) C dX11_whyNotSet_0 rfl rfl rfl ?_
    refine pw_aload_n (q := 2) (j := 0) C dX11_whyNotSet_1 rfl rfl rfl ?_
    refine pw_getf (q := 5) C dX11_whyNotSet_2 fX11_16 mh_o (by rfl) rfl ?_
    refine pw_iload_n (q := 6) (j := 1) C dX11_whyNotSet_5 rfl rfl rfl ?_
    refine pw_rd (q := 9) (cr_s (j := iX11_isStone) C dX11_whyNotSet_6 lX11_139 mX11_isStone (ro_mk (by decide) (by decide))  (rv_f h1 (m_isStone mh_P (by omega) _)) rfl rfl (Nat.le_of_ble_eq_true rfl) ⟨by omega, by omega⟩) rfl ?_
    refine pw_if_eq_n (q := 12) 16 C dX11_whyNotSet_9 (by decide) rfl (by omega) (fun g9 => ?_) (fun g9 => absurd g9 (fun q => q rfl))
    refine pw_iconst_n (q := 17) C 1 dX11_whyNotSet_16 (by decide +kernel) rfl ?_
    refine pw_val (q := 20) (cr_v (j := iX11_refused) C dX11_whyNotSet_17 lX11_76 mX11_refused (ro_mk (by decide) (by decide)) mh_o rfl (rv_t (by decide) (m_refused 1 (by decide))) rfl rfl (Nat.le_of_ble_eq_true rfl) ⟨by omega, by omega⟩) rfl (fun M17 e17 => ?_)
    subst e17
    refine pw_if_eq_n (q := 23) 27 C dX11_whyNotSet_20 (by decide) rfl (by omega) (fun g20 => absurd g20 (by decide)) (fun g20 => ?_)
    refine pw_iconst_n (q := 24) C 0 dX11_whyNotSet_23 (by decide +kernel) rfl ?_
    refine pw_goto (q := 0) 35 C dX11_whyNotSet_24 (by decide) ?_
    exact pw_iret C dX11_whyNotSet_35 rfl ⟨by omega, by omega⟩ ((QM.no 0 (by rw [spWhy, if_neg h1]) (RepM.mk hD hK hF) same_mh))
set_option maxHeartbeats 200000 in
set_option maxRecDepth 100000 in
theorem c_recutFor {M : PH} {m rf D0 : Nat} {S : St} (hM : RepM M m rf S) (hB : MB S) (hS : SInv D0 S) (c1 : Int32) : Run iX11_recutFor [.ref m, .int c1] M 0 0 (QM M m (spRecutFor S c1)) := by
  obtain ⟨M0, sp, ft, R, Q, D, K, L, rfl, hD, hK, hF⟩ := hM
  have hI := hS.1.1
  have hb := hI.b
  obtain ⟨hB1, hB2, hB3, hB4⟩ := id hB
  refine Run.of (l0 := [some (.ref m), some (.int c1)]) (by decide +kernel) (Nat.le_of_ble_eq_true rfl) (by rfl) (fun Γ G C => ?_)
  by_cases h1 : inI c1 (sP S 7)
  · obtain ⟨k1, hk1, rfl⟩ := inI_n h1 (by omega)
    refine pw_aload_n (q := 1) (j := 0) C dX11_recutFor_0 rfl rfl rfl ?_
    refine pw_aload_n (q := 2) (j := 0) C dX11_recutFor_1 rfl rfl rfl ?_
    refine pw_getf (q := 5) C dX11_recutFor_2 fX11_16 mh_o (by rfl) rfl ?_
    refine pw_iload_n (q := 6) (j := 1) C dX11_recutFor_5 rfl rfl rfl ?_
    refine pw_rd (q := 9) (cr_s (j := iX11_isStone) C dX11_recutFor_6 lX11_139 mX11_isStone (ro_mk (by decide) (by decide))  (rv_t h1 (m_isStone mh_P (by omega) _)) rfl rfl (Nat.le_of_ble_eq_true rfl) ⟨by omega, by omega⟩) rfl ?_
    refine pw_if_eq_n (q := 12) 16 C dX11_recutFor_9 (by decide) rfl (by omega) (fun g9 => absurd g9 (by decide)) (fun g9 => ?_)
    refine pw_iconst_n (q := 13) C 0 dX11_recutFor_12 (by decide +kernel) rfl ?_
    refine pw_goto (q := 0) 17 C dX11_recutFor_13 (by decide) ?_
    refine pw_val (q := 20) (cr_v (j := iX11_refused) C dX11_recutFor_17 lX11_76 mX11_refused (ro_mk (by decide) (by decide)) mh_o rfl (rv_f (by decide) (m_refused 0 (by decide))) rfl rfl (Nat.le_of_ble_eq_true rfl) ⟨by omega, by omega⟩) rfl (fun M17 e17 => ?_)
    subst e17
    refine pw_if_eq_n (q := 23) 27 C dX11_recutFor_20 (by decide) rfl (by omega) (fun g20 => ?_) (fun g20 => absurd g20 (fun q => q rfl))
    refine pw_aload_n (q := 28) (j := 0) C dX11_recutFor_27 rfl rfl rfl ?_
    refine pw_getf (q := 31) C dX11_recutFor_28 fX11_16 mh_o (by rfl) rfl ?_
    refine pw_iload_n (q := 32) (j := 1) C dX11_recutFor_31 rfl rfl rfl ?_
    refine pw_rd (q := 35) (cr_s (j := iX11_recutCourse) C dX11_recutFor_32 lX11_172 mX11_recutCourse (ro_mk (by decide) (by decide))  (m_recutCourse mh_P hI (by omega)) rfl rfl (Nat.le_of_ble_eq_true rfl) ⟨by omega, by omega⟩) rfl ?_
    exact pw_iret C dX11_recutFor_35 rfl ⟨by omega, by omega⟩ ((QM.ok (by rw [spRecutFor, if_pos h1, idx_n (show k1 < 2147483648 by omega)]) (RepM.mk hD hK hF) same_mh))
  · refine pw_aload_n (q := 1) (j := 0) C dX11_recutFor_0 rfl rfl rfl ?_
    refine pw_aload_n (q := 2) (j := 0) C dX11_recutFor_1 rfl rfl rfl ?_
    refine pw_getf (q := 5) C dX11_recutFor_2 fX11_16 mh_o (by rfl) rfl ?_
    refine pw_iload_n (q := 6) (j := 1) C dX11_recutFor_5 rfl rfl rfl ?_
    refine pw_rd (q := 9) (cr_s (j := iX11_isStone) C dX11_recutFor_6 lX11_139 mX11_isStone (ro_mk (by decide) (by decide))  (rv_f h1 (m_isStone mh_P (by omega) _)) rfl rfl (Nat.le_of_ble_eq_true rfl) ⟨by omega, by omega⟩) rfl ?_
    refine pw_if_eq_n (q := 12) 16 C dX11_recutFor_9 (by decide) rfl (by omega) (fun g9 => ?_) (fun g9 => absurd g9 (fun q => q rfl))
    refine pw_iconst_n (q := 17) C 1 dX11_recutFor_16 (by decide +kernel) rfl ?_
    refine pw_val (q := 20) (cr_v (j := iX11_refused) C dX11_recutFor_17 lX11_76 mX11_refused (ro_mk (by decide) (by decide)) mh_o rfl (rv_t (by decide) (m_refused 1 (by decide))) rfl rfl (Nat.le_of_ble_eq_true rfl) ⟨by omega, by omega⟩) rfl (fun M17 e17 => ?_)
    subst e17
    refine pw_if_eq_n (q := 23) 27 C dX11_recutFor_20 (by decide) rfl (by omega) (fun g20 => absurd g20 (by decide)) (fun g20 => ?_)
    refine pw_iconst_n (q := 24) C 0 dX11_recutFor_23 (by decide +kernel) rfl ?_
    refine pw_goto (q := 0) 35 C dX11_recutFor_24 (by decide) ?_
    exact pw_iret C dX11_recutFor_35 rfl ⟨by omega, by omega⟩ ((QM.no 0 (by rw [spRecutFor, if_neg h1]) (RepM.mk hD hK hF) same_mh))
set_option maxHeartbeats 200000 in
set_option maxRecDepth 100000 in
theorem c_cheapest {M : PH} {m rf D0 : Nat} {S : St} (hM : RepM M m rf S) (hB : MB S) (hS : SInv D0 S) (c1 : Int32) : Run iX11_cheapest [.ref m, .int c1] M 0 0 (QM M m (spCheapest S c1)) := by
  obtain ⟨M0, sp, ft, R, Q, D, K, L, rfl, hD, hK, hF⟩ := hM
  have hI := hS.1.1
  have hb := hI.b
  obtain ⟨hB1, hB2, hB3, hB4⟩ := id hB
  refine Run.of (l0 := [some (.ref m), some (.int c1), none, none, none]) (by decide +kernel) (Nat.le_of_ble_eq_true rfl) (by rfl) (fun Γ G C => ?_)
  by_cases h1 : inI c1 (sP S 5)
  · obtain ⟨k1, hk1, rfl⟩ := inI_n h1 (by omega)
    refine pw_aload_n (q := 1) (j := 0) C dX11_cheapest_0 rfl rfl rfl ?_
    refine pw_aload_n (q := 2) (j := 0) C dX11_cheapest_1 rfl rfl rfl ?_
    refine pw_getf (q := 5) C dX11_cheapest_2 fX11_16 mh_o (by rfl) rfl ?_
    refine pw_iload_n (q := 6) (j := 1) C dX11_cheapest_5 rfl rfl rfl ?_
    refine pw_rd (q := 9) (cr_s (j := iX11_isCourse) C dX11_cheapest_6 lX11_126 mX11_isCourse (ro_mk (by decide) (by decide))  (rv_t h1 (m_isCourse mh_P (by omega) _)) rfl rfl (Nat.le_of_ble_eq_true rfl) ⟨by omega, by omega⟩) rfl ?_
    refine pw_if_eq_n (q := 12) 16 C dX11_cheapest_9 (by decide) rfl (by omega) (fun g9 => absurd g9 (by decide)) (fun g9 => ?_)
    refine pw_iconst_n (q := 13) C 0 dX11_cheapest_12 (by decide +kernel) rfl ?_
    refine pw_goto (q := 0) 17 C dX11_cheapest_13 (by decide) ?_
    refine pw_val (q := 20) (cr_v (j := iX11_refused) C dX11_cheapest_17 lX11_76 mX11_refused (ro_mk (by decide) (by decide)) mh_o rfl (rv_f (by decide) (m_refused 0 (by decide))) rfl rfl (Nat.le_of_ble_eq_true rfl) ⟨by omega, by omega⟩) rfl (fun M17 e17 => ?_)
    subst e17
    refine pw_if_eq_n (q := 23) 25 C dX11_cheapest_20 (by decide) rfl (by omega) (fun g20 => ?_) (fun g20 => absurd g20 (fun q => q rfl))
    refine pw_bipush (q := 27) (v := (-9)) C dX11_cheapest_25 (by decide +kernel) rfl ?_
    refine pw_istore_n (q := 28) (j := 2) C dX11_cheapest_27 rfl rfl (by decide) rfl ?_
    refine pw_iconst_n (q := 29) C 0 dX11_cheapest_28 (by decide +kernel) rfl ?_
    refine pw_istore_n (q := 30) (j := 3) C dX11_cheapest_29 rfl rfl (by decide) rfl ?_
    have loop : ∀ (d c : Nat), c + d = sP S 6 → ∀ x4 : Option Value, PW Γ G (ZJ Γ G 0 0 (QM (mh M0 m rf (sN S) sp ft (sM S) (sT S) R (sP S) Q D K (sB S) L) m (spCheapest S (nI k1)))) 30 [some (.ref m), some (.int (nI k1)), some (.int (optI (cheapN (sP S) k1 c))), some (.int (nI c)), x4] [] (mh M0 m 0 (sN S) sp ft (sM S) (sT S) R (sP S) Q D K (sB S) L) 0 0 := by
      intro d
      induction d with
      | zero =>
        intro c hd
        intro x4
        refine pw_iload_n (q := 31) (j := 3) C dX11_cheapest_30 rfl rfl rfl ?_
        refine pw_aload_n (q := 32) (j := 0) C dX11_cheapest_31 rfl rfl rfl ?_
        refine pw_getf (q := 35) C dX11_cheapest_32 fX11_16 mh_o (by rfl) rfl ?_
        refine pw_bipush_n (q := 37) C 6 dX11_cheapest_35 (by decide +kernel) rfl ?_
        refine pw_ipg (q := 38) C dX11_cheapest_37 mh_P (by omega) (by omega) rfl ?_
        refine pw_icmp_ge_n (q := 41) 120 C dX11_cheapest_38 (by decide) rfl (by omega) (by omega) (fun g38 => ?_) (fun g38 => absurd g38 (by omega))
        refine pw_iload_n (q := 121) (j := 2) C dX11_cheapest_120 rfl rfl rfl ?_
        exact pw_iret C dX11_cheapest_121 rfl ⟨by omega, by omega⟩ ((QM.ok (by rw [spCheapest, if_pos h1, idx_n (show k1 < 2147483648 by omega), show c = sP S 6 by omega]) (RepM.mk hD hK hF) same_mh))
      | succ d ih =>
        intro c hd
        intro x4
        have q4 := hI.m (show c < sP S 6 by omega)
        have q6 := hI.c hk1
        cases hb9 : cheapN (sP S) k1 c with
        | none =>
          refine pw_iload_n (q := 31) (j := 3) C dX11_cheapest_30 rfl rfl rfl ?_
          refine pw_aload_n (q := 32) (j := 0) C dX11_cheapest_31 rfl rfl rfl ?_
          refine pw_getf (q := 35) C dX11_cheapest_32 fX11_16 mh_o (by rfl) rfl ?_
          refine pw_bipush_n (q := 37) C 6 dX11_cheapest_35 (by decide +kernel) rfl ?_
          refine pw_ipg (q := 38) C dX11_cheapest_37 mh_P (by omega) (by omega) rfl ?_
          refine pw_icmp_ge_n (q := 41) 120 C dX11_cheapest_38 (by decide) rfl (by omega) (by omega) (fun g38 => absurd g38 (by omega)) (fun g38 => ?_)
          refine pw_aload_n (q := 42) (j := 0) C dX11_cheapest_41 rfl rfl rfl ?_
          refine pw_getf (q := 45) C dX11_cheapest_42 fX11_16 mh_o (by rfl) rfl ?_
          refine pw_bipush_n (q := 47) C 26 dX11_cheapest_45 (by decide +kernel) rfl ?_
          refine pw_iconst_n (q := 48) C 4 dX11_cheapest_47 (by decide +kernel) rfl ?_
          refine pw_iload_n (q := 49) (j := 3) C dX11_cheapest_48 rfl rfl rfl ?_
          refine pw_imul_n (q := 50) C dX11_cheapest_49 rfl ?_
          refine pw_iadd_n (q := 51) C dX11_cheapest_50 rfl ?_
          refine pw_iconst_n (q := 52) C 2 dX11_cheapest_51 (by decide +kernel) rfl ?_
          refine pw_iadd_n (q := 53) C dX11_cheapest_52 rfl ?_
          refine pw_ipg (q := 54) C dX11_cheapest_53 mh_P (by omega) (by omega) rfl ?_
          refine pw_aload_n (q := 55) (j := 0) C dX11_cheapest_54 rfl rfl rfl ?_
          refine pw_getf (q := 58) C dX11_cheapest_55 fX11_16 mh_o (by rfl) rfl ?_
          refine pw_iload_n (q := 59) (j := 1) C dX11_cheapest_58 rfl rfl rfl ?_
          refine pw_rd (q := 62) (cr_s (j := iX11_facesOf) C dX11_cheapest_59 lX11_51 mX11_facesOf (ro_mk (by decide) (by decide))  (m_faces mh_P (by omega)) rfl rfl (Nat.le_of_ble_eq_true rfl) ⟨by omega, by omega⟩) rfl ?_
          refine pw_icmp_lt_n (q := 65) 69 C dX11_cheapest_62 (by decide) rfl (by omega) (by omega) (fun g62 => ?_) (fun g62 => ?_)
          · refine pw_iconst_n (q := 70) C 0 dX11_cheapest_69 (by decide +kernel) rfl ?_
            refine pw_istore (q := 72) C dX11_cheapest_70 rfl (by decide) rfl ?_
            refine pw_iload (q := 74) C dX11_cheapest_72 rfl rfl ?_
            refine pw_if_eq_n (q := 77) 112 C dX11_cheapest_74 (by decide) rfl (by omega) (fun g74 => ?_) (fun g74 => absurd g74 (fun q => q rfl))
            refine pw_iload_n (q := 113) (j := 2) C dX11_cheapest_112 rfl rfl rfl ?_
            refine pw_istore_n (q := 114) (j := 2) C dX11_cheapest_113 rfl rfl (by decide) rfl ?_
            refine pw_iinc_n (q := 117) C 1 dX11_cheapest_114 rfl (by decide +kernel) rfl (by decide) rfl ?_
            refine pw_goto (q := 0) 30 C dX11_cheapest_117 (by decide) ?_
            have e9 : cheapN (sP S) k1 (c + 1) = _ := (cheapN_no (fun q => absurd q.1 (by omega))).trans hb9
            have z9 := ih (c + 1) (by omega)
            rw [e9] at z9
            exact z9 _
          · refine pw_iconst_n (q := 66) C 1 dX11_cheapest_65 (by decide +kernel) rfl ?_
            refine pw_goto (q := 0) 70 C dX11_cheapest_66 (by decide) ?_
            refine pw_istore (q := 72) C dX11_cheapest_70 rfl (by decide) rfl ?_
            refine pw_iload (q := 74) C dX11_cheapest_72 rfl rfl ?_
            refine pw_if_eq_n (q := 77) 112 C dX11_cheapest_74 (by decide) rfl (by omega) (fun g74 => absurd g74 (by decide)) (fun g74 => ?_)
            refine pw_iload_n (q := 78) (j := 2) C dX11_cheapest_77 rfl rfl rfl ?_
            refine pw_bipush (q := 80) (v := (-9)) C dX11_cheapest_78 (by decide +kernel) rfl ?_
            refine pw_icmp_eq (q := 83) 108 C dX11_cheapest_80 (by decide) rfl (fun g80 => ?_) (fun g80 => absurd g80 (not_not_intro rfl))
            refine pw_iload_n (q := 109) (j := 3) C dX11_cheapest_108 rfl rfl rfl ?_
            refine pw_goto (q := 0) 113 C dX11_cheapest_109 (by decide) ?_
            refine pw_istore_n (q := 114) (j := 2) C dX11_cheapest_113 rfl rfl (by decide) rfl ?_
            refine pw_iinc_n (q := 117) C 1 dX11_cheapest_114 rfl (by decide +kernel) rfl (by decide) rfl ?_
            refine pw_goto (q := 0) 30 C dX11_cheapest_117 (by decide) ?_
            have e9 : cheapN (sP S) k1 (c + 1) = _ := cheapN_yes (by omega) (fun b q => by rw [hb9] at q; cases q)
            have z9 := ih (c + 1) (by omega)
            rw [e9] at z9
            exact z9 _
        | some b =>
          have hbl := cheapN_lt hb9
          have q7 := hI.m (show b < sP S 6 by omega)
          refine pw_iload_n (q := 31) (j := 3) C dX11_cheapest_30 rfl rfl rfl ?_
          refine pw_aload_n (q := 32) (j := 0) C dX11_cheapest_31 rfl rfl rfl ?_
          refine pw_getf (q := 35) C dX11_cheapest_32 fX11_16 mh_o (by rfl) rfl ?_
          refine pw_bipush_n (q := 37) C 6 dX11_cheapest_35 (by decide +kernel) rfl ?_
          refine pw_ipg (q := 38) C dX11_cheapest_37 mh_P (by omega) (by omega) rfl ?_
          refine pw_icmp_ge_n (q := 41) 120 C dX11_cheapest_38 (by decide) rfl (by omega) (by omega) (fun g38 => absurd g38 (by omega)) (fun g38 => ?_)
          refine pw_aload_n (q := 42) (j := 0) C dX11_cheapest_41 rfl rfl rfl ?_
          refine pw_getf (q := 45) C dX11_cheapest_42 fX11_16 mh_o (by rfl) rfl ?_
          refine pw_bipush_n (q := 47) C 26 dX11_cheapest_45 (by decide +kernel) rfl ?_
          refine pw_iconst_n (q := 48) C 4 dX11_cheapest_47 (by decide +kernel) rfl ?_
          refine pw_iload_n (q := 49) (j := 3) C dX11_cheapest_48 rfl rfl rfl ?_
          refine pw_imul_n (q := 50) C dX11_cheapest_49 rfl ?_
          refine pw_iadd_n (q := 51) C dX11_cheapest_50 rfl ?_
          refine pw_iconst_n (q := 52) C 2 dX11_cheapest_51 (by decide +kernel) rfl ?_
          refine pw_iadd_n (q := 53) C dX11_cheapest_52 rfl ?_
          refine pw_ipg (q := 54) C dX11_cheapest_53 mh_P (by omega) (by omega) rfl ?_
          refine pw_aload_n (q := 55) (j := 0) C dX11_cheapest_54 rfl rfl rfl ?_
          refine pw_getf (q := 58) C dX11_cheapest_55 fX11_16 mh_o (by rfl) rfl ?_
          refine pw_iload_n (q := 59) (j := 1) C dX11_cheapest_58 rfl rfl rfl ?_
          refine pw_rd (q := 62) (cr_s (j := iX11_facesOf) C dX11_cheapest_59 lX11_51 mX11_facesOf (ro_mk (by decide) (by decide))  (m_faces mh_P (by omega)) rfl rfl (Nat.le_of_ble_eq_true rfl) ⟨by omega, by omega⟩) rfl ?_
          refine pw_icmp_lt_n (q := 65) 69 C dX11_cheapest_62 (by decide) rfl (by omega) (by omega) (fun g62 => ?_) (fun g62 => ?_)
          · refine pw_iconst_n (q := 70) C 0 dX11_cheapest_69 (by decide +kernel) rfl ?_
            refine pw_istore (q := 72) C dX11_cheapest_70 rfl (by decide) rfl ?_
            refine pw_iload (q := 74) C dX11_cheapest_72 rfl rfl ?_
            refine pw_if_eq_n (q := 77) 112 C dX11_cheapest_74 (by decide) rfl (by omega) (fun g74 => ?_) (fun g74 => absurd g74 (fun q => q rfl))
            refine pw_iload_n (q := 113) (j := 2) C dX11_cheapest_112 rfl rfl rfl ?_
            refine pw_istore_n (q := 114) (j := 2) C dX11_cheapest_113 rfl rfl (by decide) rfl ?_
            refine pw_iinc_n (q := 117) C 1 dX11_cheapest_114 rfl (by decide +kernel) rfl (by decide) rfl ?_
            refine pw_goto (q := 0) 30 C dX11_cheapest_117 (by decide) ?_
            have e9 : cheapN (sP S) k1 (c + 1) = _ := (cheapN_no (fun q => absurd q.1 (by omega))).trans hb9
            have z9 := ih (c + 1) (by omega)
            rw [e9] at z9
            exact z9 _
          · refine pw_iconst_n (q := 66) C 1 dX11_cheapest_65 (by decide +kernel) rfl ?_
            refine pw_goto (q := 0) 70 C dX11_cheapest_66 (by decide) ?_
            refine pw_istore (q := 72) C dX11_cheapest_70 rfl (by decide) rfl ?_
            refine pw_iload (q := 74) C dX11_cheapest_72 rfl rfl ?_
            refine pw_if_eq_n (q := 77) 112 C dX11_cheapest_74 (by decide) rfl (by omega) (fun g74 => absurd g74 (by decide)) (fun g74 => ?_)
            refine pw_iload_n (q := 78) (j := 2) C dX11_cheapest_77 rfl rfl rfl ?_
            refine pw_bipush (q := 80) (v := (-9)) C dX11_cheapest_78 (by decide +kernel) rfl ?_
            refine pw_icmp_eq (q := 83) 108 C dX11_cheapest_80 (by decide) rfl (fun g80 => absurd g80 (optI_ne (by omega))) (fun g80 => ?_)
            refine pw_aload_n (q := 84) (j := 0) C dX11_cheapest_83 rfl rfl rfl ?_
            refine pw_getf (q := 87) C dX11_cheapest_84 fX11_16 mh_o (by rfl) rfl ?_
            refine pw_bipush_n (q := 89) C 26 dX11_cheapest_87 (by decide +kernel) rfl ?_
            refine pw_iconst_n (q := 90) C 4 dX11_cheapest_89 (by decide +kernel) rfl ?_
            refine pw_iload_n (q := 91) (j := 3) C dX11_cheapest_90 rfl rfl rfl ?_
            refine pw_imul_n (q := 92) C dX11_cheapest_91 rfl ?_
            refine pw_iadd_n (q := 93) C dX11_cheapest_92 rfl ?_
            refine pw_ipg (q := 94) C dX11_cheapest_93 mh_P (by omega) (by omega) rfl ?_
            refine pw_aload_n (q := 95) (j := 0) C dX11_cheapest_94 rfl rfl rfl ?_
            refine pw_getf (q := 98) C dX11_cheapest_95 fX11_16 mh_o (by rfl) rfl ?_
            refine pw_bipush_n (q := 100) C 26 dX11_cheapest_98 (by decide +kernel) rfl ?_
            refine pw_iconst_n (q := 101) C 4 dX11_cheapest_100 (by decide +kernel) rfl ?_
            refine pw_iload_n (q := 102) (j := 2) C dX11_cheapest_101 rfl rfl rfl ?_
            refine pw_imul_n (q := 103) C dX11_cheapest_102 rfl ?_
            refine pw_iadd_n (q := 104) C dX11_cheapest_103 rfl ?_
            refine pw_ipg (q := 105) C dX11_cheapest_104 mh_P (by omega) (by omega) rfl ?_
            refine pw_icmp_ge_n (q := 108) 112 C dX11_cheapest_105 (by decide) rfl (by omega) (by omega) (fun g105 => ?_) (fun g105 => ?_)
            · refine pw_iload_n (q := 113) (j := 2) C dX11_cheapest_112 rfl rfl rfl ?_
              refine pw_istore_n (q := 114) (j := 2) C dX11_cheapest_113 rfl rfl (by decide) rfl ?_
              refine pw_iinc_n (q := 117) C 1 dX11_cheapest_114 rfl (by decide +kernel) rfl (by decide) rfl ?_
              refine pw_goto (q := 0) 30 C dX11_cheapest_117 (by decide) ?_
              have e9 : cheapN (sP S) k1 (c + 1) = _ := (cheapN_no (fun q => absurd (q.2 b hb9) (by omega))).trans hb9
              have z9 := ih (c + 1) (by omega)
              rw [e9] at z9
              exact z9 _
            · refine pw_iload_n (q := 109) (j := 3) C dX11_cheapest_108 rfl rfl rfl ?_
              refine pw_goto (q := 0) 113 C dX11_cheapest_109 (by decide) ?_
              refine pw_istore_n (q := 114) (j := 2) C dX11_cheapest_113 rfl rfl (by decide) rfl ?_
              refine pw_iinc_n (q := 117) C 1 dX11_cheapest_114 rfl (by decide +kernel) rfl (by decide) rfl ?_
              refine pw_goto (q := 0) 30 C dX11_cheapest_117 (by decide) ?_
              have e9 : cheapN (sP S) k1 (c + 1) = _ := cheapN_yes (by omega) (fun b2 q => by rw [hb9] at q; cases q; omega)
              have z9 := ih (c + 1) (by omega)
              rw [e9] at z9
              exact z9 _
    exact loop (sP S 6) 0 (by omega) none
  · refine pw_aload_n (q := 1) (j := 0) C dX11_cheapest_0 rfl rfl rfl ?_
    refine pw_aload_n (q := 2) (j := 0) C dX11_cheapest_1 rfl rfl rfl ?_
    refine pw_getf (q := 5) C dX11_cheapest_2 fX11_16 mh_o (by rfl) rfl ?_
    refine pw_iload_n (q := 6) (j := 1) C dX11_cheapest_5 rfl rfl rfl ?_
    refine pw_rd (q := 9) (cr_s (j := iX11_isCourse) C dX11_cheapest_6 lX11_126 mX11_isCourse (ro_mk (by decide) (by decide))  (rv_f h1 (m_isCourse mh_P (by omega) _)) rfl rfl (Nat.le_of_ble_eq_true rfl) ⟨by omega, by omega⟩) rfl ?_
    refine pw_if_eq_n (q := 12) 16 C dX11_cheapest_9 (by decide) rfl (by omega) (fun g9 => ?_) (fun g9 => absurd g9 (fun q => q rfl))
    refine pw_iconst_n (q := 17) C 1 dX11_cheapest_16 (by decide +kernel) rfl ?_
    refine pw_val (q := 20) (cr_v (j := iX11_refused) C dX11_cheapest_17 lX11_76 mX11_refused (ro_mk (by decide) (by decide)) mh_o rfl (rv_t (by decide) (m_refused 1 (by decide))) rfl rfl (Nat.le_of_ble_eq_true rfl) ⟨by omega, by omega⟩) rfl (fun M17 e17 => ?_)
    subst e17
    refine pw_if_eq_n (q := 23) 25 C dX11_cheapest_20 (by decide) rfl (by omega) (fun g20 => absurd g20 (by decide)) (fun g20 => ?_)
    refine pw_iconst_n (q := 24) C 0 dX11_cheapest_23 (by decide +kernel) rfl ?_
    exact pw_iret C dX11_cheapest_24 rfl ⟨by omega, by omega⟩ ((QM.no 0 (by rw [spCheapest, if_neg h1]) (RepM.mk hD hK hF) same_mh))
set_option maxHeartbeats 200000 in
set_option maxRecDepth 100000 in
theorem c_wouldEarn {M : PH} {m rf D0 : Nat} {S : St} (hM : RepM M m rf S) (hB : MB S) (hS : SInv D0 S) (c1 : Int32) : Run iX11_wouldEarn [.ref m, .int c1] M 0 0 (QM M m (spEarn S c1)) := by
  obtain ⟨M0, sp, ft, R, Q, D, K, L, rfl, hD, hK, hF⟩ := hM
  have hI := hS.1.1
  have hb := hI.b
  obtain ⟨hB1, hB2, hB3, hB4⟩ := id hB
  refine Run.of (l0 := [some (.ref m), some (.int c1), none, none, none]) (by decide +kernel) (Nat.le_of_ble_eq_true rfl) (by rfl) (fun Γ G C => ?_)
  by_cases h1 : inW c1 0 9
  · refine pw_aload_n (q := 1) (j := 0) C dX11_wouldEarn_0 rfl rfl rfl ?_
    refine pw_iload_n (q := 2) (j := 1) C dX11_wouldEarn_1 rfl rfl rfl ?_
    refine pw_i2l (q := 3) C dX11_wouldEarn_2 rfl ?_
    refine pw_lconst (q := 4) (v := 0) C dX11_wouldEarn_3 (by decide +kernel) rfl ?_
    refine pw_ldc2 (q := 7) C dX11_wouldEarn_4 cgX11_145 rfl ?_
    refine pw_rd (q := 10) (cr_s (j := iX11_in) C dX11_wouldEarn_7 lX11_39 mX11_in (ro_mk (by decide) (by decide))  (rv_t ((inW_l (lo := 0) (hi := 9) (by decide +kernel) (by decide +kernel)).mpr h1) m_in) rfl rfl (Nat.le_of_ble_eq_true rfl) ⟨by omega, by omega⟩) rfl ?_
    refine pw_if_eq_n (q := 13) 17 C dX11_wouldEarn_10 (by decide) rfl (by omega) (fun g10 => absurd g10 (by decide)) (fun g10 => ?_)
    refine pw_iconst_n (q := 14) C 0 dX11_wouldEarn_13 (by decide +kernel) rfl ?_
    refine pw_goto (q := 0) 18 C dX11_wouldEarn_14 (by decide) ?_
    refine pw_val (q := 21) (cr_v (j := iX11_refused) C dX11_wouldEarn_18 lX11_76 mX11_refused (ro_mk (by decide) (by decide)) mh_o rfl (rv_f (by decide) (m_refused 0 (by decide))) rfl rfl (Nat.le_of_ble_eq_true rfl) ⟨by omega, by omega⟩) rfl (fun M18 e18 => ?_)
    subst e18
    refine pw_if_eq_n (q := 24) 26 C dX11_wouldEarn_21 (by decide) rfl (by omega) (fun g21 => ?_) (fun g21 => absurd g21 (fun q => q rfl))
    obtain ⟨k1, hl1, hk1, rfl⟩ := inW_n h1 (by omega) (by omega)
    refine pw_iconst_n (q := 27) C 0 dX11_wouldEarn_26 (by decide +kernel) rfl ?_
    refine pw_istore_n (q := 28) (j := 2) C dX11_wouldEarn_27 rfl rfl (by decide) rfl ?_
    refine pw_iconst_n (q := 29) C 0 dX11_wouldEarn_28 (by decide +kernel) rfl ?_
    refine pw_istore_n (q := 30) (j := 3) C dX11_wouldEarn_29 rfl rfl (by decide) rfl ?_
    have loop : ∀ (d s : Nat), s + d = sP S 7 → ∀ x4 : Option Value, PW Γ G (ZJ Γ G 0 0 (QM (mh M0 m rf (sN S) sp ft (sM S) (sT S) R (sP S) Q D K (sB S) L) m (spEarn S (nI k1)))) 30 [some (.ref m), some (.int (nI k1)), some (.int (nI (sumN (earnF (sP S) k1) s))), some (.int (nI s)), x4] [] (mh M0 m 0 (sN S) sp ft (sM S) (sT S) R (sP S) Q D K (sB S) L) 0 0 := by
      intro d
      induction d with
      | zero =>
        intro s hd
        intro x4
        refine pw_iload_n (q := 31) (j := 3) C dX11_wouldEarn_30 rfl rfl rfl ?_
        refine pw_aload_n (q := 32) (j := 0) C dX11_wouldEarn_31 rfl rfl rfl ?_
        refine pw_getf (q := 35) C dX11_wouldEarn_32 fX11_16 mh_o (by rfl) rfl ?_
        refine pw_bipush_n (q := 37) C 7 dX11_wouldEarn_35 (by decide +kernel) rfl ?_
        refine pw_ipg (q := 38) C dX11_wouldEarn_37 mh_P (by omega) (by omega) rfl ?_
        refine pw_icmp_ge_n (q := 41) 96 C dX11_wouldEarn_38 (by decide) rfl (by omega) (by omega) (fun g38 => ?_) (fun g38 => absurd g38 (by omega))
        refine pw_iload_n (q := 97) (j := 2) C dX11_wouldEarn_96 rfl rfl rfl ?_
        exact pw_iret C dX11_wouldEarn_97 rfl ⟨by omega, by omega⟩ ((QM.ok (by rw [spEarn, if_pos h1, idx_n (show k1 < 2147483648 by omega), show s = sP S 7 by omega]; rfl) (RepM.mk hD hK hF) same_mh))
      | succ d ih =>
        intro s hd
        intro x4
        refine pw_iload_n (q := 31) (j := 3) C dX11_wouldEarn_30 rfl rfl rfl ?_
        refine pw_aload_n (q := 32) (j := 0) C dX11_wouldEarn_31 rfl rfl rfl ?_
        refine pw_getf (q := 35) C dX11_wouldEarn_32 fX11_16 mh_o (by rfl) rfl ?_
        refine pw_bipush_n (q := 37) C 7 dX11_wouldEarn_35 (by decide +kernel) rfl ?_
        refine pw_ipg (q := 38) C dX11_wouldEarn_37 mh_P (by omega) (by omega) rfl ?_
        refine pw_icmp_ge_n (q := 41) 96 C dX11_wouldEarn_38 (by decide) rfl (by omega) (by omega) (fun g38 => absurd g38 (by omega)) (fun g38 => ?_)
        have q4 := hI.s (show s < sP S 7 by omega)
        refine pw_bipush_n (q := 43) C 50 dX11_wouldEarn_41 (by decide +kernel) rfl ?_
        refine pw_bipush_n (q := 45) C 6 dX11_wouldEarn_43 (by decide +kernel) rfl ?_
        refine pw_iload_n (q := 46) (j := 3) C dX11_wouldEarn_45 rfl rfl rfl ?_
        refine pw_imul_n (q := 47) C dX11_wouldEarn_46 rfl ?_
        refine pw_iadd_n (q := 48) C dX11_wouldEarn_47 rfl ?_
        refine pw_istore (q := 50) C dX11_wouldEarn_48 rfl (by decide) rfl ?_
        refine pw_iload_n (q := 51) (j := 2) C dX11_wouldEarn_50 rfl rfl rfl ?_
        refine pw_aload_n (q := 52) (j := 0) C dX11_wouldEarn_51 rfl rfl rfl ?_
        refine pw_getf (q := 55) C dX11_wouldEarn_52 fX11_16 mh_o (by rfl) rfl ?_
        refine pw_iload (q := 57) C dX11_wouldEarn_55 rfl rfl ?_
        refine pw_iconst_n (q := 58) C 3 dX11_wouldEarn_57 (by decide +kernel) rfl ?_
        refine pw_iadd_n (q := 59) C dX11_wouldEarn_58 rfl ?_
        refine pw_ipg (q := 60) C dX11_wouldEarn_59 mh_P (by omega) (by omega) rfl ?_
        refine pw_if_ne_n (q := 63) 87 C dX11_wouldEarn_60 (by decide) rfl (by omega) (fun g60 => ?_) (fun g60 => ?_)
        · refine pw_iconst_n (q := 88) C 0 dX11_wouldEarn_87 (by decide +kernel) rfl ?_
          refine pw_iadd_n (q := 89) C dX11_wouldEarn_88 rfl ?_
          refine pw_istore_n (q := 90) (j := 2) C dX11_wouldEarn_89 rfl rfl (by decide) rfl ?_
          refine pw_iinc_n (q := 93) C 1 dX11_wouldEarn_90 rfl (by decide +kernel) rfl (by decide) rfl ?_
          refine pw_goto (q := 0) 30 C dX11_wouldEarn_93 (by decide) ?_
          have e9 : sumN (earnF (sP S) k1) (s + 1) = sumN (earnF (sP S) k1) s + 0 := by
            show _ + earnF _ _ _ = _
            rw [earnF, if_neg (fun q => absurd q.1 (by omega))]
          rw [← e9]
          exact ih (s + 1) (by omega) _
        · refine pw_aload_n (q := 64) (j := 0) C dX11_wouldEarn_63 rfl rfl rfl ?_
          refine pw_getf (q := 67) C dX11_wouldEarn_64 fX11_16 mh_o (by rfl) rfl ?_
          refine pw_iload (q := 69) C dX11_wouldEarn_67 rfl rfl ?_
          refine pw_iconst_n (q := 70) C 2 dX11_wouldEarn_69 (by decide +kernel) rfl ?_
          refine pw_iadd_n (q := 71) C dX11_wouldEarn_70 rfl ?_
          refine pw_ipg (q := 72) C dX11_wouldEarn_71 mh_P (by omega) (by omega) rfl ?_
          refine pw_iload_n (q := 73) (j := 1) C dX11_wouldEarn_72 rfl rfl rfl ?_
          refine pw_icmp_gt_n (q := 76) 87 C dX11_wouldEarn_73 (by decide) rfl (by omega) (by omega) (fun g73 => ?_) (fun g73 => ?_)
          · refine pw_iconst_n (q := 88) C 0 dX11_wouldEarn_87 (by decide +kernel) rfl ?_
            refine pw_iadd_n (q := 89) C dX11_wouldEarn_88 rfl ?_
            refine pw_istore_n (q := 90) (j := 2) C dX11_wouldEarn_89 rfl rfl (by decide) rfl ?_
            refine pw_iinc_n (q := 93) C 1 dX11_wouldEarn_90 rfl (by decide +kernel) rfl (by decide) rfl ?_
            refine pw_goto (q := 0) 30 C dX11_wouldEarn_93 (by decide) ?_
            have e9 : sumN (earnF (sP S) k1) (s + 1) = sumN (earnF (sP S) k1) s + 0 := by
              show _ + earnF _ _ _ = _
              rw [earnF, if_neg (fun q => absurd q.2 (by omega))]
            rw [← e9]
            exact ih (s + 1) (by omega) _
          · refine pw_aload_n (q := 77) (j := 0) C dX11_wouldEarn_76 rfl rfl rfl ?_
            refine pw_getf (q := 80) C dX11_wouldEarn_77 fX11_16 mh_o (by rfl) rfl ?_
            refine pw_iload_n (q := 81) (j := 3) C dX11_wouldEarn_80 rfl rfl rfl ?_
            refine pw_rd (q := 84) (cr_s (j := iX11_priceOf) C dX11_wouldEarn_81 lX11_58 mX11_priceOf (ro_mk (by decide) (by decide))  (m_price mh_P hI (by omega)) rfl rfl (Nat.le_of_ble_eq_true rfl) ⟨by omega, by omega⟩) rfl ?_
            refine pw_goto (q := 0) 88 C dX11_wouldEarn_84 (by decide) ?_
            refine pw_iadd_n (q := 89) C dX11_wouldEarn_88 rfl ?_
            refine pw_istore_n (q := 90) (j := 2) C dX11_wouldEarn_89 rfl rfl (by decide) rfl ?_
            refine pw_iinc_n (q := 93) C 1 dX11_wouldEarn_90 rfl (by decide +kernel) rfl (by decide) rfl ?_
            refine pw_goto (q := 0) 30 C dX11_wouldEarn_93 (by decide) ?_
            have e9 : sumN (earnF (sP S) k1) (s + 1) = sumN (earnF (sP S) k1) s + price (sP S) s := by
              show _ + earnF _ _ _ = _
              rw [earnF, if_pos ⟨by omega, by omega⟩]
            rw [← e9]
            exact ih (s + 1) (by omega) _
    exact loop (sP S 7) 0 (by omega) none
  · refine pw_aload_n (q := 1) (j := 0) C dX11_wouldEarn_0 rfl rfl rfl ?_
    refine pw_iload_n (q := 2) (j := 1) C dX11_wouldEarn_1 rfl rfl rfl ?_
    refine pw_i2l (q := 3) C dX11_wouldEarn_2 rfl ?_
    refine pw_lconst (q := 4) (v := 0) C dX11_wouldEarn_3 (by decide +kernel) rfl ?_
    refine pw_ldc2 (q := 7) C dX11_wouldEarn_4 cgX11_145 rfl ?_
    refine pw_rd (q := 10) (cr_s (j := iX11_in) C dX11_wouldEarn_7 lX11_39 mX11_in (ro_mk (by decide) (by decide))  (rv_f (fun q => h1 ((inW_l (lo := 0) (hi := 9) (by decide +kernel) (by decide +kernel)).mp q)) m_in) rfl rfl (Nat.le_of_ble_eq_true rfl) ⟨by omega, by omega⟩) rfl ?_
    refine pw_if_eq_n (q := 13) 17 C dX11_wouldEarn_10 (by decide) rfl (by omega) (fun g10 => ?_) (fun g10 => absurd g10 (fun q => q rfl))
    refine pw_iconst_n (q := 18) C 1 dX11_wouldEarn_17 (by decide +kernel) rfl ?_
    refine pw_val (q := 21) (cr_v (j := iX11_refused) C dX11_wouldEarn_18 lX11_76 mX11_refused (ro_mk (by decide) (by decide)) mh_o rfl (rv_t (by decide) (m_refused 1 (by decide))) rfl rfl (Nat.le_of_ble_eq_true rfl) ⟨by omega, by omega⟩) rfl (fun M18 e18 => ?_)
    subst e18
    refine pw_if_eq_n (q := 24) 26 C dX11_wouldEarn_21 (by decide) rfl (by omega) (fun g21 => absurd g21 (by decide)) (fun g21 => ?_)
    refine pw_iconst_n (q := 25) C 0 dX11_wouldEarn_24 (by decide +kernel) rfl ?_
    exact pw_iret C dX11_wouldEarn_25 rfl ⟨by omega, by omega⟩ ((QM.no 0 (by rw [spEarn, if_neg h1]) (RepM.mk hD hK hF) same_mh))
set_option maxHeartbeats 200000 in
set_option maxRecDepth 100000 in
theorem c_worstMark {M : PH} {m rf D0 : Nat} {S : St} (hM : RepM M m rf S) (hB : MB S) (hS : SInv D0 S) : Run iX11_worstMark [.ref m] M 0 0 (QM M m ((0, optI (worstN (sP S) (sP S 6)).1, S))) := by
  obtain ⟨M0, sp, ft, R, Q, D, K, L, rfl, hD, hK, hF⟩ := hM
  have hI := hS.1.1
  have hb := hI.b
  obtain ⟨hB1, hB2, hB3, hB4⟩ := id hB
  refine Run.of (l0 := [some (.ref m), none, none, none, none]) (by decide +kernel) (Nat.le_of_ble_eq_true rfl) (by rfl) (fun Γ G C => ?_)
  refine pw_aload_n (q := 1) (j := 0) C dX11_worstMark_0 rfl rfl rfl ?_
  refine pw_iconst_n (q := 2) C 0 dX11_worstMark_1 (by decide +kernel) rfl ?_
  refine pw_put (q := 5) C dX11_worstMark_2 fX11_35 mh_o (by rfl) (by rfl) (Nat.le_of_ble_eq_true rfl) rfl ?_
  rw [mh_s_rf]
  refine pw_bipush (q := 7) (v := (-9)) C dX11_worstMark_5 (by decide +kernel) rfl ?_
  refine pw_istore_n (q := 8) (j := 1) C dX11_worstMark_7 rfl rfl (by decide) rfl ?_
  refine pw_iconst_n (q := 9) C 0 dX11_worstMark_8 (by decide +kernel) rfl ?_
  refine pw_istore_n (q := 10) (j := 2) C dX11_worstMark_9 rfl rfl (by decide) rfl ?_
  refine pw_iconst_n (q := 11) C 0 dX11_worstMark_10 (by decide +kernel) rfl ?_
  refine pw_istore_n (q := 12) (j := 3) C dX11_worstMark_11 rfl rfl (by decide) rfl ?_
  have loop : ∀ (d c : Nat), c + d = sP S 6 → ∀ x4 : Option Value, PW Γ G (ZJ Γ G 0 0 (QM (mh M0 m rf (sN S) sp ft (sM S) (sT S) R (sP S) Q D K (sB S) L) m ((0, optI (worstN (sP S) (sP S 6)).1, S)))) 12 [some (.ref m), some (.int (optI (worstN (sP S) c).1)), some (.int (nI (worstN (sP S) c).2)), some (.int (nI c)), x4] [] (mh M0 m 0 (sN S) sp ft (sM S) (sT S) R (sP S) Q D K (sB S) L) 0 0 := by
    intro d
    induction d with
    | zero =>
      intro c hd
      intro x4
      refine pw_iload_n (q := 13) (j := 3) C dX11_worstMark_12 rfl rfl rfl ?_
      refine pw_aload_n (q := 14) (j := 0) C dX11_worstMark_13 rfl rfl rfl ?_
      refine pw_getf (q := 17) C dX11_worstMark_14 fX11_16 mh_o (by rfl) rfl ?_
      refine pw_bipush_n (q := 19) C 6 dX11_worstMark_17 (by decide +kernel) rfl ?_
      refine pw_ipg (q := 20) C dX11_worstMark_19 mh_P (by omega) (by omega) rfl ?_
      refine pw_icmp_ge_n (q := 23) 75 C dX11_worstMark_20 (by decide) rfl (by omega) (by omega) (fun g20 => ?_) (fun g20 => absurd g20 (by omega))
      refine pw_iload_n (q := 76) (j := 1) C dX11_worstMark_75 rfl rfl rfl ?_
      exact pw_iret C dX11_worstMark_76 rfl ⟨by omega, by omega⟩ ((QM.ok (by rw [show c = sP S 6 by omega]) (RepM.mk hD hK hF) same_mh))
    | succ d ih =>
      intro c hd
      intro x4
      refine pw_iload_n (q := 13) (j := 3) C dX11_worstMark_12 rfl rfl rfl ?_
      refine pw_aload_n (q := 14) (j := 0) C dX11_worstMark_13 rfl rfl rfl ?_
      refine pw_getf (q := 17) C dX11_worstMark_14 fX11_16 mh_o (by rfl) rfl ?_
      refine pw_bipush_n (q := 19) C 6 dX11_worstMark_17 (by decide +kernel) rfl ?_
      refine pw_ipg (q := 20) C dX11_worstMark_19 mh_P (by omega) (by omega) rfl ?_
      refine pw_icmp_ge_n (q := 23) 75 C dX11_worstMark_20 (by decide) rfl (by omega) (by omega) (fun g20 => absurd g20 (by omega)) (fun g20 => ?_)
      have q4 := hI.m (show c < sP S 6 by omega)
      have q5 := badM_le hI c
      have q6 := worstN_le hI c
      have q7 : badM (sP S) c = cntM (sP S) c 2 + cntM (sP S) c 4 := rfl
      refine pw_aload_n (q := 24) (j := 0) C dX11_worstMark_23 rfl rfl rfl ?_
      refine pw_getf (q := 27) C dX11_worstMark_24 fX11_16 mh_o (by rfl) rfl ?_
      refine pw_iload_n (q := 28) (j := 3) C dX11_worstMark_27 rfl rfl rfl ?_
      refine pw_iconst_n (q := 29) C 2 dX11_worstMark_28 (by decide +kernel) rfl ?_
      refine pw_rd (q := 32) (cr_s (j := iX11_markedBy) C dX11_worstMark_29 lX11_136 mX11_markedBy (ro_mk (by decide) (by decide))  (m_markedBy mh_P hI (by omega) (by omega)) rfl rfl (Nat.le_of_ble_eq_true rfl) ⟨by omega, by omega⟩) rfl ?_
      refine pw_aload_n (q := 33) (j := 0) C dX11_worstMark_32 rfl rfl rfl ?_
      refine pw_getf (q := 36) C dX11_worstMark_33 fX11_16 mh_o (by rfl) rfl ?_
      refine pw_iload_n (q := 37) (j := 3) C dX11_worstMark_36 rfl rfl rfl ?_
      refine pw_iconst_n (q := 38) C 4 dX11_worstMark_37 (by decide +kernel) rfl ?_
      refine pw_rd (q := 41) (cr_s (j := iX11_markedBy) C dX11_worstMark_38 lX11_136 mX11_markedBy (ro_mk (by decide) (by decide))  (m_markedBy mh_P hI (by omega) (by omega)) rfl rfl (Nat.le_of_ble_eq_true rfl) ⟨by omega, by omega⟩) rfl ?_
      refine pw_iadd_n (q := 42) C dX11_worstMark_41 rfl ?_
      refine pw_istore (q := 44) C dX11_worstMark_42 rfl (by decide) rfl ?_
      refine pw_iload (q := 46) C dX11_worstMark_44 rfl rfl ?_
      refine pw_iload_n (q := 47) (j := 2) C dX11_worstMark_46 rfl rfl rfl ?_
      refine pw_icmp_le_n (q := 50) 54 C dX11_worstMark_47 (by decide) rfl (by omega) (by omega) (fun g47 => ?_) (fun g47 => ?_)
      · refine pw_iload_n (q := 55) (j := 1) C dX11_worstMark_54 rfl rfl rfl ?_
        refine pw_istore_n (q := 56) (j := 1) C dX11_worstMark_55 rfl rfl (by decide) rfl ?_
        refine pw_iload (q := 58) C dX11_worstMark_56 rfl rfl ?_
        refine pw_iload_n (q := 59) (j := 2) C dX11_worstMark_58 rfl rfl rfl ?_
        refine pw_icmp_le_n (q := 62) 67 C dX11_worstMark_59 (by decide) rfl (by omega) (by omega) (fun g59 => ?_) (fun g59 => absurd g59 (by omega))
        refine pw_iload_n (q := 68) (j := 2) C dX11_worstMark_67 rfl rfl rfl ?_
        refine pw_istore_n (q := 69) (j := 2) C dX11_worstMark_68 rfl rfl (by decide) rfl ?_
        refine pw_iinc_n (q := 72) C 1 dX11_worstMark_69 rfl (by decide +kernel) rfl (by decide) rfl ?_
        refine pw_goto (q := 0) 12 C dX11_worstMark_72 (by decide) ?_
        have e9 : worstN (sP S) (c + 1) = _ := worstN_no (by omega)
        have z9 := ih (c + 1) (by omega)
        rw [e9] at z9
        exact z9 _
      · refine pw_iload_n (q := 51) (j := 3) C dX11_worstMark_50 rfl rfl rfl ?_
        refine pw_goto (q := 0) 55 C dX11_worstMark_51 (by decide) ?_
        refine pw_istore_n (q := 56) (j := 1) C dX11_worstMark_55 rfl rfl (by decide) rfl ?_
        refine pw_iload (q := 58) C dX11_worstMark_56 rfl rfl ?_
        refine pw_iload_n (q := 59) (j := 2) C dX11_worstMark_58 rfl rfl rfl ?_
        refine pw_icmp_le_n (q := 62) 67 C dX11_worstMark_59 (by decide) rfl (by omega) (by omega) (fun g59 => absurd g59 (by omega)) (fun g59 => ?_)
        refine pw_iload (q := 64) C dX11_worstMark_62 rfl rfl ?_
        refine pw_goto (q := 0) 68 C dX11_worstMark_64 (by decide) ?_
        refine pw_istore_n (q := 69) (j := 2) C dX11_worstMark_68 rfl rfl (by decide) rfl ?_
        refine pw_iinc_n (q := 72) C 1 dX11_worstMark_69 rfl (by decide +kernel) rfl (by decide) rfl ?_
        refine pw_goto (q := 0) 12 C dX11_worstMark_72 (by decide) ?_
        have e9 : worstN (sP S) (c + 1) = _ := worstN_yes (by omega)
        have z9 := ih (c + 1) (by omega)
        rw [e9] at z9
        exact z9 _
  exact loop (sP S 6) 0 (by omega) none
set_option maxHeartbeats 200000 in
set_option maxRecDepth 100000 in
theorem c_canSet {M : PH} {m rf D0 : Nat} {S : St} (hM : RepM M m rf S) (hB : MB S) (hS : SInv D0 S) : Run iX11_canSet [.ref m] M 0 0 (QM M m ((0, nI (canSetN (sP S)), S))) := by
  obtain ⟨M0, sp, ft, R, Q, D, K, L, rfl, hD, hK, hF⟩ := hM
  have hI := hS.1.1
  have hb := hI.b
  obtain ⟨hB1, hB2, hB3, hB4⟩ := id hB
  refine Run.of (l0 := [some (.ref m), none, none, none, none, none]) (by decide +kernel) (Nat.le_of_ble_eq_true rfl) (by rfl) (fun Γ G C => ?_)
  refine pw_aload_n (q := 1) (j := 0) C dX11_canSet_0 rfl rfl rfl ?_
  refine pw_iconst_n (q := 2) C 0 dX11_canSet_1 (by decide +kernel) rfl ?_
  refine pw_put (q := 5) C dX11_canSet_2 fX11_35 mh_o (by rfl) (by rfl) (Nat.le_of_ble_eq_true rfl) rfl ?_
  rw [mh_s_rf]
  refine pw_iconst_n (q := 6) C 0 dX11_canSet_5 (by decide +kernel) rfl ?_
  refine pw_istore_n (q := 7) (j := 1) C dX11_canSet_6 rfl rfl (by decide) rfl ?_
  refine pw_aload_n (q := 8) (j := 0) C dX11_canSet_7 rfl rfl rfl ?_
  refine pw_getf (q := 11) C dX11_canSet_8 fX11_16 mh_o (by rfl) rfl ?_
  refine pw_iconst_n (q := 12) C 2 dX11_canSet_11 (by decide +kernel) rfl ?_
  refine pw_ipg (q := 13) C dX11_canSet_12 mh_P (by omega) (by omega) rfl ?_
  refine pw_if_ne_n (q := 16) 20 C dX11_canSet_13 (by decide) rfl (by omega) (fun g13 => ?_) (fun g13 => ?_)
  · refine pw_iconst_n (q := 21) C 0 dX11_canSet_20 (by decide +kernel) rfl ?_
    refine pw_istore_n (q := 22) (j := 2) C dX11_canSet_21 rfl rfl (by decide) rfl ?_
    refine pw_iconst_n (q := 23) C 0 dX11_canSet_22 (by decide +kernel) rfl ?_
    refine pw_istore_n (q := 24) (j := 3) C dX11_canSet_23 rfl rfl (by decide) rfl ?_
    have out0 : ∀ (z c : Nat) (x4 x5 : Option Value), c < 10 → z = canSetN (sP S) → PW Γ G (ZJ Γ G 0 0 (QM (mh M0 m rf (sN S) sp ft (sM S) (sT S) R (sP S) Q D K (sB S) L) m ((0, nI (canSetN (sP S)), S)))) 24 [some (.ref m), some (.int (nI z)), some (.int (nI 0)), some (.int (nI c)), x4, x5] [] (mh M0 m 0 (sN S) sp ft (sM S) (sT S) R (sP S) Q D K (sB S) L) 0 0 := by
      intro z c x4 x5 hc he
      refine pw_iload_n (q := 25) (j := 3) C dX11_canSet_24 rfl rfl rfl ?_
      refine pw_aload_n (q := 26) (j := 0) C dX11_canSet_25 rfl rfl rfl ?_
      refine pw_getf (q := 29) C dX11_canSet_26 fX11_16 mh_o (by rfl) rfl ?_
      refine pw_iconst_n (q := 30) C 5 dX11_canSet_29 (by decide +kernel) rfl ?_
      refine pw_ipg (q := 31) C dX11_canSet_30 mh_P (by omega) (by omega) rfl ?_
      refine pw_icmp_ge_n (q := 34) 105 C dX11_canSet_31 (by decide) rfl (by omega) (by omega) (fun g31 => ?_) (fun g31 => ?_)
      · refine pw_iload_n (q := 106) (j := 1) C dX11_canSet_105 rfl rfl rfl ?_
        exact pw_iret C dX11_canSet_106 rfl ⟨by omega, by omega⟩ ((QM.ok (by rw [← he]) (RepM.mk hD hK hF) same_mh))
      · refine pw_iload_n (q := 35) (j := 2) C dX11_canSet_34 rfl rfl rfl ?_
        refine pw_if_eq_n (q := 38) 105 C dX11_canSet_35 (by decide) rfl (by omega) (fun g35 => ?_) (fun g35 => absurd g35 (fun q => q rfl))
        refine pw_iload_n (q := 106) (j := 1) C dX11_canSet_105 rfl rfl rfl ?_
        exact pw_iret C dX11_canSet_106 rfl ⟨by omega, by omega⟩ ((QM.ok (by rw [← he]) (RepM.mk hD hK hF) same_mh))
    exact out0 0 0 none none (by omega) (by rw [canSetN, if_pos (by omega)])
  · refine pw_iconst_n (q := 17) C 1 dX11_canSet_16 (by decide +kernel) rfl ?_
    refine pw_goto (q := 0) 21 C dX11_canSet_17 (by decide) ?_
    refine pw_istore_n (q := 22) (j := 2) C dX11_canSet_21 rfl rfl (by decide) rfl ?_
    refine pw_iconst_n (q := 23) C 0 dX11_canSet_22 (by decide +kernel) rfl ?_
    refine pw_istore_n (q := 24) (j := 3) C dX11_canSet_23 rfl rfl (by decide) rfl ?_
    have out0 : ∀ (z c : Nat) (x4 x5 : Option Value), c < 10 → z = canSetN (sP S) → PW Γ G (ZJ Γ G 0 0 (QM (mh M0 m rf (sN S) sp ft (sM S) (sT S) R (sP S) Q D K (sB S) L) m ((0, nI (canSetN (sP S)), S)))) 24 [some (.ref m), some (.int (nI z)), some (.int (nI 0)), some (.int (nI c)), x4, x5] [] (mh M0 m 0 (sN S) sp ft (sM S) (sT S) R (sP S) Q D K (sB S) L) 0 0 := by
      intro z c x4 x5 hc he
      refine pw_iload_n (q := 25) (j := 3) C dX11_canSet_24 rfl rfl rfl ?_
      refine pw_aload_n (q := 26) (j := 0) C dX11_canSet_25 rfl rfl rfl ?_
      refine pw_getf (q := 29) C dX11_canSet_26 fX11_16 mh_o (by rfl) rfl ?_
      refine pw_iconst_n (q := 30) C 5 dX11_canSet_29 (by decide +kernel) rfl ?_
      refine pw_ipg (q := 31) C dX11_canSet_30 mh_P (by omega) (by omega) rfl ?_
      refine pw_icmp_ge_n (q := 34) 105 C dX11_canSet_31 (by decide) rfl (by omega) (by omega) (fun g31 => ?_) (fun g31 => ?_)
      · refine pw_iload_n (q := 106) (j := 1) C dX11_canSet_105 rfl rfl rfl ?_
        exact pw_iret C dX11_canSet_106 rfl ⟨by omega, by omega⟩ ((QM.ok (by rw [← he]) (RepM.mk hD hK hF) same_mh))
      · refine pw_iload_n (q := 35) (j := 2) C dX11_canSet_34 rfl rfl rfl ?_
        refine pw_if_eq_n (q := 38) 105 C dX11_canSet_35 (by decide) rfl (by omega) (fun g35 => ?_) (fun g35 => absurd g35 (fun q => q rfl))
        refine pw_iload_n (q := 106) (j := 1) C dX11_canSet_105 rfl rfl rfl ?_
        exact pw_iret C dX11_canSet_106 rfl ⟨by omega, by omega⟩ ((QM.ok (by rw [← he]) (RepM.mk hD hK hF) same_mh))
    have loop : ∀ (d c : Nat), c + d = sP S 5 → ∀ x4 x5 : Option Value, sP S 2 = 0 → (∀ j, j < c → ¬ cntC (sP S) j 1 < openC (sP S) j) → PW Γ G (ZJ Γ G 0 0 (QM (mh M0 m rf (sN S) sp ft (sM S) (sT S) R (sP S) Q D K (sB S) L) m ((0, nI (canSetN (sP S)), S)))) 24 [some (.ref m), some (.int (nI (sumN (fun c => min (openC (sP S) c) (cntC (sP S) c 1)) c))), some (.int (nI 1)), some (.int (nI c)), x4, x5] [] (mh M0 m 0 (sN S) sp ft (sM S) (sT S) R (sP S) Q D K (sB S) L) 0 0 := by
      intro d
      induction d with
      | zero =>
        intro c hd
        intro x4 x5 hfr hno
        refine pw_iload_n (q := 25) (j := 3) C dX11_canSet_24 rfl rfl rfl ?_
        refine pw_aload_n (q := 26) (j := 0) C dX11_canSet_25 rfl rfl rfl ?_
        refine pw_getf (q := 29) C dX11_canSet_26 fX11_16 mh_o (by rfl) rfl ?_
        refine pw_iconst_n (q := 30) C 5 dX11_canSet_29 (by decide +kernel) rfl ?_
        refine pw_ipg (q := 31) C dX11_canSet_30 mh_P (by omega) (by omega) rfl ?_
        refine pw_icmp_ge_n (q := 34) 105 C dX11_canSet_31 (by decide) rfl (by omega) (by omega) (fun g31 => ?_) (fun g31 => absurd g31 (by omega))
        refine pw_iload_n (q := 106) (j := 1) C dX11_canSet_105 rfl rfl rfl ?_
        exact pw_iret C dX11_canSet_106 rfl ⟨by omega, by omega⟩ ((QM.ok (by rw [canSetN, if_neg (not_not_intro hfr), fst_none (fun j hj => hno j (by omega)), show min (sP S 5 + 1) (sP S 5) = c by omega]) (RepM.mk hD hK hF) same_mh))
      | succ d ih =>
        intro c hd
        intro x4 x5 hfr hno
        refine pw_iload_n (q := 25) (j := 3) C dX11_canSet_24 rfl rfl rfl ?_
        refine pw_aload_n (q := 26) (j := 0) C dX11_canSet_25 rfl rfl rfl ?_
        refine pw_getf (q := 29) C dX11_canSet_26 fX11_16 mh_o (by rfl) rfl ?_
        refine pw_iconst_n (q := 30) C 5 dX11_canSet_29 (by decide +kernel) rfl ?_
        refine pw_ipg (q := 31) C dX11_canSet_30 mh_P (by omega) (by omega) rfl ?_
        refine pw_icmp_ge_n (q := 34) 105 C dX11_canSet_31 (by decide) rfl (by omega) (by omega) (fun g31 => absurd g31 (by omega)) (fun g31 => ?_)
        refine pw_iload_n (q := 35) (j := 2) C dX11_canSet_34 rfl rfl rfl ?_
        refine pw_if_eq_n (q := 38) 105 C dX11_canSet_35 (by decide) rfl (by omega) (fun g35 => absurd g35 (by decide)) (fun g35 => ?_)
        have q4 := hI.c (show c < sP S 5 by omega)
        have q5 := cntC_le hI c 1
        have q6 := cntC_le hI c 3
        have q7 := (hI.w c (by omega)).1
        refine pw_aload_n (q := 39) (j := 0) C dX11_canSet_38 rfl rfl rfl ?_
        refine pw_getf (q := 42) C dX11_canSet_39 fX11_16 mh_o (by rfl) rfl ?_
        refine pw_iload_n (q := 43) (j := 3) C dX11_canSet_42 rfl rfl rfl ?_
        refine pw_rd (q := 46) (cr_s (j := iX11_neededOf) C dX11_canSet_43 lX11_47 mX11_neededOf (ro_mk (by decide) (by decide))  (m_needed mh_P (by omega)) rfl rfl (Nat.le_of_ble_eq_true rfl) ⟨by omega, by omega⟩) rfl ?_
        refine pw_aload_n (q := 47) (j := 0) C dX11_canSet_46 rfl rfl rfl ?_
        refine pw_getf (q := 50) C dX11_canSet_47 fX11_16 mh_o (by rfl) rfl ?_
        refine pw_iload_n (q := 51) (j := 3) C dX11_canSet_50 rfl rfl rfl ?_
        refine pw_iconst_n (q := 52) C 3 dX11_canSet_51 (by decide +kernel) rfl ?_
        refine pw_rd (q := 55) (cr_s (j := iX11_stonesOf) C dX11_canSet_52 lX11_43 mX11_stonesOf (ro_mk (by decide) (by decide))  (m_stonesOf mh_P hI (by omega) (by omega)) rfl rfl (Nat.le_of_ble_eq_true rfl) ⟨by omega, by omega⟩) rfl ?_
        refine pw_isub_n (q := 56) C dX11_canSet_55 (by omega) rfl ?_
        refine pw_istore (q := 58) C dX11_canSet_56 rfl (by decide) rfl ?_
        refine pw_aload_n (q := 59) (j := 0) C dX11_canSet_58 rfl rfl rfl ?_
        refine pw_getf (q := 62) C dX11_canSet_59 fX11_16 mh_o (by rfl) rfl ?_
        refine pw_iload_n (q := 63) (j := 3) C dX11_canSet_62 rfl rfl rfl ?_
        refine pw_iconst_n (q := 64) C 1 dX11_canSet_63 (by decide +kernel) rfl ?_
        refine pw_rd (q := 67) (cr_s (j := iX11_stonesOf) C dX11_canSet_64 lX11_43 mX11_stonesOf (ro_mk (by decide) (by decide))  (m_stonesOf mh_P hI (by omega) (by omega)) rfl rfl (Nat.le_of_ble_eq_true rfl) ⟨by omega, by omega⟩) rfl ?_
        refine pw_istore (q := 69) C dX11_canSet_67 rfl (by decide) rfl ?_
        refine pw_iload_n (q := 70) (j := 1) C dX11_canSet_69 rfl rfl rfl ?_
        refine pw_iload (q := 72) C dX11_canSet_70 rfl rfl ?_
        refine pw_iload (q := 74) C dX11_canSet_72 rfl rfl ?_
        refine pw_icmp_ge_n (q := 77) 82 C dX11_canSet_74 (by decide) rfl (by omega) (by omega) (fun g74 => ?_) (fun g74 => ?_)
        · refine pw_iload (q := 84) C dX11_canSet_82 rfl rfl ?_
          refine pw_iadd_n (q := 85) C dX11_canSet_84 rfl ?_
          refine pw_istore_n (q := 86) (j := 1) C dX11_canSet_85 rfl rfl (by decide) rfl ?_
          refine pw_iload (q := 88) C dX11_canSet_86 rfl rfl ?_
          refine pw_iload (q := 90) C dX11_canSet_88 rfl rfl ?_
          refine pw_icmp_lt_n (q := 93) 97 C dX11_canSet_90 (by decide) rfl (by omega) (by omega) (fun g90 => absurd g90 (by omega)) (fun g90 => ?_)
          refine pw_iconst_n (q := 94) C 1 dX11_canSet_93 (by decide +kernel) rfl ?_
          refine pw_goto (q := 0) 98 C dX11_canSet_94 (by decide) ?_
          refine pw_istore_n (q := 99) (j := 2) C dX11_canSet_98 rfl rfl (by decide) rfl ?_
          refine pw_iinc_n (q := 102) C 1 dX11_canSet_99 rfl (by decide +kernel) rfl (by decide) rfl ?_
          refine pw_goto (q := 0) 24 C dX11_canSet_102 (by decide) ?_
          have e9 : sumN (fun c => min (openC (sP S) c) (cntC (sP S) c 1)) (c + 1) = sumN (fun c => min (openC (sP S) c) (cntC (sP S) c 1)) c + (sP S (8 + 3 * c + 2) - cntC (sP S) c 3) := by
            show _ + min _ _ = _
            unfold openC
            omega
          rw [← e9]
          exact ih (c + 1) (by omega) _ _ hfr (fun j hj => (Nat.lt_or_eq_of_le (Nat.le_of_lt_succ hj)).elim (hno j) (fun e => by rw [e]; unfold openC; omega))
        · refine pw_iload (q := 79) C dX11_canSet_77 rfl rfl ?_
          refine pw_goto (q := 0) 84 C dX11_canSet_79 (by decide) ?_
          refine pw_iadd_n (q := 85) C dX11_canSet_84 rfl ?_
          refine pw_istore_n (q := 86) (j := 1) C dX11_canSet_85 rfl rfl (by decide) rfl ?_
          refine pw_iload (q := 88) C dX11_canSet_86 rfl rfl ?_
          refine pw_iload (q := 90) C dX11_canSet_88 rfl rfl ?_
          refine pw_icmp_lt_n (q := 93) 97 C dX11_canSet_90 (by decide) rfl (by omega) (by omega) (fun g90 => ?_) (fun g90 => absurd g90 (by omega))
          refine pw_iconst_n (q := 98) C 0 dX11_canSet_97 (by decide +kernel) rfl ?_
          refine pw_istore_n (q := 99) (j := 2) C dX11_canSet_98 rfl rfl (by decide) rfl ?_
          refine pw_iinc_n (q := 102) C 1 dX11_canSet_99 rfl (by decide +kernel) rfl (by decide) rfl ?_
          refine pw_goto (q := 0) 24 C dX11_canSet_102 (by decide) ?_
          have e9 : sumN (fun c => min (openC (sP S) c) (cntC (sP S) c 1)) (c + 1) = sumN (fun c => min (openC (sP S) c) (cntC (sP S) c 1)) c + cntC (sP S) c 1 := by
            show _ + min _ _ = _
            unfold openC
            omega
          rw [← e9]
          exact out0 _ _ _ _ (by omega) (by rw [canSetN, if_neg (not_not_intro hfr), fst_eq (k := c) (by omega) (by unfold openC; omega) hno, show min (c + 1) (sP S 5) = c + 1 by omega])
    exact loop (sP S 5) 0 (by omega) none none (by omega) (fun j hj => absurd hj (Nat.not_lt_zero j))
