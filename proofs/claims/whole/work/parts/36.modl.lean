/-! The reference: errorPosition, load. -/
theorem readS_1 (T : Nat → Nat) (n : Nat) : ∀ (k p : Nat) (R : Nat → Nat) (fr : Nat), (readS T n k p R fr).1 ≤ 1
  | 0, _, _, _ => Nat.le_refl 1
  | k + 1, p, R, fr => by
    rw [readS]
    split
    · split
      · exact readS_1 T n k _ _ _
      · exact parS_1 ..
    · exact Nat.le_refl 1
theorem allS_1 (T : Nat → Nat) (n : Nat) : (allS T n).1 ≤ 1 := by
  unfold allS
  split
  · split
    · exact readS_1 ..
    · exact Nat.zero_le 1
  · exact Nat.zero_le 1
/-- a read page: its masons' work is their strength -/
def WK (R : Nat → Nat) : Prop := ∀ m, m < R 6 → R (26 + 4 * m + 2) = R (26 + 4 * m + 1)
theorem parS_wk {T : Nat → Nat} {n p : Nat} {R : Nat → Nat} {fr : Nat} (hI : Inv (clP R fr)) (hw : WK R) : WK (parS T n p R fr).2.2.1 := by
  obtain ⟨b5, b6, b7⟩ := inv_b hI
  unfold parS
  split
  · unfold crsS
    repeat' split
    all_goals first | exact hw | skip
    dsimp only
    intro m hm
    have e6 : newCourseP R (T (p + 1) - 48) (T (p + 2) - 48) (T (p + 3) - 48) 6 = R 6 := newCourse_out (by omega) (by omega)
    rw [e6] at hm
    rw [newCourse_out (by omega) (by omega), newCourse_out (by omega) (by omega)]
    exact hw m hm
  · split
    · unfold masS
      repeat' split
      all_goals first | exact hw | skip
      dsimp only
      intro m hm
      simp only [newMasonR, updN] at hm ⊢
      by_cases h : m = R 6
      · subst h
        grind
      · have := hw m (by grind)
        grind
    · split
      · unfold stoS
        repeat' split
        all_goals first | exact hw | skip
        dsimp only
        intro m hm
        have e6 : newStoneP R (T (p + 1) - 48) (T (p + 2) - 48) (T (p + 3) - 48) 6 = R 6 := newStone_out (by omega) (by omega)
        rw [e6] at hm
        rw [newStone_out (by omega) (by omega), newStone_out (by omega) (by omega)]
        exact hw m hm
      · split
        · unfold froS
          split <;> exact hw
        · exact hw
theorem readS_ok {T : Nat → Nat} {n : Nat} : ∀ {k p : Nat} {R : Nat → Nat} {fr : Nat}, Inv (clP R fr) → fr ≤ 1 → WK R → (readS T n k p R fr).1 = 1 → Inv (clP (readS T n k p R fr).2.2.1 (readS T n k p R fr).2.2.2) ∧ (readS T n k p R fr).2.2.2 ≤ 1 ∧ WK (readS T n k p R fr).2.2.1
  | 0, _, _, _, hI, hf, hw, _ => ⟨hI, hf, hw⟩
  | k + 1, p, R, fr, hI, hf, hw, h => by
    rw [readS] at h ⊢
    by_cases hp : p < n
    · rw [if_pos hp] at h ⊢
      by_cases h1 : (parS T n p R fr).1 = 1
      · rw [if_pos h1] at h ⊢
        exact readS_ok (parS_inv hI hf).1 (parS_inv hI hf).2 (parS_wk hI hw) h
      · rw [if_neg h1] at h
        exact absurd h h1
    · rw [if_neg hp]
      exact ⟨hI, hf, hw⟩
theorem allS_ok {T : Nat → Nat} {n : Nat} (h : (allS T n).1 = 1) : Inv (clP (allS T n).2.2.1 (allS T n).2.2.2) ∧ (allS T n).2.2.2 ≤ 1 ∧ WK (allS T n).2.2.1 := by
  unfold allS at h ⊢
  split
  · rename_i h1
    rw [if_pos h1] at h
    split
    · rename_i h2
      rw [if_pos h2] at h
      exact readS_ok (by rw [← cl_new]; exact Inv.new.bound (by omega)) (by omega) (fun m hm => absurd hm (Nat.not_lt_zero m)) h
    · rename_i h2
      rw [if_neg h2] at h
      exact absurd h (by decide)
  · rename_i h1
    rw [if_neg h1] at h
    exact absurd h (by decide)
theorem parS_f {T : Nat → Nat} {n p : Nat} {R : Nat → Nat} {fr : Nat} (hf : fr ≤ 1) : (parS T n p R fr).2.2.2 ≤ 1 := by
  unfold parS
  split
  · rw [crsS_f]; exact hf
  · split
    · rw [masS_f]; exact hf
    · split
      · rw [stoS_f]; exact hf
      · split
        · unfold froS
          split
          · exact Nat.le_refl 1
          · exact hf
        · exact hf
theorem readS_f {T : Nat → Nat} {n : Nat} : ∀ {k p : Nat} {R : Nat → Nat} {fr : Nat}, fr ≤ 1 → (readS T n k p R fr).2.2.2 ≤ 1
  | 0, _, _, _, h => h
  | k + 1, p, R, fr, h => by
    rw [readS]
    split
    · split
      · exact readS_f (parS_f h)
      · exact parS_f h
    · exact h
theorem allS_f (T : Nat → Nat) (n : Nat) : (allS T n).2.2.2 ≤ 1 := by
  unfold allS
  split
  · split
    · exact readS_f (by omega)
    · exact Nat.zero_le 1
  · exact Nat.zero_le 1
/-- the page that the reference loads, masons below m done -/
def refP (R : Nat → Nat) (fr m : Nat) : Nat → Nat := fun k => if k = 2 then fr else if fr = 1 ∧ 26 ≤ k ∧ k < 26 + 4 * m ∧ (k - 26) % 4 = 2 then 0 else R k
theorem refP_0 (R : Nat → Nat) (fr : Nat) : updN R 2 fr = refP R fr 0 := by
  funext k
  unfold updN refP
  by_cases h : k = 2
  · rw [if_pos h, if_pos h]
  · rw [if_neg h, if_neg h, if_neg (by omega)]
theorem refP_succ (R : Nat → Nat) (fr m : Nat) (h1 : fr = 1) : updN (refP R fr m) (26 + 4 * m + 2) 0 = refP R fr (m + 1) := by
  funext k
  simp only [updN, refP]
  grind
theorem refP_n {R : Nat → Nat} {fr : Nat} (h : ¬ fr = 1) (a b : Nat) : refP R fr a = refP R fr b := by
  funext k
  unfold refP
  split
  · rfl
  · rw [if_neg (fun q => h q.1), if_neg (fun q => h q.1)]
theorem refP_lo {R : Nat → Nat} {fr m k : Nat} (h : k ≠ 2) (hk : k < 26 ∨ 50 ≤ k) (hm : m ≤ 6) : refP R fr m k = R k := by
  unfold refP
  rw [if_neg h, if_neg (by omega)]
abbrev refL (S : St) : Nat → Nat := refP (allS (sT S) (sN S)).2.2.1 (allS (sT S) (sN S)).2.2.2 ((allS (sT S) (sN S)).2.2.1 6)
def spLoadM (S : St) : RS := if (allS (sT S) (sN S)).1 = 1 then (0, nI ((allS (sT S) (sN S)).2.2.1 7), (sN S, sT S, refL S, 0, sH S, clrB (sB S), sK S)) else (1, 0, S)
set_option maxHeartbeats 200000 in
set_option maxRecDepth 100000 in
theorem c_errorPosition {M : PH} {m rf D0 : Nat} {S : St} (hM : RepM M m rf S) (hB : MB S) (hS : SInv D0 S) : Run iX11_errorPosition [.ref m] M 0 0 (QM M m ((0, errS (sT S) (sN S), S))) := by
  obtain ⟨M0, sp, ft, R, Q, D, K, L, rfl, hD, hK, hF⟩ := hM
  have hI := hS.1.1
  have hb := hI.b
  obtain ⟨hB1, hB2, hB3, hB4⟩ := id hB
  refine Run.of (l0 := [some (.ref m)]) (by decide +kernel) (Nat.le_of_ble_eq_true rfl) (by rfl) (fun Γ G C => ?_)
  refine pw_aload_n (q := 1) (j := 0) C dX11_errorPosition_0 rfl rfl rfl ?_
  refine pw_iconst_n (q := 2) C 0 dX11_errorPosition_1 (by decide +kernel) rfl ?_
  refine pw_put (q := 5) C dX11_errorPosition_2 fX11_35 mh_o (by rfl) (by rfl) (Nat.le_of_ble_eq_true rfl) rfl ?_
  rw [mh_s_rf]
  refine pw_aload_n (q := 6) (j := 0) C dX11_errorPosition_5 rfl rfl rfl ?_
  refine pw_val (q := 9) (cr_v (j := iX11_readAll) C dX11_errorPosition_6 lX11_107 mX11_readAll (ro_mk (by decide) (by decide)) mh_o rfl (m_readAll hB1 hB2) rfl rfl (Nat.le_of_ble_eq_true rfl) ⟨by omega, by omega⟩) rfl (fun M6 e6 => ?_)
  obtain ⟨R9, hR9, e8⟩ := e6
  subst e8
  have a1 := allS_1 (sT S) (sN S)
  by_cases h1 : (allS (sT S) (sN S)).1 = 1
  · rw [h1]
    refine pw_if_eq_n (q := 12) 17 C dX11_errorPosition_9 (by decide) rfl (by omega) (fun g9 => absurd g9 (by decide)) (fun g9 => ?_)
    refine pw_bipush (q := 14) (v := (-9)) C dX11_errorPosition_12 (by decide +kernel) rfl ?_
    refine pw_goto (q := 0) 21 C dX11_errorPosition_14 (by decide) ?_
    exact pw_iret C dX11_errorPosition_21 rfl ⟨by omega, by omega⟩ ((QM.ok (by rw [errS, if_pos h1]) (RepM.mk hD hK (allS_f ..)) same_mh))
  · rw [show (allS (sT S) (sN S)).1 = 0 by omega]
    refine pw_if_eq_n (q := 12) 17 C dX11_errorPosition_9 (by decide) rfl (by omega) (fun g9 => ?_) (fun g9 => absurd g9 (fun q => q rfl))
    refine pw_aload_n (q := 18) (j := 0) C dX11_errorPosition_17 rfl rfl rfl ?_
    refine pw_getf (q := 21) C dX11_errorPosition_18 fX11_80 mh_o (by rfl) rfl ?_
    exact pw_iret C dX11_errorPosition_21 rfl ⟨by omega, by omega⟩ ((QM.ok (by rw [errS, if_neg h1]) (RepM.mk hD hK (allS_f ..)) same_mh))
set_option maxHeartbeats 200000 in
set_option maxRecDepth 100000 in
theorem c_load {M : PH} {m rf D0 : Nat} {S : St} (hM : RepM M m rf S) (hB : MB S) (hS : SInv D0 S) : Run iX11_load [.ref m] M 0 0 (QM M m (spLoadM S)) := by
  obtain ⟨M0, sp, ft, R, Q, D, K, L, rfl, hD, hK, hF⟩ := hM
  have hI := hS.1.1
  have hb := hI.b
  obtain ⟨hB1, hB2, hB3, hB4⟩ := id hB
  refine Run.of (l0 := [some (.ref m), none]) (by decide +kernel) (Nat.le_of_ble_eq_true rfl) (by rfl) (fun Γ G C => ?_)
  refine pw_aload_n (q := 1) (j := 0) C dX11_load_0 rfl rfl rfl ?_
  refine pw_aload_n (q := 2) (j := 0) C dX11_load_1 rfl rfl rfl ?_
  refine pw_val (q := 5) (cr_v (j := iX11_readAll) C dX11_load_2 lX11_107 mX11_readAll (ro_mk (by decide) (by decide)) mh_o rfl (m_readAll hB1 hB2) rfl rfl (Nat.le_of_ble_eq_true rfl) ⟨by omega, by omega⟩) rfl (fun M2 e2 => ?_)
  obtain ⟨R9, hR9, e8⟩ := e2
  subst e8
  have a1 := allS_1 (sT S) (sN S)
  by_cases h1 : (allS (sT S) (sN S)).1 = 1
  · rw [h1]
    obtain ⟨hJ, hF9, -⟩ := allS_ok h1
    obtain ⟨b5, b6, b7⟩ := inv_b hJ
    refine pw_if_eq_n (q := 8) 12 C dX11_load_5 (by decide) rfl (by omega) (fun g5 => absurd g5 (by decide)) (fun g5 => ?_)
    refine pw_iconst_n (q := 9) C 0 dX11_load_8 (by decide +kernel) rfl ?_
    refine pw_goto (q := 0) 13 C dX11_load_9 (by decide) ?_
    refine pw_val (q := 16) (cr_v (j := iX11_refused) C dX11_load_13 lX11_76 mX11_refused (ro_mk (by decide) (by decide)) mh_o rfl (rv_f (by decide) (m_refused 0 (by decide))) rfl rfl (Nat.le_of_ble_eq_true rfl) ⟨by omega, by omega⟩) rfl (fun M13 e13 => ?_)
    subst e13
    refine pw_if_eq_n (q := 19) 21 C dX11_load_16 (by decide) rfl (by omega) (fun g16 => ?_) (fun g16 => absurd g16 (fun q => q rfl))
    refine pw_aload_n (q := 22) (j := 0) C dX11_load_21 rfl rfl rfl ?_
    refine pw_getf (q := 25) C dX11_load_22 fX11_13 mh_o (by rfl) rfl ?_
    refine pw_iconst_n (q := 26) C 0 dX11_load_25 (by decide +kernel) rfl ?_
    refine pw_aload_n (q := 27) (j := 0) C dX11_load_26 rfl rfl rfl ?_
    refine pw_getf (q := 30) C dX11_load_27 fX11_16 mh_o (by rfl) rfl ?_
    refine pw_iconst_n (q := 31) C 0 dX11_load_30 (by decide +kernel) rfl ?_
    refine pw_void (q := 34) (cr_s (j := iX11_copyPage) C dX11_load_31 lX11_110 mX11_copyPage (ro_mk (by decide) (by decide))  (m_copy mh_R mh_P (by omega) (by decide) (by decide) (by decide) (by decide)) rfl rfl (Nat.le_of_ble_eq_true rfl) ⟨by omega, by omega⟩) rfl (fun M31 e31 => ?_)
    rw [mh_s_P] at e31
    subst e31
    refine pw_norm (mh_P) (g := pg R9) (fun k hk => by show nI (cpy R9 0 (sP S) 0 194 k) = nI (R9 k); rw [cpy, if_pos (by omega), Nat.sub_zero, Nat.zero_add]) ?_
    rw [mh_s_P]
    have e9 := hR9 h1
    subst e9
    refine pw_aload_n (q := 35) (j := 0) C dX11_load_34 rfl rfl rfl ?_
    refine pw_getf (q := 38) C dX11_load_35 fX11_16 mh_o (by rfl) rfl ?_
    refine pw_iconst_n (q := 39) C 2 dX11_load_38 (by decide +kernel) rfl ?_
    refine pw_aload_n (q := 40) (j := 0) C dX11_load_39 rfl rfl rfl ?_
    refine pw_getf (q := 43) C dX11_load_40 fX11_100 mh_o (by rfl) rfl ?_
    refine pw_if_eq_n (q := 46) 50 C dX11_load_43 (by decide) rfl (by omega) (fun g43 => ?_) (fun g43 => ?_)
    · refine pw_iconst_n (q := 51) C 0 dX11_load_50 (by decide +kernel) rfl ?_
      refine pw_ipgst (q := 52) C dX11_load_51 mh_P (by omega) (by omega) rfl ?_
      rw [mh_s_P]
      refine pw_iconst_n (q := 53) C 0 dX11_load_52 (by decide +kernel) rfl ?_
      refine pw_istore_n (q := 54) (j := 1) C dX11_load_53 rfl rfl (by decide) rfl ?_
      have ef : 0 = (allS (sT S) (sN S)).2.2.2 := by omega
      rw [show updN (allS (sT S) (sN S)).2.2.1 2 0 = refP (allS (sT S) (sN S)).2.2.1 (allS (sT S) (sN S)).2.2.2 0 by rw [← refP_0, ← ef]]
      have tail : ∀ j : Nat, PW Γ G (ZJ Γ G 0 0 (QM (mh M0 m rf (sN S) sp ft (sM S) (sT S) R (sP S) Q D K (sB S) L) m (spLoadM S))) 92 [some (.ref m), some (.int (nI j))] [] (mh M0 m 0 (sN S) ((allS (sT S) (sN S)).2.1) ((allS (sT S) (sN S)).2.2.2) (sM S) (sT S) ((allS (sT S) (sN S)).2.2.1) ((refL S)) Q D K (sB S) L) 0 0 := by
        intro j
        refine pw_aload_n (q := 93) (j := 0) C dX11_load_92 rfl rfl rfl ?_
        refine pw_iconst_n (q := 94) C 0 dX11_load_93 (by decide +kernel) rfl ?_
        refine pw_put (q := 97) C dX11_load_94 fX11_114 mh_o (by rfl) (by rfl) (Nat.le_of_ble_eq_true rfl) rfl ?_
        rw [mh_s_ac]
        refine pw_aload_n (q := 98) (j := 0) C dX11_load_97 rfl rfl rfl ?_
        refine pw_getf (q := 101) C dX11_load_98 fX11_28 mh_o (by rfl) rfl ?_
        refine pw_iconst_n (q := 102) C 0 dX11_load_101 (by decide +kernel) rfl ?_
        refine pw_iconst_n (q := 103) C 0 dX11_load_102 (by decide +kernel) rfl ?_
        refine pw_zpgst (q := 104) C dX11_load_103 mh_B (by omega) (by omega) (by omega) rfl ?_
        rw [mh_s_B]
        refine pw_aload_n (q := 105) (j := 0) C dX11_load_104 rfl rfl rfl ?_
        refine pw_getf (q := 108) C dX11_load_105 fX11_28 mh_o (by rfl) rfl ?_
        refine pw_iconst_n (q := 109) C 1 dX11_load_108 (by decide +kernel) rfl ?_
        refine pw_iconst_n (q := 110) C 0 dX11_load_109 (by decide +kernel) rfl ?_
        refine pw_zpgst (q := 111) C dX11_load_110 mh_B (by omega) (by omega) (by omega) rfl ?_
        rw [mh_s_B]
        rw [upd_clr]
        refine pw_aload_n (q := 112) (j := 0) C dX11_load_111 rfl rfl rfl ?_
        refine pw_getf (q := 115) C dX11_load_112 fX11_16 mh_o (by rfl) rfl ?_
        refine pw_bipush_n (q := 117) C 7 dX11_load_115 (by decide +kernel) rfl ?_
        refine pw_ipg (q := 118) C dX11_load_117 mh_P (by omega) (by omega) rfl ?_
        rw [show refL S 7 = (allS (sT S) (sN S)).2.2.1 7 from refP_lo (by omega) (by omega) (by omega)]
        exact pw_iret C dX11_load_118 rfl ⟨by omega, by omega⟩ ((QM.ok (by rw [spLoadM, if_pos h1]) (RepM.mk (S := (sN S, sT S, refL S, 0, sH S, clrB (sB S), sK S)) (fun j hj => absurd hj (Nat.not_lt_zero j)) (fun i hi hb => absurd hb (by show ¬ clrB (sB S) i = 1; unfold clrB; rw [if_pos hi]; decide)) hF9) same_mh))
      have loop : ∀ (d j : Nat), j + d = (allS (sT S) (sN S)).2.2.1 6 → PW Γ G (ZJ Γ G 0 0 (QM (mh M0 m rf (sN S) sp ft (sM S) (sT S) R (sP S) Q D K (sB S) L) m (spLoadM S))) 54 [some (.ref m), some (.int (nI j))] [] (mh M0 m 0 (sN S) ((allS (sT S) (sN S)).2.1) ((allS (sT S) (sN S)).2.2.2) (sM S) (sT S) ((allS (sT S) (sN S)).2.2.1) ((refP (allS (sT S) (sN S)).2.2.1 (allS (sT S) (sN S)).2.2.2 j)) Q D K (sB S) L) 0 0 := by
        intro d
        induction d with
        | zero =>
          intro j hd
          have p6 : refP (allS (sT S) (sN S)).2.2.1 (allS (sT S) (sN S)).2.2.2 j 6 = (allS (sT S) (sN S)).2.2.1 6 := refP_lo (by omega) (by omega) (by omega)
          refine pw_iload_n (q := 55) (j := 1) C dX11_load_54 rfl rfl rfl ?_
          refine pw_aload_n (q := 56) (j := 0) C dX11_load_55 rfl rfl rfl ?_
          refine pw_getf (q := 59) C dX11_load_56 fX11_16 mh_o (by rfl) rfl ?_
          refine pw_bipush_n (q := 61) C 6 dX11_load_59 (by decide +kernel) rfl ?_
          refine pw_ipg (q := 62) C dX11_load_61 mh_P (by omega) (by omega) rfl ?_
          rw [p6]
          refine pw_icmp_ge_n (q := 65) 92 C dX11_load_62 (by decide) rfl (by omega) (by omega) (fun g62 => ?_) (fun g62 => absurd g62 (by omega))
          rw [show j = (allS (sT S) (sN S)).2.2.1 6 by omega]
          exact tail _
        | succ d ih =>
          intro j hd
          have p6 : refP (allS (sT S) (sN S)).2.2.1 (allS (sT S) (sN S)).2.2.2 j 6 = (allS (sT S) (sN S)).2.2.1 6 := refP_lo (by omega) (by omega) (by omega)
          refine pw_iload_n (q := 55) (j := 1) C dX11_load_54 rfl rfl rfl ?_
          refine pw_aload_n (q := 56) (j := 0) C dX11_load_55 rfl rfl rfl ?_
          refine pw_getf (q := 59) C dX11_load_56 fX11_16 mh_o (by rfl) rfl ?_
          refine pw_bipush_n (q := 61) C 6 dX11_load_59 (by decide +kernel) rfl ?_
          refine pw_ipg (q := 62) C dX11_load_61 mh_P (by omega) (by omega) rfl ?_
          rw [p6]
          refine pw_icmp_ge_n (q := 65) 92 C dX11_load_62 (by decide) rfl (by omega) (by omega) (fun g62 => absurd g62 (by omega)) (fun g62 => ?_)
          refine pw_aload_n (q := 66) (j := 0) C dX11_load_65 rfl rfl rfl ?_
          refine pw_getf (q := 69) C dX11_load_66 fX11_100 mh_o (by rfl) rfl ?_
          refine pw_if_eq_n (q := 72) 92 C dX11_load_69 (by decide) rfl (by omega) (fun g69 => ?_) (fun g69 => ?_)
          · rw [refP_n (by omega) j ((allS (sT S) (sN S)).2.2.1 6)]
            exact tail _
          · refine pw_aload_n (q := 73) (j := 0) C dX11_load_72 rfl rfl rfl ?_
            refine pw_getf (q := 76) C dX11_load_73 fX11_16 mh_o (by rfl) rfl ?_
            refine pw_bipush_n (q := 78) C 26 dX11_load_76 (by decide +kernel) rfl ?_
            refine pw_iconst_n (q := 79) C 4 dX11_load_78 (by decide +kernel) rfl ?_
            refine pw_iload_n (q := 80) (j := 1) C dX11_load_79 rfl rfl rfl ?_
            refine pw_imul_n (q := 81) C dX11_load_80 rfl ?_
            refine pw_iadd_n (q := 82) C dX11_load_81 rfl ?_
            refine pw_iconst_n (q := 83) C 2 dX11_load_82 (by decide +kernel) rfl ?_
            refine pw_iadd_n (q := 84) C dX11_load_83 rfl ?_
            refine pw_iconst_n (q := 85) C 0 dX11_load_84 (by decide +kernel) rfl ?_
            refine pw_ipgst (q := 86) C dX11_load_85 mh_P (by omega) (by omega) rfl ?_
            rw [mh_s_P]
            refine pw_iinc_n (q := 89) C 1 dX11_load_86 rfl (by decide +kernel) rfl (by decide) rfl ?_
            refine pw_goto (q := 0) 54 C dX11_load_89 (by decide) ?_
            rw [refP_succ _ _ _ (by omega)]
            exact ih (j + 1) (by omega)
      exact loop ((allS (sT S) (sN S)).2.2.1 6) 0 (by omega)
    · refine pw_iconst_n (q := 47) C 1 dX11_load_46 (by decide +kernel) rfl ?_
      refine pw_goto (q := 0) 51 C dX11_load_47 (by decide) ?_
      refine pw_ipgst (q := 52) C dX11_load_51 mh_P (by omega) (by omega) rfl ?_
      rw [mh_s_P]
      refine pw_iconst_n (q := 53) C 0 dX11_load_52 (by decide +kernel) rfl ?_
      refine pw_istore_n (q := 54) (j := 1) C dX11_load_53 rfl rfl (by decide) rfl ?_
      have ef : 1 = (allS (sT S) (sN S)).2.2.2 := by omega
      rw [show updN (allS (sT S) (sN S)).2.2.1 2 1 = refP (allS (sT S) (sN S)).2.2.1 (allS (sT S) (sN S)).2.2.2 0 by rw [← refP_0, ← ef]]
      have tail : ∀ j : Nat, PW Γ G (ZJ Γ G 0 0 (QM (mh M0 m rf (sN S) sp ft (sM S) (sT S) R (sP S) Q D K (sB S) L) m (spLoadM S))) 92 [some (.ref m), some (.int (nI j))] [] (mh M0 m 0 (sN S) ((allS (sT S) (sN S)).2.1) ((allS (sT S) (sN S)).2.2.2) (sM S) (sT S) ((allS (sT S) (sN S)).2.2.1) ((refL S)) Q D K (sB S) L) 0 0 := by
        intro j
        refine pw_aload_n (q := 93) (j := 0) C dX11_load_92 rfl rfl rfl ?_
        refine pw_iconst_n (q := 94) C 0 dX11_load_93 (by decide +kernel) rfl ?_
        refine pw_put (q := 97) C dX11_load_94 fX11_114 mh_o (by rfl) (by rfl) (Nat.le_of_ble_eq_true rfl) rfl ?_
        rw [mh_s_ac]
        refine pw_aload_n (q := 98) (j := 0) C dX11_load_97 rfl rfl rfl ?_
        refine pw_getf (q := 101) C dX11_load_98 fX11_28 mh_o (by rfl) rfl ?_
        refine pw_iconst_n (q := 102) C 0 dX11_load_101 (by decide +kernel) rfl ?_
        refine pw_iconst_n (q := 103) C 0 dX11_load_102 (by decide +kernel) rfl ?_
        refine pw_zpgst (q := 104) C dX11_load_103 mh_B (by omega) (by omega) (by omega) rfl ?_
        rw [mh_s_B]
        refine pw_aload_n (q := 105) (j := 0) C dX11_load_104 rfl rfl rfl ?_
        refine pw_getf (q := 108) C dX11_load_105 fX11_28 mh_o (by rfl) rfl ?_
        refine pw_iconst_n (q := 109) C 1 dX11_load_108 (by decide +kernel) rfl ?_
        refine pw_iconst_n (q := 110) C 0 dX11_load_109 (by decide +kernel) rfl ?_
        refine pw_zpgst (q := 111) C dX11_load_110 mh_B (by omega) (by omega) (by omega) rfl ?_
        rw [mh_s_B]
        rw [upd_clr]
        refine pw_aload_n (q := 112) (j := 0) C dX11_load_111 rfl rfl rfl ?_
        refine pw_getf (q := 115) C dX11_load_112 fX11_16 mh_o (by rfl) rfl ?_
        refine pw_bipush_n (q := 117) C 7 dX11_load_115 (by decide +kernel) rfl ?_
        refine pw_ipg (q := 118) C dX11_load_117 mh_P (by omega) (by omega) rfl ?_
        rw [show refL S 7 = (allS (sT S) (sN S)).2.2.1 7 from refP_lo (by omega) (by omega) (by omega)]
        exact pw_iret C dX11_load_118 rfl ⟨by omega, by omega⟩ ((QM.ok (by rw [spLoadM, if_pos h1]) (RepM.mk (S := (sN S, sT S, refL S, 0, sH S, clrB (sB S), sK S)) (fun j hj => absurd hj (Nat.not_lt_zero j)) (fun i hi hb => absurd hb (by show ¬ clrB (sB S) i = 1; unfold clrB; rw [if_pos hi]; decide)) hF9) same_mh))
      have loop : ∀ (d j : Nat), j + d = (allS (sT S) (sN S)).2.2.1 6 → PW Γ G (ZJ Γ G 0 0 (QM (mh M0 m rf (sN S) sp ft (sM S) (sT S) R (sP S) Q D K (sB S) L) m (spLoadM S))) 54 [some (.ref m), some (.int (nI j))] [] (mh M0 m 0 (sN S) ((allS (sT S) (sN S)).2.1) ((allS (sT S) (sN S)).2.2.2) (sM S) (sT S) ((allS (sT S) (sN S)).2.2.1) ((refP (allS (sT S) (sN S)).2.2.1 (allS (sT S) (sN S)).2.2.2 j)) Q D K (sB S) L) 0 0 := by
        intro d
        induction d with
        | zero =>
          intro j hd
          have p6 : refP (allS (sT S) (sN S)).2.2.1 (allS (sT S) (sN S)).2.2.2 j 6 = (allS (sT S) (sN S)).2.2.1 6 := refP_lo (by omega) (by omega) (by omega)
          refine pw_iload_n (q := 55) (j := 1) C dX11_load_54 rfl rfl rfl ?_
          refine pw_aload_n (q := 56) (j := 0) C dX11_load_55 rfl rfl rfl ?_
          refine pw_getf (q := 59) C dX11_load_56 fX11_16 mh_o (by rfl) rfl ?_
          refine pw_bipush_n (q := 61) C 6 dX11_load_59 (by decide +kernel) rfl ?_
          refine pw_ipg (q := 62) C dX11_load_61 mh_P (by omega) (by omega) rfl ?_
          rw [p6]
          refine pw_icmp_ge_n (q := 65) 92 C dX11_load_62 (by decide) rfl (by omega) (by omega) (fun g62 => ?_) (fun g62 => absurd g62 (by omega))
          rw [show j = (allS (sT S) (sN S)).2.2.1 6 by omega]
          exact tail _
        | succ d ih =>
          intro j hd
          have p6 : refP (allS (sT S) (sN S)).2.2.1 (allS (sT S) (sN S)).2.2.2 j 6 = (allS (sT S) (sN S)).2.2.1 6 := refP_lo (by omega) (by omega) (by omega)
          refine pw_iload_n (q := 55) (j := 1) C dX11_load_54 rfl rfl rfl ?_
          refine pw_aload_n (q := 56) (j := 0) C dX11_load_55 rfl rfl rfl ?_
          refine pw_getf (q := 59) C dX11_load_56 fX11_16 mh_o (by rfl) rfl ?_
          refine pw_bipush_n (q := 61) C 6 dX11_load_59 (by decide +kernel) rfl ?_
          refine pw_ipg (q := 62) C dX11_load_61 mh_P (by omega) (by omega) rfl ?_
          rw [p6]
          refine pw_icmp_ge_n (q := 65) 92 C dX11_load_62 (by decide) rfl (by omega) (by omega) (fun g62 => absurd g62 (by omega)) (fun g62 => ?_)
          refine pw_aload_n (q := 66) (j := 0) C dX11_load_65 rfl rfl rfl ?_
          refine pw_getf (q := 69) C dX11_load_66 fX11_100 mh_o (by rfl) rfl ?_
          refine pw_if_eq_n (q := 72) 92 C dX11_load_69 (by decide) rfl (by omega) (fun g69 => ?_) (fun g69 => ?_)
          · rw [refP_n (by omega) j ((allS (sT S) (sN S)).2.2.1 6)]
            exact tail _
          · refine pw_aload_n (q := 73) (j := 0) C dX11_load_72 rfl rfl rfl ?_
            refine pw_getf (q := 76) C dX11_load_73 fX11_16 mh_o (by rfl) rfl ?_
            refine pw_bipush_n (q := 78) C 26 dX11_load_76 (by decide +kernel) rfl ?_
            refine pw_iconst_n (q := 79) C 4 dX11_load_78 (by decide +kernel) rfl ?_
            refine pw_iload_n (q := 80) (j := 1) C dX11_load_79 rfl rfl rfl ?_
            refine pw_imul_n (q := 81) C dX11_load_80 rfl ?_
            refine pw_iadd_n (q := 82) C dX11_load_81 rfl ?_
            refine pw_iconst_n (q := 83) C 2 dX11_load_82 (by decide +kernel) rfl ?_
            refine pw_iadd_n (q := 84) C dX11_load_83 rfl ?_
            refine pw_iconst_n (q := 85) C 0 dX11_load_84 (by decide +kernel) rfl ?_
            refine pw_ipgst (q := 86) C dX11_load_85 mh_P (by omega) (by omega) rfl ?_
            rw [mh_s_P]
            refine pw_iinc_n (q := 89) C 1 dX11_load_86 rfl (by decide +kernel) rfl (by decide) rfl ?_
            refine pw_goto (q := 0) 54 C dX11_load_89 (by decide) ?_
            rw [refP_succ _ _ _ (by omega)]
            exact ih (j + 1) (by omega)
      exact loop ((allS (sT S) (sN S)).2.2.1 6) 0 (by omega)
  · rw [show (allS (sT S) (sN S)).1 = 0 by omega]
    refine pw_if_eq_n (q := 8) 12 C dX11_load_5 (by decide) rfl (by omega) (fun g5 => ?_) (fun g5 => absurd g5 (fun q => q rfl))
    refine pw_iconst_n (q := 13) C 1 dX11_load_12 (by decide +kernel) rfl ?_
    refine pw_val (q := 16) (cr_v (j := iX11_refused) C dX11_load_13 lX11_76 mX11_refused (ro_mk (by decide) (by decide)) mh_o rfl (rv_t (by decide) (m_refused 1 (by decide))) rfl rfl (Nat.le_of_ble_eq_true rfl) ⟨by omega, by omega⟩) rfl (fun M13 e13 => ?_)
    subst e13
    refine pw_if_eq_n (q := 19) 21 C dX11_load_16 (by decide) rfl (by omega) (fun g16 => absurd g16 (by decide)) (fun g16 => ?_)
    refine pw_iconst_n (q := 20) C 0 dX11_load_19 (by decide +kernel) rfl ?_
    exact pw_iret C dX11_load_20 rfl ⟨by omega, by omega⟩ ((QM.no 0 (by rw [spLoadM, if_neg h1]) (RepM.mk hD hK (allS_f ..)) same_mh))
