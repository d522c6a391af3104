/-! The reference: what lacks, what it costs, in how many days. -/
def layA (P L : Nat → Nat) (i : Nat) : Nat → Nat := fun k => if k < i then lacks P k else L k
theorem layA_0 (P L : Nat → Nat) : layA P L 0 = L := funext fun k => if_neg (Nat.not_lt_zero k)
theorem layA_succ (P L : Nat → Nat) (i : Nat) : updN (layA P L i) i (lacks P i) = layA P L (i + 1) := by
  funext k
  unfold updN layA
  by_cases h : k = i
  · subst h
    rw [if_pos rfl, if_pos (by omega)]
  · rw [if_neg h]
    by_cases h2 : k < i
    · rw [if_pos h2, if_pos (by omega)]
    · rw [if_neg h2, if_neg (by omega)]
theorem layA_in {P L : Nat → Nat} {i c : Nat} (h : c < i) : layA P L i c = lacks P c := if_pos h
theorem lacks_9 {P : Nat → Nat} (hI : Inv P) {c : Nat} (hc : c < P 5) : lacks P c ≤ 9 := Nat.le_trans (Nat.sub_le _ _) (hI.c hc).2.2.2.2.2
theorem sumL_le {P : Nat → Nat} (hI : Inv P) : sumN (lacks P) (P 5) ≤ 54 := by
  have h := sumN_le (f := lacks P) (b := 9) (n := P 5) (fun k hk => lacks_9 hI hk)
  have hb := hI.b
  omega
theorem sumN_mul (f : Nat → Nat) (r : Nat) : ∀ n, sumN (fun c => f c * r) n = sumN f n * r
  | 0 => by simp [sumN]
  | n + 1 => by rw [sumN, sumN, sumN_mul f r n, Nat.add_mul]
theorem sumN_0 {f : Nat → Nat} : ∀ {n : Nat}, sumN f n = 0 ↔ ∀ c, c < n → f c = 0
  | 0 => ⟨fun _ c hc => absurd hc (Nat.not_lt_zero c), fun _ => rfl⟩
  | n + 1 => by
    have h := sumN_0 (f := f) (n := n)
    rw [sumN]
    constructor
    · intro h1 c hc
      by_cases e : c = n
      · subst e; omega
      · exact h.mp (by omega) c (by omega)
    · intro h1
      rw [h.mpr (fun c hc => h1 c (by omega)), h1 n (by omega)]
theorem sumN_upd {L : Nat → Nat} {c : Nat} (h : 0 < L c) : ∀ {n : Nat}, c < n → sumN (updN L c (L c - 1)) n + 1 = sumN L n
  | 0, hc => absurd hc (Nat.not_lt_zero c)
  | n + 1, hc => by
    rw [sumN, sumN]
    by_cases e : c = n
    · subst e
      rw [updN_at, sumN_cong (f := updN L c (L c - 1)) (g := L) (fun k hk => updN_ne (by omega))]
      omega
    · have := sumN_upd h (n := n) (by omega)
      rw [updN_ne (show n ≠ c by omega)]
      omega
theorem sumN_mono {f g : Nat → Nat} : ∀ {n : Nat}, (∀ c, c < n → f c ≤ g c) → sumN f n ≤ sumN g n
  | 0, _ => Nat.le_refl _
  | n + 1, h => Nat.add_le_add (sumN_mono (fun c hc => h c (by omega))) (h n (by omega))
def minT (P : Nat → Nat) : Nat → Nat
  | 0 => 10
  | n + 1 => if P (26 + 4 * n) < minT P n then P (26 + 4 * n) else minT P n
theorem minT_le (P : Nat → Nat) : ∀ n, minT P n ≤ 10
  | 0 => Nat.le_refl 10
  | n + 1 => by
    have := minT_le P n
    rw [minT]
    split <;> omega
theorem minT_eq {P : Nat → Nat} (hI : Inv P) : ∀ {n : Nat}, n < P 6 → minT P (n + 1) = minR P (n + 1)
  | 0, h => by
    have h9 := hI.m h
    have h1 : 1 ≤ P 26 := h9.1
    have h2 : P 26 ≤ 9 := h9.2.1
    show (if P 26 < 10 then P 26 else 10) = min 9 (P 26)
    rw [if_pos (by omega)]
    omega
  | n + 1, h => by
    have e := minT_eq hI (n := n) (by omega)
    have e2 : minR P (n + 1 + 1) = min (minR P (n + 1)) (P (26 + 4 * (n + 1))) := rfl
    rw [minT, e, e2]
    split <;> omega
theorem cost_0 {P : Nat → Nat} (hI : Inv P) (h : sumN (lacks P) (P 5) = 0) : cost P = nI 0 := by
  have e : lackF P = 0 := sumN_0.mpr (fun c hc => by rw [sumN_0.mp h c hc, Nat.zero_mul])
  unfold cost
  rw [if_neg (by omega), e, Nat.zero_mul]
theorem lackF_pos {P : Nat → Nat} (hI : Inv P) (h : ¬ sumN (lacks P) (P 5) = 0) : 0 < lackF P := by
  refine Nat.pos_of_ne_zero (fun q => h (sumN_0.mpr (fun c hc => ?_)))
  have h1 := sumN_0.mp q c hc
  have h2 := hI.c hc
  rcases Nat.mul_eq_zero.mp h1 with h3 | h3
  · exact h3
  · omega
theorem cost_n {P : Nat → Nat} (hI : Inv P) (h : ¬ sumN (lacks P) (P 5) = 0) (h6 : P 6 = 0) : cost P = -9 := by
  unfold cost
  rw [if_pos ⟨lackF_pos hI h, h6⟩]
theorem cost_p {P : Nat → Nat} (hI : Inv P) (h6 : ¬ P 6 = 0) : cost P = nI (sumN (fun c => lacks P c * P (8 + 3 * c + 1) * minT P (P 6)) (P 5)) := by
  unfold cost
  rw [if_neg (by omega), sumN_mul]
  obtain ⟨n, hn⟩ : ∃ n, P 6 = n + 1 := ⟨P 6 - 1, by omega⟩
  rw [hn, minT_eq hI (by omega)]
  rfl
set_option maxHeartbeats 200000 in
set_option maxRecDepth 100000 in
theorem m_lay {M : PH} {m rf n sp ft ac : Nat} {T R P Q D K B L : Nat → Nat} (hI : Inv P) : Run iX11_layLacking [.ref m] (mh M m rf n sp ft ac T R P Q D K B L) 0 0 (RV (.int (nI (sumN (lacks P) (P 5)))) (fun M1 => M1 = mh M m rf n sp ft ac T R P Q D K B ((layA P L (P 5))))) := by
  have hb := hI.b
  refine Run.of (l0 := [some (.ref m), none, none]) (by decide +kernel) (Nat.le_of_ble_eq_true rfl) (by rfl) (fun Γ G C => ?_)
  refine pw_iconst_n (q := 1) C 0 dX11_layLacking_0 (by decide +kernel) rfl ?_
  refine pw_istore_n (q := 2) (j := 1) C dX11_layLacking_1 rfl rfl (by decide) rfl ?_
  refine pw_iconst_n (q := 3) C 0 dX11_layLacking_2 (by decide +kernel) rfl ?_
  refine pw_istore_n (q := 4) (j := 2) C dX11_layLacking_3 rfl rfl (by decide) rfl ?_
  have loop : ∀ (d c : Nat), c + d = P 5 → PW Γ G (ZJ Γ G 0 0 (RV (.int (nI (sumN (lacks P) (P 5)))) (fun M1 => M1 = mh M m rf n sp ft ac T R P Q D K B ((layA P L (P 5)))))) 4 [some (.ref m), some (.int (nI (sumN (lacks P) c))), some (.int (nI c))] [] (mh M m rf n sp ft ac T R P Q D K B ((layA P L c))) 0 0 := by
    intro d
    induction d with
    | zero =>
      intro c hd
      refine pw_iload_n (q := 5) (j := 2) C dX11_layLacking_4 rfl rfl rfl ?_
      refine pw_aload_n (q := 6) (j := 0) C dX11_layLacking_5 rfl rfl rfl ?_
      refine pw_getf (q := 9) C dX11_layLacking_6 fX11_16 mh_o (by rfl) rfl ?_
      refine pw_iconst_n (q := 10) C 5 dX11_layLacking_9 (by decide +kernel) rfl ?_
      refine pw_ipg (q := 11) C dX11_layLacking_10 mh_P (by omega) (by omega) rfl ?_
      refine pw_icmp_ge_n (q := 14) 43 C dX11_layLacking_11 (by decide) rfl (by omega) (by omega) (fun g11 => ?_) (fun g11 => absurd g11 (by omega))
      refine pw_iload_n (q := 44) (j := 1) C dX11_layLacking_43 rfl rfl rfl ?_
      exact pw_iret C dX11_layLacking_44 rfl ⟨by omega, by omega⟩ (RV.mk (by rw [show c = P 5 by omega]) (by rw [show c = P 5 by omega]))
    | succ d ih =>
      intro c hd
      refine pw_iload_n (q := 5) (j := 2) C dX11_layLacking_4 rfl rfl rfl ?_
      refine pw_aload_n (q := 6) (j := 0) C dX11_layLacking_5 rfl rfl rfl ?_
      refine pw_getf (q := 9) C dX11_layLacking_6 fX11_16 mh_o (by rfl) rfl ?_
      refine pw_iconst_n (q := 10) C 5 dX11_layLacking_9 (by decide +kernel) rfl ?_
      refine pw_ipg (q := 11) C dX11_layLacking_10 mh_P (by omega) (by omega) rfl ?_
      refine pw_icmp_ge_n (q := 14) 43 C dX11_layLacking_11 (by decide) rfl (by omega) (by omega) (fun g11 => absurd g11 (by omega)) (fun g11 => ?_)
      refine pw_aload_n (q := 15) (j := 0) C dX11_layLacking_14 rfl rfl rfl ?_
      refine pw_getf (q := 18) C dX11_layLacking_15 fX11_32 mh_o (by rfl) rfl ?_
      refine pw_iload_n (q := 19) (j := 2) C dX11_layLacking_18 rfl rfl rfl ?_
      refine pw_aload_n (q := 20) (j := 0) C dX11_layLacking_19 rfl rfl rfl ?_
      refine pw_getf (q := 23) C dX11_layLacking_20 fX11_16 mh_o (by rfl) rfl ?_
      refine pw_iload_n (q := 24) (j := 2) C dX11_layLacking_23 rfl rfl rfl ?_
      refine pw_rd (q := 27) (cr_s (j := iX11_lacks) C dX11_layLacking_24 lX11_68 mX11_lacks (ro_mk (by decide) (by decide))  (m_lacks mh_P hI (by omega)) rfl rfl (Nat.le_of_ble_eq_true rfl) ⟨by omega, by omega⟩) rfl ?_
      refine pw_ipgst (q := 28) C dX11_layLacking_27 mh_L (by omega) (by omega) rfl ?_
      rw [mh_s_L]
      refine pw_iload_n (q := 29) (j := 1) C dX11_layLacking_28 rfl rfl rfl ?_
      refine pw_aload_n (q := 30) (j := 0) C dX11_layLacking_29 rfl rfl rfl ?_
      refine pw_getf (q := 33) C dX11_layLacking_30 fX11_32 mh_o (by rfl) rfl ?_
      refine pw_iload_n (q := 34) (j := 2) C dX11_layLacking_33 rfl rfl rfl ?_
      refine pw_ipg (q := 35) C dX11_layLacking_34 mh_L (by omega) (by omega) rfl ?_
      rw [updN_at]
      refine pw_iadd_n (q := 36) C dX11_layLacking_35 rfl ?_
      refine pw_istore_n (q := 37) (j := 1) C dX11_layLacking_36 rfl rfl (by decide) rfl ?_
      refine pw_iinc_n (q := 40) C 1 dX11_layLacking_37 rfl (by decide +kernel) rfl (by decide) rfl ?_
      refine pw_goto (q := 0) 4 C dX11_layLacking_40 (by decide) ?_
      rw [layA_succ]
      exact ih (c + 1) (by omega)
  have l9 := loop (P 5) 0 (by omega)
  rw [layA_0] at l9
  exact l9
set_option maxHeartbeats 200000 in
set_option maxRecDepth 100000 in
theorem c_costLeft {M : PH} {m rf D0 : Nat} {S : St} (hM : RepM M m rf S) (hB : MB S) (hS : SInv D0 S) : Run iX11_costLeft [.ref m] M 0 0 (QM M m ((0, cost (sP S), S))) := by
  obtain ⟨M0, sp, ft, R, Q, D, K, L, rfl, hD, hK, hF⟩ := hM
  have hI := hS.1.1
  have hb := hI.b
  obtain ⟨hB1, hB2, hB3, hB4⟩ := id hB
  refine Run.of (l0 := [some (.ref m), none, none, none, none]) (by decide +kernel) (Nat.le_of_ble_eq_true rfl) (by rfl) (fun Γ G C => ?_)
  refine pw_aload_n (q := 1) (j := 0) C dX11_costLeft_0 rfl rfl rfl ?_
  refine pw_iconst_n (q := 2) C 0 dX11_costLeft_1 (by decide +kernel) rfl ?_
  refine pw_put (q := 5) C dX11_costLeft_2 fX11_35 mh_o (by rfl) (by rfl) (Nat.le_of_ble_eq_true rfl) rfl ?_
  rw [mh_s_rf]
  refine pw_aload_n (q := 6) (j := 0) C dX11_costLeft_5 rfl rfl rfl ?_
  refine pw_val (q := 9) (cr_v (j := iX11_layLacking) C dX11_costLeft_6 lX11_175 mX11_layLacking (ro_mk (by decide) (by decide)) mh_o rfl (m_lay hI) rfl rfl (Nat.le_of_ble_eq_true rfl) ⟨by omega, by omega⟩) rfl (fun M6 e6 => ?_)
  subst e6
  refine pw_istore_n (q := 10) (j := 1) C dX11_costLeft_9 rfl rfl (by decide) rfl ?_
  refine pw_bipush_n (q := 12) C 10 dX11_costLeft_10 (by decide +kernel) rfl ?_
  refine pw_istore_n (q := 13) (j := 2) C dX11_costLeft_12 rfl rfl (by decide) rfl ?_
  refine pw_iconst_n (q := 14) C 0 dX11_costLeft_13 (by decide +kernel) rfl ?_
  refine pw_istore_n (q := 15) (j := 3) C dX11_costLeft_14 rfl rfl (by decide) rfl ?_
  have qs := sumL_le hI
  have loop2 : ∀ (d c : Nat), c + d = sP S 5 → PW Γ G (ZJ Γ G 0 0 (QM (mh M0 m rf (sN S) sp ft (sM S) (sT S) R (sP S) Q D K (sB S) L) m ((0, cost (sP S), S)))) 68 [some (.ref m), some (.int (nI (sumN (lacks (sP S)) (sP S 5)))), some (.int (nI (minT (sP S) (sP S 6)))), some (.int (nI (sumN (fun c => lacks (sP S) c * sP S (8 + 3 * c + 1) * minT (sP S) (sP S 6)) c))), some (.int (nI c))] [] (mh M0 m 0 (sN S) sp ft (sM S) (sT S) R (sP S) Q D K (sB S) ((layA (sP S) L (sP S 5)))) 0 0 := by
    intro d
    induction d with
    | zero =>
      intro c hd
      refine pw_iload (q := 70) C dX11_costLeft_68 rfl rfl ?_
      refine pw_aload_n (q := 71) (j := 0) C dX11_costLeft_70 rfl rfl rfl ?_
      refine pw_getf (q := 74) C dX11_costLeft_71 fX11_16 mh_o (by rfl) rfl ?_
      refine pw_iconst_n (q := 75) C 5 dX11_costLeft_74 (by decide +kernel) rfl ?_
      refine pw_ipg (q := 76) C dX11_costLeft_75 mh_P (by omega) (by omega) rfl ?_
      refine pw_icmp_ge_n (q := 79) 107 C dX11_costLeft_76 (by decide) rfl (by omega) (by omega) (fun g76 => ?_) (fun g76 => absurd g76 (by omega))
      refine pw_iload_n (q := 108) (j := 1) C dX11_costLeft_107 rfl rfl rfl ?_
      refine pw_if_ne_n (q := 111) 115 C dX11_costLeft_108 (by decide) rfl (by omega) (fun g108 => ?_) (fun g108 => ?_)
      · refine pw_aload_n (q := 116) (j := 0) C dX11_costLeft_115 rfl rfl rfl ?_
        refine pw_getf (q := 119) C dX11_costLeft_116 fX11_16 mh_o (by rfl) rfl ?_
        refine pw_bipush_n (q := 121) C 6 dX11_costLeft_119 (by decide +kernel) rfl ?_
        refine pw_ipg (q := 122) C dX11_costLeft_121 mh_P (by omega) (by omega) rfl ?_
        refine pw_if_ne_n (q := 125) 130 C dX11_costLeft_122 (by decide) rfl (by omega) (fun g122 => ?_) (fun g122 => ?_)
        · refine pw_iload_n (q := 131) (j := 3) C dX11_costLeft_130 rfl rfl rfl ?_
          exact pw_iret C dX11_costLeft_131 rfl ⟨by omega, by omega⟩ ((QM.ok (by rw [cost_p hI g122, show c = sP S 5 by omega]) (RepM.mk hD hK hF) same_mh))
        · refine pw_bipush (q := 127) (v := (-9)) C dX11_costLeft_125 (by decide +kernel) rfl ?_
          refine pw_goto (q := 0) 131 C dX11_costLeft_127 (by decide) ?_
          exact pw_iret C dX11_costLeft_131 rfl ⟨by omega, by omega⟩ ((QM.ok (by rw [cost_n hI g108 g122]) (RepM.mk hD hK hF) same_mh))
      · refine pw_iconst_n (q := 112) C 0 dX11_costLeft_111 (by decide +kernel) rfl ?_
        refine pw_goto (q := 0) 131 C dX11_costLeft_112 (by decide) ?_
        exact pw_iret C dX11_costLeft_131 rfl ⟨by omega, by omega⟩ ((QM.ok (by rw [cost_0 hI g108]) (RepM.mk hD hK hF) same_mh))
    | succ d ih =>
      intro c hd
      refine pw_iload (q := 70) C dX11_costLeft_68 rfl rfl ?_
      refine pw_aload_n (q := 71) (j := 0) C dX11_costLeft_70 rfl rfl rfl ?_
      refine pw_getf (q := 74) C dX11_costLeft_71 fX11_16 mh_o (by rfl) rfl ?_
      refine pw_iconst_n (q := 75) C 5 dX11_costLeft_74 (by decide +kernel) rfl ?_
      refine pw_ipg (q := 76) C dX11_costLeft_75 mh_P (by omega) (by omega) rfl ?_
      refine pw_icmp_ge_n (q := 79) 107 C dX11_costLeft_76 (by decide) rfl (by omega) (by omega) (fun g76 => absurd g76 (by omega)) (fun g76 => ?_)
      refine pw_iload_n (q := 80) (j := 3) C dX11_costLeft_79 rfl rfl rfl ?_
      refine pw_aload_n (q := 81) (j := 0) C dX11_costLeft_80 rfl rfl rfl ?_
      refine pw_getf (q := 84) C dX11_costLeft_81 fX11_32 mh_o (by rfl) rfl ?_
      refine pw_iload (q := 86) C dX11_costLeft_84 rfl rfl ?_
      refine pw_ipg (q := 87) C dX11_costLeft_86 mh_L (by omega) (by omega) rfl ?_
      rw [layA_in (by omega)]
      refine pw_aload_n (q := 88) (j := 0) C dX11_costLeft_87 rfl rfl rfl ?_
      refine pw_getf (q := 91) C dX11_costLeft_88 fX11_16 mh_o (by rfl) rfl ?_
      refine pw_iload (q := 93) C dX11_costLeft_91 rfl rfl ?_
      refine pw_rd (q := 96) (cr_s (j := iX11_facesOf) C dX11_costLeft_93 lX11_51 mX11_facesOf (ro_mk (by decide) (by decide))  (m_faces mh_P (by omega)) rfl rfl (Nat.le_of_ble_eq_true rfl) ⟨by omega, by omega⟩) rfl ?_
      refine pw_imul_n (q := 97) C dX11_costLeft_96 rfl ?_
      refine pw_iload_n (q := 98) (j := 2) C dX11_costLeft_97 rfl rfl rfl ?_
      refine pw_imul_n (q := 99) C dX11_costLeft_98 rfl ?_
      refine pw_iadd_n (q := 100) C dX11_costLeft_99 rfl ?_
      refine pw_istore_n (q := 101) (j := 3) C dX11_costLeft_100 rfl rfl (by decide) rfl ?_
      refine pw_iinc_n (q := 104) C 1 dX11_costLeft_101 rfl (by decide +kernel) rfl (by decide) rfl ?_
      refine pw_goto (q := 0) 68 C dX11_costLeft_104 (by decide) ?_
      exact ih (c + 1) (by omega)
  have loop : ∀ (d j : Nat), j + d = sP S 6 → PW Γ G (ZJ Γ G 0 0 (QM (mh M0 m rf (sN S) sp ft (sM S) (sT S) R (sP S) Q D K (sB S) L) m ((0, cost (sP S), S)))) 15 [some (.ref m), some (.int (nI (sumN (lacks (sP S)) (sP S 5)))), some (.int (nI (minT (sP S) j))), some (.int (nI j)), none] [] (mh M0 m 0 (sN S) sp ft (sM S) (sT S) R (sP S) Q D K (sB S) ((layA (sP S) L (sP S 5)))) 0 0 := by
    intro d
    induction d with
    | zero =>
      intro j hd
      refine pw_iload_n (q := 16) (j := 3) C dX11_costLeft_15 rfl rfl rfl ?_
      refine pw_aload_n (q := 17) (j := 0) C dX11_costLeft_16 rfl rfl rfl ?_
      refine pw_getf (q := 20) C dX11_costLeft_17 fX11_16 mh_o (by rfl) rfl ?_
      refine pw_bipush_n (q := 22) C 6 dX11_costLeft_20 (by decide +kernel) rfl ?_
      refine pw_ipg (q := 23) C dX11_costLeft_22 mh_P (by omega) (by omega) rfl ?_
      refine pw_icmp_ge_n (q := 26) 63 C dX11_costLeft_23 (by decide) rfl (by omega) (by omega) (fun g23 => ?_) (fun g23 => absurd g23 (by omega))
      refine pw_iconst_n (q := 64) C 0 dX11_costLeft_63 (by decide +kernel) rfl ?_
      refine pw_istore_n (q := 65) (j := 3) C dX11_costLeft_64 rfl rfl (by decide) rfl ?_
      refine pw_iconst_n (q := 66) C 0 dX11_costLeft_65 (by decide +kernel) rfl ?_
      refine pw_istore (q := 68) C dX11_costLeft_66 rfl (by decide) rfl ?_
      rw [show j = sP S 6 by omega]
      exact loop2 (sP S 5) 0 (by omega)
    | succ d ih =>
      intro j hd
      refine pw_iload_n (q := 16) (j := 3) C dX11_costLeft_15 rfl rfl rfl ?_
      refine pw_aload_n (q := 17) (j := 0) C dX11_costLeft_16 rfl rfl rfl ?_
      refine pw_getf (q := 20) C dX11_costLeft_17 fX11_16 mh_o (by rfl) rfl ?_
      refine pw_bipush_n (q := 22) C 6 dX11_costLeft_20 (by decide +kernel) rfl ?_
      refine pw_ipg (q := 23) C dX11_costLeft_22 mh_P (by omega) (by omega) rfl ?_
      refine pw_icmp_ge_n (q := 26) 63 C dX11_costLeft_23 (by decide) rfl (by omega) (by omega) (fun g23 => absurd g23 (by omega)) (fun g23 => ?_)
      have q4 := hI.m (show j < sP S 6 by omega)
      have q5 := minT_le (sP S) j
      refine pw_aload_n (q := 27) (j := 0) C dX11_costLeft_26 rfl rfl rfl ?_
      refine pw_getf (q := 30) C dX11_costLeft_27 fX11_16 mh_o (by rfl) rfl ?_
      refine pw_bipush_n (q := 32) C 26 dX11_costLeft_30 (by decide +kernel) rfl ?_
      refine pw_iconst_n (q := 33) C 4 dX11_costLeft_32 (by decide +kernel) rfl ?_
      refine pw_iload_n (q := 34) (j := 3) C dX11_costLeft_33 rfl rfl rfl ?_
      refine pw_imul_n (q := 35) C dX11_costLeft_34 rfl ?_
      refine pw_iadd_n (q := 36) C dX11_costLeft_35 rfl ?_
      refine pw_ipg (q := 37) C dX11_costLeft_36 mh_P (by omega) (by omega) rfl ?_
      refine pw_iload_n (q := 38) (j := 2) C dX11_costLeft_37 rfl rfl rfl ?_
      refine pw_icmp_ge_n (q := 41) 55 C dX11_costLeft_38 (by decide) rfl (by omega) (by omega) (fun g38 => ?_) (fun g38 => ?_)
      · refine pw_iload_n (q := 56) (j := 2) C dX11_costLeft_55 rfl rfl rfl ?_
        refine pw_istore_n (q := 57) (j := 2) C dX11_costLeft_56 rfl rfl (by decide) rfl ?_
        refine pw_iinc_n (q := 60) C 1 dX11_costLeft_57 rfl (by decide +kernel) rfl (by decide) rfl ?_
        refine pw_goto (q := 0) 15 C dX11_costLeft_60 (by decide) ?_
        have e9 : minT (sP S) (j + 1) = _ := if_neg (by omega)
        have z9 := ih (j + 1) (by omega)
        rw [e9] at z9
        exact z9
      · refine pw_aload_n (q := 42) (j := 0) C dX11_costLeft_41 rfl rfl rfl ?_
        refine pw_getf (q := 45) C dX11_costLeft_42 fX11_16 mh_o (by rfl) rfl ?_
        refine pw_bipush_n (q := 47) C 26 dX11_costLeft_45 (by decide +kernel) rfl ?_
        refine pw_iconst_n (q := 48) C 4 dX11_costLeft_47 (by decide +kernel) rfl ?_
        refine pw_iload_n (q := 49) (j := 3) C dX11_costLeft_48 rfl rfl rfl ?_
        refine pw_imul_n (q := 50) C dX11_costLeft_49 rfl ?_
        refine pw_iadd_n (q := 51) C dX11_costLeft_50 rfl ?_
        refine pw_ipg (q := 52) C dX11_costLeft_51 mh_P (by omega) (by omega) rfl ?_
        refine pw_goto (q := 0) 56 C dX11_costLeft_52 (by decide) ?_
        refine pw_istore_n (q := 57) (j := 2) C dX11_costLeft_56 rfl rfl (by decide) rfl ?_
        refine pw_iinc_n (q := 60) C 1 dX11_costLeft_57 rfl (by decide +kernel) rfl (by decide) rfl ?_
        refine pw_goto (q := 0) 15 C dX11_costLeft_60 (by decide) ?_
        have e9 : minT (sP S) (j + 1) = _ := if_pos (by omega)
        have z9 := ih (j + 1) (by omega)
        rw [e9] at z9
        exact z9
  exact loop (sP S 6) 0 (by omega)
set_option maxHeartbeats 200000 in
set_option maxRecDepth 100000 in
theorem m_workOf {M : PH} {m rf n sp ft ac : Nat} {T R P Q D K B L : Nat → Nat} (hI : Inv P) (h9 : ∀ j, j < P 5 → L j ≤ 9) {w : Nat} (hw : w ≤ 12) : Run iX11_workOf [.ref m, .int (nI w)] (mh M m rf n sp ft ac T R P Q D K B L) 0 0 (RV (.int (nI (sumN L (P 5) - sumN (runL (facF P) (P 5) 12 L w) (P 5)))) (fun M1 => M1 = mh M m rf n sp ft ac T R P Q D K B ((runL (facF P) (P 5) 12 L w)))) := by
  have hb := hI.b
  refine Run.of (l0 := [some (.ref m), some (.int (nI w)), none, none, none]) (by decide +kernel) (Nat.le_of_ble_eq_true rfl) (by rfl) (fun Γ G C => ?_)
  refine pw_iload_n (q := 1) (j := 1) C dX11_workOf_0 rfl rfl rfl ?_
  refine pw_istore_n (q := 2) (j := 2) C dX11_workOf_1 rfl rfl (by decide) rfl ?_
  refine pw_iconst_n (q := 3) C 0 dX11_workOf_2 (by decide +kernel) rfl ?_
  refine pw_istore_n (q := 4) (j := 3) C dX11_workOf_3 rfl rfl (by decide) rfl ?_
  refine pw_iconst_n (q := 5) C 0 dX11_workOf_4 (by decide +kernel) rfl ?_
  refine pw_istore (q := 7) C dX11_workOf_5 rfl (by decide) rfl ?_
  have loop : ∀ (d c left : Nat), P 5 + left ≤ c + d → c ≤ P 5 → ∀ (L1 : Nat → Nat) (k : Nat), left ≤ k → left ≤ 12 → (∀ j, j < P 5 → L1 j ≤ 9) → (∀ j, j < c → ¬ (0 < L1 j ∧ facF P j ≤ left)) → sumN L1 (P 5) ≤ sumN L (P 5) → runL (facF P) (P 5) k L1 left = (runL (facF P) (P 5) 12 L w) → PW Γ G (ZJ Γ G 0 0 (RV (.int (nI (sumN L (P 5) - sumN (runL (facF P) (P 5) 12 L w) (P 5)))) (fun M1 => M1 = mh M m rf n sp ft ac T R P Q D K B ((runL (facF P) (P 5) 12 L w))))) 7 [some (.ref m), some (.int (nI w)), some (.int (nI left)), some (.int (nI (sumN L (P 5) - sumN L1 (P 5)))), some (.int (nI c))] [] (mh M m rf n sp ft ac T R P Q D K B L1) 0 0 := by
    intro d
    induction d with
    | zero =>
      intro c left hd
      intro hc L1 k hk h12 h9 hno hs he
      have hl : ∀ j, j < P 5 → facF P j = P (8 + 3 * j + 1) := fun j hj => rfl
      refine pw_iload (q := 9) C dX11_workOf_7 rfl rfl ?_
      refine pw_aload_n (q := 10) (j := 0) C dX11_workOf_9 rfl rfl rfl ?_
      refine pw_getf (q := 13) C dX11_workOf_10 fX11_16 mh_o (by rfl) rfl ?_
      refine pw_iconst_n (q := 14) C 5 dX11_workOf_13 (by decide +kernel) rfl ?_
      refine pw_ipg (q := 15) C dX11_workOf_14 mh_P (by omega) (by omega) rfl ?_
      refine pw_icmp_ge_n (q := 18) 76 C dX11_workOf_15 (by decide) rfl (by omega) (by omega) (fun g15 => ?_) (fun g15 => absurd g15 (by omega))
      refine pw_iload_n (q := 77) (j := 3) C dX11_workOf_76 rfl rfl rfl ?_
      exact pw_iret C dX11_workOf_77 rfl ⟨by omega, by omega⟩ (RV.mk (vnI (by rw [← he, runL_no (by rw [nextC, fst_none (fun j hj => hno j (by omega))]; exact Nat.lt_irrefl _)])) (by rw [← he, runL_no (by rw [nextC, fst_none (fun j hj => hno j (by omega))]; exact Nat.lt_irrefl _)]))
    | succ d ih =>
      intro c left hd
      intro hc L1 k hk h12 h9 hno hs he
      have hl : ∀ j, j < P 5 → facF P j = P (8 + 3 * j + 1) := fun j hj => rfl
      refine pw_iload (q := 9) C dX11_workOf_7 rfl rfl ?_
      refine pw_aload_n (q := 10) (j := 0) C dX11_workOf_9 rfl rfl rfl ?_
      refine pw_getf (q := 13) C dX11_workOf_10 fX11_16 mh_o (by rfl) rfl ?_
      refine pw_iconst_n (q := 14) C 5 dX11_workOf_13 (by decide +kernel) rfl ?_
      refine pw_ipg (q := 15) C dX11_workOf_14 mh_P (by omega) (by omega) rfl ?_
      refine pw_icmp_ge_n (q := 18) 76 C dX11_workOf_15 (by decide) rfl (by omega) (by omega) (fun g15 => ?_) (fun g15 => ?_)
      · refine pw_iload_n (q := 77) (j := 3) C dX11_workOf_76 rfl rfl rfl ?_
        exact pw_iret C dX11_workOf_77 rfl ⟨by omega, by omega⟩ (RV.mk (vnI (by rw [← he, runL_no (by rw [nextC, fst_none (fun j hj => hno j (by omega))]; exact Nat.lt_irrefl _)])) (by rw [← he, runL_no (by rw [nextC, fst_none (fun j hj => hno j (by omega))]; exact Nat.lt_irrefl _)]))
      · have q9 := h9 c (by omega)
        have q4 := hI.c (show c < P 5 by omega)
        refine pw_aload_n (q := 19) (j := 0) C dX11_workOf_18 rfl rfl rfl ?_
        refine pw_getf (q := 22) C dX11_workOf_19 fX11_32 mh_o (by rfl) rfl ?_
        refine pw_iload (q := 24) C dX11_workOf_22 rfl rfl ?_
        refine pw_ipg (q := 25) C dX11_workOf_24 mh_L (by omega) (by omega) rfl ?_
        refine pw_if_le_n (q := 28) 70 C dX11_workOf_25 (by decide) rfl (by omega) (fun g25 => ?_) (fun g25 => ?_)
        · refine pw_iinc_n (q := 73) C 1 dX11_workOf_70 rfl (by decide +kernel) rfl (by decide) rfl ?_
          refine pw_goto (q := 0) 7 C dX11_workOf_73 (by decide) ?_
          exact ih (c + 1) left (by omega) (by omega) L1 k hk h12 h9 (fun j hj => (Nat.lt_or_eq_of_le (Nat.le_of_lt_succ hj)).elim (hno j) (fun e q => by rw [e] at q; have q2 := hl c (by omega); omega)) hs he
        · refine pw_aload_n (q := 29) (j := 0) C dX11_workOf_28 rfl rfl rfl ?_
          refine pw_getf (q := 32) C dX11_workOf_29 fX11_16 mh_o (by rfl) rfl ?_
          refine pw_iload (q := 34) C dX11_workOf_32 rfl rfl ?_
          refine pw_rd (q := 37) (cr_s (j := iX11_facesOf) C dX11_workOf_34 lX11_51 mX11_facesOf (ro_mk (by decide) (by decide))  (m_faces mh_P (by omega)) rfl rfl (Nat.le_of_ble_eq_true rfl) ⟨by omega, by omega⟩) rfl ?_
          refine pw_iload_n (q := 38) (j := 2) C dX11_workOf_37 rfl rfl rfl ?_
          refine pw_icmp_gt_n (q := 41) 70 C dX11_workOf_38 (by decide) rfl (by omega) (by omega) (fun g38 => ?_) (fun g38 => ?_)
          · refine pw_iinc_n (q := 73) C 1 dX11_workOf_70 rfl (by decide +kernel) rfl (by decide) rfl ?_
            refine pw_goto (q := 0) 7 C dX11_workOf_73 (by decide) ?_
            exact ih (c + 1) left (by omega) (by omega) L1 k hk h12 h9 (fun j hj => (Nat.lt_or_eq_of_le (Nat.le_of_lt_succ hj)).elim (hno j) (fun e q => by rw [e] at q; have q2 := hl c (by omega); omega)) hs he
          · refine pw_iload_n (q := 42) (j := 2) C dX11_workOf_41 rfl rfl rfl ?_
            refine pw_aload_n (q := 43) (j := 0) C dX11_workOf_42 rfl rfl rfl ?_
            refine pw_getf (q := 46) C dX11_workOf_43 fX11_16 mh_o (by rfl) rfl ?_
            refine pw_iload (q := 48) C dX11_workOf_46 rfl rfl ?_
            refine pw_rd (q := 51) (cr_s (j := iX11_facesOf) C dX11_workOf_48 lX11_51 mX11_facesOf (ro_mk (by decide) (by decide))  (m_faces mh_P (by omega)) rfl rfl (Nat.le_of_ble_eq_true rfl) ⟨by omega, by omega⟩) rfl ?_
            refine pw_isub_n (q := 52) C dX11_workOf_51 (by omega) rfl ?_
            refine pw_istore_n (q := 53) (j := 2) C dX11_workOf_52 rfl rfl (by decide) rfl ?_
            refine pw_aload_n (q := 54) (j := 0) C dX11_workOf_53 rfl rfl rfl ?_
            refine pw_getf (q := 57) C dX11_workOf_54 fX11_32 mh_o (by rfl) rfl ?_
            refine pw_iload (q := 59) C dX11_workOf_57 rfl rfl ?_
            refine pw_dup2 (q := 60) C dX11_workOf_59 rfl rfl rfl ?_
            refine pw_ipg (q := 61) C dX11_workOf_60 mh_L (by omega) (by omega) rfl ?_
            refine pw_iconst_n (q := 62) C 1 dX11_workOf_61 (by decide +kernel) rfl ?_
            refine pw_isub_n (q := 63) C dX11_workOf_62 (by omega) rfl ?_
            refine pw_ipgst (q := 64) C dX11_workOf_63 mh_L (by omega) (by omega) rfl ?_
            rw [mh_s_L]
            refine pw_iinc_n (q := 67) C 1 dX11_workOf_64 rfl (by decide +kernel) rfl (by decide) rfl ?_
            refine pw_goto (q := 0) 7 C dX11_workOf_67 (by decide) ?_
            have e1 : nextC (facF P) (P 5) L1 left = c := fst_eq (by omega) ⟨by omega, by show P (8 + 3 * c + 1) ≤ left; omega⟩ hno
            obtain ⟨k1, rfl⟩ : ∃ k1, k = k1 + 1 := ⟨k - 1, by omega⟩
            have e2 := sumN_upd (L := L1) (c := c) (by omega) (n := P 5) (by omega)
            rw [show sumN L (P 5) - sumN L1 (P 5) + 1 = sumN L (P 5) - sumN (updN L1 c (L1 c - 1)) (P 5) by omega]
            exact ih c (left - P (8 + 3 * c + 1)) (by omega) (by omega) _ k1 (by omega) (by omega) (fun j hj => Nat.le_trans upd1_le (h9 j hj)) (fun j hj q => hno j hj ⟨Nat.lt_of_lt_of_le q.1 upd1_le, Nat.le_trans q.2 (Nat.sub_le _ _)⟩) (by omega) (by rw [← he, runL, e1, if_pos (by omega)])
  have l9 := loop (P 5 + w) 0 w (by omega) (by omega) L 12 hw hw h9 (fun j hj => absurd hj (Nat.not_lt_zero j)) (Nat.le_refl _) rfl
  rw [Nat.sub_self] at l9
  exact l9
theorem dayL_9 {P : Nat → Nat} (hI : Inv P) {c : Nat} (hc : c < P 5) : ∀ d, dayL P (lackL P) d c ≤ 9
  | 0 => by
    show lackL P c ≤ 9
    rw [lackL, if_pos hc]
    exact lacks_9 hI hc
  | d + 1 => Nat.le_trans masL_le (dayL_9 hI hc d)
theorem dayL_s {P : Nat → Nat} (hI : Inv P) (d : Nat) : dayL P (lackL P) (d + 1) = masL (facF P) (P 5) (wkW P (if d = 0 then 2 else 1)) (P 6) (dayL P (lackL P) d) := by
  rw [dayL]
  have hb := hI.b
  exact masL_0 (fun c hc => (hI.c hc).2.2.1) (fun k hk => if_neg (by omega)) hb.2.2.2.1
theorem daysP_at {P : Nat → Nat} {d : Nat} (hd : d < 100) (h : sumN (dayL P (lackL P) d) (P 5) = 0) (hno : ∀ e, e < d → ¬ sumN (dayL P (lackL P) e) (P 5) = 0) : daysP P = nI d := by
  unfold daysP
  rw [fst_eq (k := d) hd (sumN_0.mp h) (fun j hj q => hno j hj (sumN_0.mpr q))]
  exact if_pos hd
theorem daysP_no {P : Nat → Nat} (hno : ∀ e, e < 100 → ¬ sumN (dayL P (lackL P) e) (P 5) = 0) : daysP P = -9 := by
  unfold daysP
  rw [fst_none (fun j hj q => hno j hj (sumN_0.mpr q))]
  exact if_neg (Nat.lt_irrefl _)
theorem sumN_54 {L : Nat → Nat} {n : Nat} (hn : n ≤ 6) (h : ∀ j, j < n → L j ≤ 9) : sumN L n ≤ 54 := by
  have := sumN_le (f := L) (b := 9) (n := n) h
  omega
set_option maxHeartbeats 200000 in
set_option maxRecDepth 100000 in
theorem c_daysLeft {M : PH} {m rf D0 : Nat} {S : St} (hM : RepM M m rf S) (hB : MB S) (hS : SInv D0 S) : Run iX11_daysLeft [.ref m] M 0 0 (QM M m ((0, daysP (sP S), S))) := by
  obtain ⟨M0, sp, ft, R, Q, D, K, L, rfl, hD, hK, hF⟩ := hM
  have hI := hS.1.1
  have hb := hI.b
  obtain ⟨hB1, hB2, hB3, hB4⟩ := id hB
  refine Run.of (l0 := [some (.ref m), none, none, none]) (by decide +kernel) (Nat.le_of_ble_eq_true rfl) (by rfl) (fun Γ G C => ?_)
  refine pw_aload_n (q := 1) (j := 0) C dX11_daysLeft_0 rfl rfl rfl ?_
  refine pw_iconst_n (q := 2) C 0 dX11_daysLeft_1 (by decide +kernel) rfl ?_
  refine pw_put (q := 5) C dX11_daysLeft_2 fX11_35 mh_o (by rfl) (by rfl) (Nat.le_of_ble_eq_true rfl) rfl ?_
  rw [mh_s_rf]
  refine pw_aload_n (q := 6) (j := 0) C dX11_daysLeft_5 rfl rfl rfl ?_
  refine pw_val (q := 9) (cr_v (j := iX11_layLacking) C dX11_daysLeft_6 lX11_175 mX11_layLacking (ro_mk (by decide) (by decide)) mh_o rfl (m_lay hI) rfl rfl (Nat.le_of_ble_eq_true rfl) ⟨by omega, by omega⟩) rfl (fun M6 e6 => ?_)
  subst e6
  refine pw_istore_n (q := 10) (j := 1) C dX11_daysLeft_9 rfl rfl (by decide) rfl ?_
  refine pw_iload_n (q := 11) (j := 1) C dX11_daysLeft_10 rfl rfl rfl ?_
  have qs := sumL_le hI
  have e0 : sumN (dayL (sP S) (lackL (sP S)) 0) (sP S 5) = sumN (lacks (sP S)) (sP S 5) := sumN_cong (fun c hc => if_pos hc)
  refine pw_if_ne_n (q := 14) 16 C dX11_daysLeft_11 (by decide) rfl (by omega) (fun g11 => ?_) (fun g11 => ?_)
  · refine pw_iconst_n (q := 17) C 1 dX11_daysLeft_16 (by decide +kernel) rfl ?_
    refine pw_istore_n (q := 18) (j := 2) C dX11_daysLeft_17 rfl rfl (by decide) rfl ?_
    have loop : ∀ (d day : Nat), day + d = 100 → 1 ≤ day → ∀ (L1 : Nat → Nat) (x3 : Option Value), (∀ c, c < (sP S 5) → L1 c = dayL (sP S) (lackL (sP S)) (day - 1) c) → (∀ e, e < day → ¬ sumN (dayL (sP S) (lackL (sP S)) e) (sP S 5) = 0) → PW Γ G (ZJ Γ G 0 0 (QM (mh M0 m rf (sN S) sp ft (sM S) (sT S) R (sP S) Q D K (sB S) L) m ((0, daysP (sP S), S)))) 18 [some (.ref m), some (.int (nI (sumN L1 (sP S 5)))), some (.int (nI day)), x3] [] (mh M0 m 0 (sN S) sp ft (sM S) (sT S) R (sP S) Q D K (sB S) L1) 0 0 := by
      intro d
      induction d with
      | zero =>
        intro day hd
        intro h1 L1 x3 hL0 hno
        refine pw_iload_n (q := 19) (j := 2) C dX11_daysLeft_18 rfl rfl rfl ?_
        refine pw_bipush_n (q := 21) C 99 dX11_daysLeft_19 (by decide +kernel) rfl ?_
        refine pw_icmp_gt_n (q := 24) 84 C dX11_daysLeft_21 (by decide) rfl (by omega) (by omega) (fun g21 => ?_) (fun g21 => absurd g21 (by omega))
        refine pw_bipush (q := 86) (v := (-9)) C dX11_daysLeft_84 (by decide +kernel) rfl ?_
        exact pw_iret C dX11_daysLeft_86 rfl ⟨by omega, by omega⟩ ((QM.ok (by rw [daysP_no (fun e he => hno e (by omega))]) (RepM.mk hD hK hF) same_mh))
      | succ d ih =>
        intro day hd
        intro h1 L1 x3 hL0 hno
        refine pw_iload_n (q := 19) (j := 2) C dX11_daysLeft_18 rfl rfl rfl ?_
        refine pw_bipush_n (q := 21) C 99 dX11_daysLeft_19 (by decide +kernel) rfl ?_
        refine pw_icmp_gt_n (q := 24) 84 C dX11_daysLeft_21 (by decide) rfl (by omega) (by omega) (fun g21 => absurd g21 (by omega)) (fun g21 => ?_)
        refine pw_iconst_n (q := 25) C 0 dX11_daysLeft_24 (by decide +kernel) rfl ?_
        refine pw_istore_n (q := 26) (j := 3) C dX11_daysLeft_25 rfl rfl (by decide) rfl ?_
        have oih := ih
        clear ih
        have loop2 : ∀ (d j : Nat), j + d = sP S 6 → ∀ L1 : Nat → Nat, (∀ c, c < (sP S 5) → L1 c = masL (facF (sP S)) (sP S 5) (wkW (sP S) (if day - 1 = 0 then 2 else 1)) j (dayL (sP S) (lackL (sP S)) (day - 1)) c) → PW Γ G (ZJ Γ G 0 0 (QM (mh M0 m rf (sN S) sp ft (sM S) (sT S) R (sP S) Q D K (sB S) L) m ((0, daysP (sP S), S)))) 26 [some (.ref m), some (.int (nI (sumN L1 (sP S 5)))), some (.int (nI day)), some (.int (nI j))] [] (mh M0 m 0 (sN S) sp ft (sM S) (sT S) R (sP S) Q D K (sB S) L1) 0 0 := by
          intro d
          induction d with
          | zero =>
            intro j hd
            intro L1 hL1
            have h9 : ∀ c, c < (sP S 5) → L1 c ≤ 9 := fun c hc => by rw [hL1 c hc]; exact Nat.le_trans masL_le (dayL_9 hI hc _)
            have h54 := sumN_54 (by omega) h9
            refine pw_iload_n (q := 27) (j := 3) C dX11_daysLeft_26 rfl rfl rfl ?_
            refine pw_aload_n (q := 28) (j := 0) C dX11_daysLeft_27 rfl rfl rfl ?_
            refine pw_getf (q := 31) C dX11_daysLeft_28 fX11_16 mh_o (by rfl) rfl ?_
            refine pw_bipush_n (q := 33) C 6 dX11_daysLeft_31 (by decide +kernel) rfl ?_
            refine pw_ipg (q := 34) C dX11_daysLeft_33 mh_P (by omega) (by omega) rfl ?_
            refine pw_icmp_ge_n (q := 37) 72 C dX11_daysLeft_34 (by decide) rfl (by omega) (by omega) (fun g34 => ?_) (fun g34 => absurd g34 (by omega))
            have eL : ∀ c, c < (sP S 5) → L1 c = dayL (sP S) (lackL (sP S)) day c := fun c hc => by rw [hL1 c hc, show j = sP S 6 by omega, ← dayL_s hI, show day - 1 + 1 = day by omega]
            have es : sumN L1 (sP S 5) = sumN (dayL (sP S) (lackL (sP S)) day) (sP S 5) := sumN_cong eL
            refine pw_iload_n (q := 73) (j := 1) C dX11_daysLeft_72 rfl rfl rfl ?_
            refine pw_if_ne_n (q := 76) 78 C dX11_daysLeft_73 (by decide) rfl (by omega) (fun g73 => ?_) (fun g73 => ?_)
            · refine pw_iinc_n (q := 81) C 1 dX11_daysLeft_78 rfl (by decide +kernel) rfl (by decide) rfl ?_
              refine pw_goto (q := 0) 18 C dX11_daysLeft_81 (by decide) ?_
              exact oih (day + 1) (by omega) (by omega) L1 _ (fun c hc => eL c hc) (fun e he => (Nat.lt_or_eq_of_le (Nat.le_of_lt_succ he)).elim (hno e) (fun q => by rw [q, ← es]; exact g73))
            · refine pw_iload_n (q := 77) (j := 2) C dX11_daysLeft_76 rfl rfl rfl ?_
              exact pw_iret C dX11_daysLeft_77 rfl ⟨by omega, by omega⟩ ((QM.ok (by rw [daysP_at (by omega) (by rw [← es]; exact g73) hno]) (RepM.mk hD hK hF) same_mh))
          | succ d ih =>
            intro j hd
            intro L1 hL1
            have h9 : ∀ c, c < (sP S 5) → L1 c ≤ 9 := fun c hc => by rw [hL1 c hc]; exact Nat.le_trans masL_le (dayL_9 hI hc _)
            have h54 := sumN_54 (by omega) h9
            refine pw_iload_n (q := 27) (j := 3) C dX11_daysLeft_26 rfl rfl rfl ?_
            refine pw_aload_n (q := 28) (j := 0) C dX11_daysLeft_27 rfl rfl rfl ?_
            refine pw_getf (q := 31) C dX11_daysLeft_28 fX11_16 mh_o (by rfl) rfl ?_
            refine pw_bipush_n (q := 33) C 6 dX11_daysLeft_31 (by decide +kernel) rfl ?_
            refine pw_ipg (q := 34) C dX11_daysLeft_33 mh_P (by omega) (by omega) rfl ?_
            refine pw_icmp_ge_n (q := 37) 72 C dX11_daysLeft_34 (by decide) rfl (by omega) (by omega) (fun g34 => absurd g34 (by omega)) (fun g34 => ?_)
            have q4 := hI.m (show j < sP S 6 by omega)
            refine pw_iload_n (q := 38) (j := 1) C dX11_daysLeft_37 rfl rfl rfl ?_
            refine pw_aload_n (q := 39) (j := 0) C dX11_daysLeft_38 rfl rfl rfl ?_
            refine pw_aload_n (q := 40) (j := 0) C dX11_daysLeft_39 rfl rfl rfl ?_
            refine pw_getf (q := 43) C dX11_daysLeft_40 fX11_16 mh_o (by rfl) rfl ?_
            refine pw_bipush_n (q := 45) C 26 dX11_daysLeft_43 (by decide +kernel) rfl ?_
            refine pw_iconst_n (q := 46) C 4 dX11_daysLeft_45 (by decide +kernel) rfl ?_
            refine pw_iload_n (q := 47) (j := 3) C dX11_daysLeft_46 rfl rfl rfl ?_
            refine pw_imul_n (q := 48) C dX11_daysLeft_47 rfl ?_
            refine pw_iadd_n (q := 49) C dX11_daysLeft_48 rfl ?_
            refine pw_iload_n (q := 50) (j := 2) C dX11_daysLeft_49 rfl rfl rfl ?_
            refine pw_iconst_n (q := 51) C 1 dX11_daysLeft_50 (by decide +kernel) rfl ?_
            refine pw_icmp_ne_n (q := 54) 58 C dX11_daysLeft_51 (by decide) rfl (by omega) (by omega) (fun g51 => ?_) (fun g51 => ?_)
            · refine pw_iconst_n (q := 59) C 1 dX11_daysLeft_58 (by decide +kernel) rfl ?_
              refine pw_iadd_n (q := 60) C dX11_daysLeft_59 rfl ?_
              refine pw_ipg (q := 61) C dX11_daysLeft_60 mh_P (by omega) (by omega) rfl ?_
              refine pw_val (q := 64) (cr_v (j := iX11_workOf) C dX11_daysLeft_61 lX11_179 mX11_workOf (ro_mk (by decide) (by decide)) mh_o rfl (m_workOf hI h9 (by omega)) rfl rfl (Nat.le_of_ble_eq_true rfl) ⟨by omega, by omega⟩) rfl (fun M61 e61 => ?_)
              subst e61
              refine pw_isub_n (q := 65) C dX11_daysLeft_64 (Nat.sub_le _ _) rfl ?_
              refine pw_istore_n (q := 66) (j := 1) C dX11_daysLeft_65 rfl rfl (by decide) rfl ?_
              refine pw_iinc_n (q := 69) C 1 dX11_daysLeft_66 rfl (by decide +kernel) rfl (by decide) rfl ?_
              refine pw_goto (q := 0) 26 C dX11_daysLeft_69 (by decide) ?_
              have e8 := sumN_mono (n := (sP S 5)) (fun c _ => @runL_le (facF (sP S)) (sP S 5) 12 L1 (sP S (26 + 4 * j + 1)) c)
              have ew : (wkW (sP S) (if day - 1 = 0 then 2 else 1)) j = sP S (26 + 4 * j + 1) := by rw [if_neg (by omega), wkW, if_pos (by omega)]
              rw [Nat.sub_sub_self e8]
              exact ih (j + 1) (by omega) _ (fun c hc => by rw [masL, ew]; exact runL_cong hL1 c hc)
            · refine pw_iconst_n (q := 55) C 2 dX11_daysLeft_54 (by decide +kernel) rfl ?_
              refine pw_goto (q := 0) 59 C dX11_daysLeft_55 (by decide) ?_
              refine pw_iadd_n (q := 60) C dX11_daysLeft_59 rfl ?_
              refine pw_ipg (q := 61) C dX11_daysLeft_60 mh_P (by omega) (by omega) rfl ?_
              refine pw_val (q := 64) (cr_v (j := iX11_workOf) C dX11_daysLeft_61 lX11_179 mX11_workOf (ro_mk (by decide) (by decide)) mh_o rfl (m_workOf hI h9 (by omega)) rfl rfl (Nat.le_of_ble_eq_true rfl) ⟨by omega, by omega⟩) rfl (fun M61 e61 => ?_)
              subst e61
              refine pw_isub_n (q := 65) C dX11_daysLeft_64 (Nat.sub_le _ _) rfl ?_
              refine pw_istore_n (q := 66) (j := 1) C dX11_daysLeft_65 rfl rfl (by decide) rfl ?_
              refine pw_iinc_n (q := 69) C 1 dX11_daysLeft_66 rfl (by decide +kernel) rfl (by decide) rfl ?_
              refine pw_goto (q := 0) 26 C dX11_daysLeft_69 (by decide) ?_
              have e8 := sumN_mono (n := (sP S 5)) (fun c _ => @runL_le (facF (sP S)) (sP S 5) 12 L1 (sP S (26 + 4 * j + 2)) c)
              have ew : (wkW (sP S) (if day - 1 = 0 then 2 else 1)) j = sP S (26 + 4 * j + 2) := by rw [if_pos (by omega), wkW, if_pos (by omega)]
              rw [Nat.sub_sub_self e8]
              exact ih (j + 1) (by omega) _ (fun c hc => by rw [masL, ew]; exact runL_cong hL1 c hc)
        exact loop2 (sP S 6) 0 (by omega) L1 (fun c hc => hL0 c hc)
    rw [show sumN (lacks (sP S)) (sP S 5) = sumN (layA (sP S) L (sP S 5)) (sP S 5) from sumN_cong (fun c hc => (layA_in hc).symm)]
    exact loop 99 1 (by omega) (by omega) (layA (sP S) L (sP S 5)) _ (fun c hc => (layA_in hc).trans (if_pos hc).symm) (fun e he => by rw [show e = 0 by omega, e0]; exact g11)
  · refine pw_iconst_n (q := 15) C 0 dX11_daysLeft_14 (by decide +kernel) rfl ?_
    exact pw_iret C dX11_daysLeft_15 rfl ⟨by omega, by omega⟩ ((QM.ok (by rw [daysP_at (d := 0) (by omega) (by rw [e0]; exact g11) (fun e he => absurd he (Nat.not_lt_zero e))]) (RepM.mk hD hK hF) same_mh))
