/-! The reference's actions. -/
theorem pw_zpgst {Γ : CX} {G : GC} {Z : State → Prop} {i : MI} {T : List ExceptionTableEntry} {mc ms pc q k n : Nat} {ls : LL} {st : List Value} {M : PH} {a z : Nat} {P : Nat → Nat} {j v : Nat} (C : Cx Γ G i T mc ms) (d : decode i.2.1 pc = .ok (.bastore, 1)) (hM0 : M.2 a = some (.inl (2, z, .inl (pg P)))) (hj : j < z) (hz : z < 2147483648) (hv : v ≤ 1) (hq : pc + 1 = q) (K : PW Γ G Z q ls st (hput M a (.inl (2, z, .inl (pg (updN P j v))))) k n) : PW Γ G Z pc ls (.int (nI v) :: .int (nI j) :: .ref a :: st) M k n := by
  have e : vp_nar .boolean (nI v) = nI v := by
    have : v = 0 ∨ v = 1 := by omega
    rcases this with rfl | rfl <;> decide +kernel
  exact pw_zast C d hM0 (vp_in_n hj hz) hq (by rw [nI_clamp (Nat.lt_trans hj hz), e, upd_pg]; exact K)
def shf (D : Nat → Nat) (i : Nat) : Nat → Nat := fun k => if k < i then D (k + 194) else D k
theorem shf_0 (D : Nat → Nat) : shf D 0 = D := funext fun k => if_neg (Nat.not_lt_zero k)
theorem shf_succ (D : Nat → Nat) (i : Nat) : updN (shf D i) i (D (i + 194)) = shf D (i + 1) := by
  funext k
  unfold updN shf
  by_cases h : k = i
  · subst h
    rw [if_pos rfl, if_pos (by omega)]
  · rw [if_neg h]
    by_cases h2 : k < i
    · rw [if_pos h2, if_pos (by omega)]
    · rw [if_neg h2, if_neg (by omega)]
def noteD (ac : Nat) (D P : Nat → Nat) : Nat → Nat := if ac = 14 then cpy P 0 (shf D 2522) (194 * 13) 194 else cpy P 0 D (194 * ac) 194
theorem noteD_rel {ac : Nat} {D P : Nat → Nat} {H : Nat → Nat → Nat} (hac : ac ≤ 14) (hD : ∀ j, j < ac → ∀ k, k < 194 → D (194 * j + k) = H j k) : ∀ j, j < min (ac + 1) 14 → ∀ k, k < 194 → noteD ac D P (194 * j + k) = noteH ac H P j k := by
  intro j hj k hk
  unfold noteD noteH
  by_cases h : ac = 14
  · rw [if_pos h, if_neg (by omega)]
    unfold cpy
    by_cases h2 : j = 13
    · rw [if_pos (by omega), if_pos h2, show 0 + (194 * j + k - 194 * 13) = k by omega]
    · rw [if_neg (by omega), if_neg h2]
      unfold shf
      rw [if_pos (by omega), show 194 * j + k + 194 = 194 * (j + 1) + k by omega]
      exact hD (j + 1) (by omega) k hk
  · rw [if_neg h, if_pos (by omega)]
    unfold cpy
    by_cases h2 : j = ac
    · rw [if_pos (by omega), if_pos h2, show 0 + (194 * j + k - 194 * ac) = k by omega]
    · rw [if_neg (by omega), if_neg h2]
      exact hD j (by omega) k hk
theorem kept_rel {B K P : Nat → Nat} {G : Nat → Nat → Nat} {s : Nat} (hK : ∀ i, i < 2 → B i = 1 → ∀ k, k < 194 → K (194 * i + k) = G i k) (hs : s ≤ 1) : ∀ i, i < 2 → updN B s 1 i = 1 → ∀ k, k < 194 → cpy P 0 K (194 * s) 194 (194 * i + k) = (if i = s then P else G i) k := by
  intro i hi hb k hk
  unfold cpy
  by_cases h : i = s
  · rw [if_pos (by omega), if_pos h, show 0 + (194 * i + k - 194 * s) = k by omega]
  · rw [if_neg (by omega), if_neg h]
    rw [updN_ne h] at hb
    exact hK i hi hb k hk
theorem upd_clr (B : Nat → Nat) : updN (updN B 0 0) 1 0 = clrB B := by
  funext k
  unfold updN clrB
  by_cases h : k = 1
  · subst h; rfl
  · by_cases h2 : k = 0
    · subst h2; rfl
    · rw [if_neg h, if_neg h2, if_neg (by omega)]
set_option maxHeartbeats 200000 in
set_option maxRecDepth 100000 in
theorem m_note {M : PH} {m rf n sp ft ac : Nat} {T R P Q D K B L : Nat → Nat} (hac : ac ≤ 14) : Run iX11_note [.ref m] (mh M m rf n sp ft ac T R P Q D K B L) 0 0 (RN (fun M1 => M1 = mh M m rf n sp ft ((min (ac + 1) 14)) T R P Q ((noteD ac D P)) K B L)) := by
  refine Run.of (l0 := [some (.ref m), none]) (by decide +kernel) (Nat.le_of_ble_eq_true rfl) (by rfl) (fun Γ G C => ?_)
  refine pw_aload_n (q := 1) (j := 0) C dX11_note_0 rfl rfl rfl ?_
  refine pw_getf (q := 4) C dX11_note_1 fX11_114 mh_o (by rfl) rfl ?_
  refine pw_bipush_n (q := 6) C 14 dX11_note_4 (by decide +kernel) rfl ?_
  refine pw_icmp_ne_n (q := 9) 50 C dX11_note_6 (by decide) rfl (by omega) (by omega) (fun g6 => ?_) (fun g6 => ?_)
  · refine pw_aload_n (q := 51) (j := 0) C dX11_note_50 rfl rfl rfl ?_
    refine pw_getf (q := 54) C dX11_note_51 fX11_16 mh_o (by rfl) rfl ?_
    refine pw_iconst_n (q := 55) C 0 dX11_note_54 (by decide +kernel) rfl ?_
    refine pw_aload_n (q := 56) (j := 0) C dX11_note_55 rfl rfl rfl ?_
    refine pw_getf (q := 59) C dX11_note_56 fX11_22 mh_o (by rfl) rfl ?_
    refine pw_sipush_n (q := 62) C 194 dX11_note_59 (by decide +kernel) rfl ?_
    refine pw_aload_n (q := 63) (j := 0) C dX11_note_62 rfl rfl rfl ?_
    refine pw_getf (q := 66) C dX11_note_63 fX11_114 mh_o (by rfl) rfl ?_
    refine pw_imul_n (q := 67) C dX11_note_66 rfl ?_
    refine pw_void (q := 70) (cr_s (j := iX11_copyPage) C dX11_note_67 lX11_110 mX11_copyPage (ro_mk (by decide) (by decide))  (m_copy mh_P mh_D (by omega) (by decide) (by omega) (by decide) (by decide)) rfl rfl (Nat.le_of_ble_eq_true rfl) ⟨by omega, by omega⟩) rfl (fun M67 e67 => ?_)
    rw [mh_s_D] at e67
    subst e67
    refine pw_aload_n (q := 71) (j := 0) C dX11_note_70 rfl rfl rfl ?_
    refine pw_dup (q := 72) C dX11_note_71 rfl rfl ?_
    refine pw_getf (q := 75) C dX11_note_72 fX11_114 mh_o (by rfl) rfl ?_
    refine pw_iconst_n (q := 76) C 1 dX11_note_75 (by decide +kernel) rfl ?_
    refine pw_iadd_n (q := 77) C dX11_note_76 rfl ?_
    refine pw_put (q := 80) C dX11_note_77 fX11_114 mh_o (by rfl) (by rfl) (Nat.le_of_ble_eq_true rfl) rfl ?_
    rw [mh_s_ac]
    exact pw_vret C dX11_note_80 rfl ⟨by omega, by omega⟩ (RN.mk (by rw [noteD, if_neg g6, show min (ac + 1) 14 = ac + 1 by omega]))
  · refine pw_iconst_n (q := 10) C 0 dX11_note_9 (by decide +kernel) rfl ?_
    refine pw_istore_n (q := 11) (j := 1) C dX11_note_10 rfl rfl (by decide) rfl ?_
    have h14 : ac = 14 := by omega
    have loop : ∀ (d i : Nat), i + d = 2522 → PW Γ G (ZJ Γ G 0 0 (RN (fun M1 => M1 = mh M m rf n sp ft ((min (ac + 1) 14)) T R P Q ((noteD ac D P)) K B L))) 11 [some (.ref m), some (.int (nI i))] [] (mh M m rf n sp ft ac T R P Q ((shf D i)) K B L) 0 0 := by
      intro d
      induction d with
      | zero =>
        intro i hd
        have e28 : shf D i (i + 194) = D (i + 194) := if_neg (by omega)
        refine pw_iload_n (q := 12) (j := 1) C dX11_note_11 rfl rfl rfl ?_
        refine pw_sipush_n (q := 15) C 2522 dX11_note_12 (by decide +kernel) rfl ?_
        refine pw_icmp_ge_n (q := 18) 40 C dX11_note_15 (by decide) rfl (by omega) (by omega) (fun g15 => ?_) (fun g15 => absurd g15 (by omega))
        refine pw_aload_n (q := 41) (j := 0) C dX11_note_40 rfl rfl rfl ?_
        refine pw_dup (q := 42) C dX11_note_41 rfl rfl ?_
        refine pw_getf (q := 45) C dX11_note_42 fX11_114 mh_o (by rfl) rfl ?_
        refine pw_iconst_n (q := 46) C 1 dX11_note_45 (by decide +kernel) rfl ?_
        refine pw_isub_n (q := 47) C dX11_note_46 (by omega) rfl ?_
        refine pw_put (q := 50) C dX11_note_47 fX11_114 mh_o (by rfl) (by rfl) (Nat.le_of_ble_eq_true rfl) rfl ?_
        rw [mh_s_ac]
        refine pw_aload_n (q := 51) (j := 0) C dX11_note_50 rfl rfl rfl ?_
        refine pw_getf (q := 54) C dX11_note_51 fX11_16 mh_o (by rfl) rfl ?_
        refine pw_iconst_n (q := 55) C 0 dX11_note_54 (by decide +kernel) rfl ?_
        refine pw_aload_n (q := 56) (j := 0) C dX11_note_55 rfl rfl rfl ?_
        refine pw_getf (q := 59) C dX11_note_56 fX11_22 mh_o (by rfl) rfl ?_
        refine pw_sipush_n (q := 62) C 194 dX11_note_59 (by decide +kernel) rfl ?_
        refine pw_aload_n (q := 63) (j := 0) C dX11_note_62 rfl rfl rfl ?_
        refine pw_getf (q := 66) C dX11_note_63 fX11_114 mh_o (by rfl) rfl ?_
        refine pw_imul_n (q := 67) C dX11_note_66 rfl ?_
        refine pw_void (q := 70) (cr_s (j := iX11_copyPage) C dX11_note_67 lX11_110 mX11_copyPage (ro_mk (by decide) (by decide))  (m_copy mh_P mh_D (by omega) (by decide) (by omega) (by decide) (by decide)) rfl rfl (Nat.le_of_ble_eq_true rfl) ⟨by omega, by omega⟩) rfl (fun M67 e67 => ?_)
        rw [mh_s_D] at e67
        subst e67
        refine pw_aload_n (q := 71) (j := 0) C dX11_note_70 rfl rfl rfl ?_
        refine pw_dup (q := 72) C dX11_note_71 rfl rfl ?_
        refine pw_getf (q := 75) C dX11_note_72 fX11_114 mh_o (by rfl) rfl ?_
        refine pw_iconst_n (q := 76) C 1 dX11_note_75 (by decide +kernel) rfl ?_
        refine pw_iadd_n (q := 77) C dX11_note_76 rfl ?_
        refine pw_put (q := 80) C dX11_note_77 fX11_114 mh_o (by rfl) (by rfl) (Nat.le_of_ble_eq_true rfl) rfl ?_
        rw [mh_s_ac]
        exact pw_vret C dX11_note_80 rfl ⟨by omega, by omega⟩ (RN.mk (by rw [noteD, if_pos h14, show i = 2522 by omega, show min (ac + 1) 14 = ac - 1 + 1 by omega, show 194 * 13 = 194 * (ac - 1) by omega]))
      | succ d ih =>
        intro i hd
        have e28 : shf D i (i + 194) = D (i + 194) := if_neg (by omega)
        refine pw_iload_n (q := 12) (j := 1) C dX11_note_11 rfl rfl rfl ?_
        refine pw_sipush_n (q := 15) C 2522 dX11_note_12 (by decide +kernel) rfl ?_
        refine pw_icmp_ge_n (q := 18) 40 C dX11_note_15 (by decide) rfl (by omega) (by omega) (fun g15 => absurd g15 (by omega)) (fun g15 => ?_)
        refine pw_aload_n (q := 19) (j := 0) C dX11_note_18 rfl rfl rfl ?_
        refine pw_getf (q := 22) C dX11_note_19 fX11_22 mh_o (by rfl) rfl ?_
        refine pw_iload_n (q := 23) (j := 1) C dX11_note_22 rfl rfl rfl ?_
        refine pw_aload_n (q := 24) (j := 0) C dX11_note_23 rfl rfl rfl ?_
        refine pw_getf (q := 27) C dX11_note_24 fX11_22 mh_o (by rfl) rfl ?_
        refine pw_iload_n (q := 28) (j := 1) C dX11_note_27 rfl rfl rfl ?_
        refine pw_sipush_n (q := 31) C 194 dX11_note_28 (by decide +kernel) rfl ?_
        refine pw_iadd_n (q := 32) C dX11_note_31 rfl ?_
        refine pw_ipg (q := 33) C dX11_note_32 mh_D (by omega) (by omega) rfl ?_
        rw [e28]
        refine pw_ipgst (q := 34) C dX11_note_33 mh_D (by omega) (by omega) rfl ?_
        rw [mh_s_D]
        refine pw_iinc_n (q := 37) C 1 dX11_note_34 rfl (by decide +kernel) rfl (by decide) rfl ?_
        refine pw_goto (q := 0) 11 C dX11_note_37 (by decide) ?_
        rw [shf_succ]
        exact ih (i + 1) (by omega)
    have l9 := loop 2522 0 (by omega)
    rw [shf_0] at l9
    exact l9
set_option maxHeartbeats 200000 in
set_option maxRecDepth 100000 in
theorem c_addCourse {M : PH} {m rf D0 : Nat} {S : St} (hM : RepM M m rf S) (hB : MB S) (hS : SInv D0 S) (c1 c2 c3 : Int32) : Run iX11_addCourse [.ref m, .int c1, .int c2, .int c3] M 0 0 (QM M m (spAddCourse S c1 c2 c3)) := by
  obtain ⟨M0, sp, ft, R, Q, D, K, L, rfl, hD, hK, hF⟩ := hM
  have hI := hS.1.1
  have hb := hI.b
  obtain ⟨hB1, hB2, hB3, hB4⟩ := id hB
  refine Run.of (l0 := [some (.ref m), some (.int c1), some (.int c2), some (.int c3), none, none]) (by decide +kernel) (Nat.le_of_ble_eq_true rfl) (by rfl) (fun Γ G C => ?_)
  by_cases h1 : inW c1 1 9
  · refine pw_iload_n (q := 1) (j := 1) C dX11_addCourse_0 rfl rfl rfl ?_
    refine pw_i2l (q := 2) C dX11_addCourse_1 rfl ?_
    refine pw_lconst (q := 3) (v := 1) C dX11_addCourse_2 (by decide +kernel) rfl ?_
    refine pw_ldc2 (q := 6) C dX11_addCourse_3 cgX11_145 rfl ?_
    refine pw_rd (q := 9) (cr_s (j := iX11_in) C dX11_addCourse_6 lX11_39 mX11_in (ro_mk (by decide) (by decide))  (rv_t ((inW_l (lo := 1) (hi := 9) (by decide +kernel) (by decide +kernel)).mpr h1) m_in) rfl rfl (Nat.le_of_ble_eq_true rfl) ⟨by omega, by omega⟩) rfl ?_
    refine pw_if_eq_n (q := 12) 40 C dX11_addCourse_9 (by decide) rfl (by omega) (fun g9 => absurd g9 (by decide)) (fun g9 => ?_)
    by_cases h2 : inW c2 1 6
    · refine pw_iload_n (q := 13) (j := 2) C dX11_addCourse_12 rfl rfl rfl ?_
      refine pw_i2l (q := 14) C dX11_addCourse_13 rfl ?_
      refine pw_lconst (q := 15) (v := 1) C dX11_addCourse_14 (by decide +kernel) rfl ?_
      refine pw_ldc2 (q := 18) C dX11_addCourse_15 cgX11_129 rfl ?_
      refine pw_rd (q := 21) (cr_s (j := iX11_in) C dX11_addCourse_18 lX11_39 mX11_in (ro_mk (by decide) (by decide))  (rv_t ((inW_l (lo := 1) (hi := 6) (by decide +kernel) (by decide +kernel)).mpr h2) m_in) rfl rfl (Nat.le_of_ble_eq_true rfl) ⟨by omega, by omega⟩) rfl ?_
      refine pw_if_eq_n (q := 24) 40 C dX11_addCourse_21 (by decide) rfl (by omega) (fun g21 => absurd g21 (by decide)) (fun g21 => ?_)
      by_cases h3 : inW c3 1 9
      · refine pw_iload_n (q := 25) (j := 3) C dX11_addCourse_24 rfl rfl rfl ?_
        refine pw_i2l (q := 26) C dX11_addCourse_25 rfl ?_
        refine pw_lconst (q := 27) (v := 1) C dX11_addCourse_26 (by decide +kernel) rfl ?_
        refine pw_ldc2 (q := 30) C dX11_addCourse_27 cgX11_145 rfl ?_
        refine pw_rd (q := 33) (cr_s (j := iX11_in) C dX11_addCourse_30 lX11_39 mX11_in (ro_mk (by decide) (by decide))  (rv_t ((inW_l (lo := 1) (hi := 9) (by decide +kernel) (by decide +kernel)).mpr h3) m_in) rfl rfl (Nat.le_of_ble_eq_true rfl) ⟨by omega, by omega⟩) rfl ?_
        refine pw_if_eq_n (q := 36) 40 C dX11_addCourse_33 (by decide) rfl (by omega) (fun g33 => absurd g33 (by decide)) (fun g33 => ?_)
        refine pw_iconst_n (q := 37) C 1 dX11_addCourse_36 (by decide +kernel) rfl ?_
        refine pw_goto (q := 0) 41 C dX11_addCourse_37 (by decide) ?_
        refine pw_istore (q := 43) C dX11_addCourse_41 rfl (by decide) rfl ?_
        refine pw_aload_n (q := 44) (j := 0) C dX11_addCourse_43 rfl rfl rfl ?_
        refine pw_iload (q := 46) C dX11_addCourse_44 rfl rfl ?_
        refine pw_if_ne_n (q := 49) 53 C dX11_addCourse_46 (by decide) rfl (by omega) (fun g46 => ?_) (fun g46 => absurd g46 (by decide))
        refine pw_aload_n (q := 54) (j := 0) C dX11_addCourse_53 rfl rfl rfl ?_
        refine pw_getf (q := 57) C dX11_addCourse_54 fX11_16 mh_o (by rfl) rfl ?_
        refine pw_iconst_n (q := 58) C 5 dX11_addCourse_57 (by decide +kernel) rfl ?_
        refine pw_ipg (q := 59) C dX11_addCourse_58 mh_P (by omega) (by omega) rfl ?_
        refine pw_bipush_n (q := 61) C 6 dX11_addCourse_59 (by decide +kernel) rfl ?_
        refine pw_icmp_ne_n (q := 64) 68 C dX11_addCourse_61 (by decide) rfl (by omega) (by omega) (fun g61 => ?_) (fun g61 => ?_)
        · refine pw_iconst_n (q := 69) C 0 dX11_addCourse_68 (by decide +kernel) rfl ?_
          refine pw_val (q := 72) (cr_v (j := iX11_refused) C dX11_addCourse_69 lX11_76 mX11_refused (ro_mk (by decide) (by decide)) mh_o rfl (rv_f (by decide) (m_refused 0 (by decide))) rfl rfl (Nat.le_of_ble_eq_true rfl) ⟨by omega, by omega⟩) rfl (fun M69 e69 => ?_)
          subst e69
          refine pw_if_eq_n (q := 75) 77 C dX11_addCourse_72 (by decide) rfl (by omega) (fun g72 => ?_) (fun g72 => absurd g72 (fun q => q rfl))
          obtain ⟨k1, hl1, hk1, rfl⟩ := inW_n h1 (by omega) (by omega)
          obtain ⟨k2, hl2, hk2, rfl⟩ := inW_n h2 (by omega) (by omega)
          obtain ⟨k3, hl3, hk3, rfl⟩ := inW_n h3 (by omega) (by omega)
          refine pw_aload_n (q := 78) (j := 0) C dX11_addCourse_77 rfl rfl rfl ?_
          refine pw_void (q := 81) (cr_v (j := iX11_note) C dX11_addCourse_78 lX11_147 mX11_note (ro_mk (by decide) (by decide)) mh_o rfl (m_note hB3) rfl rfl (Nat.le_of_ble_eq_true rfl) ⟨by omega, by omega⟩) rfl (fun M78 e78 => ?_)
          subst e78
          refine pw_bipush_n (q := 83) C 8 dX11_addCourse_81 (by decide +kernel) rfl ?_
          refine pw_iconst_n (q := 84) C 3 dX11_addCourse_83 (by decide +kernel) rfl ?_
          refine pw_aload_n (q := 85) (j := 0) C dX11_addCourse_84 rfl rfl rfl ?_
          refine pw_getf (q := 88) C dX11_addCourse_85 fX11_16 mh_o (by rfl) rfl ?_
          refine pw_iconst_n (q := 89) C 5 dX11_addCourse_88 (by decide +kernel) rfl ?_
          refine pw_ipg (q := 90) C dX11_addCourse_89 mh_P (by omega) (by omega) rfl ?_
          refine pw_imul_n (q := 91) C dX11_addCourse_90 rfl ?_
          refine pw_iadd_n (q := 92) C dX11_addCourse_91 rfl ?_
          refine pw_istore (q := 94) C dX11_addCourse_92 rfl (by decide) rfl ?_
          refine pw_aload_n (q := 95) (j := 0) C dX11_addCourse_94 rfl rfl rfl ?_
          refine pw_getf (q := 98) C dX11_addCourse_95 fX11_16 mh_o (by rfl) rfl ?_
          refine pw_iload (q := 100) C dX11_addCourse_98 rfl rfl ?_
          refine pw_iload_n (q := 101) (j := 1) C dX11_addCourse_100 rfl rfl rfl ?_
          refine pw_ipgst (q := 102) C dX11_addCourse_101 mh_P (by omega) (by omega) rfl ?_
          rw [mh_s_P]
          refine pw_aload_n (q := 103) (j := 0) C dX11_addCourse_102 rfl rfl rfl ?_
          refine pw_getf (q := 106) C dX11_addCourse_103 fX11_16 mh_o (by rfl) rfl ?_
          refine pw_iload (q := 108) C dX11_addCourse_106 rfl rfl ?_
          refine pw_iconst_n (q := 109) C 1 dX11_addCourse_108 (by decide +kernel) rfl ?_
          refine pw_iadd_n (q := 110) C dX11_addCourse_109 rfl ?_
          refine pw_iload_n (q := 111) (j := 2) C dX11_addCourse_110 rfl rfl rfl ?_
          refine pw_ipgst (q := 112) C dX11_addCourse_111 mh_P (by omega) (by omega) rfl ?_
          rw [mh_s_P]
          refine pw_aload_n (q := 113) (j := 0) C dX11_addCourse_112 rfl rfl rfl ?_
          refine pw_getf (q := 116) C dX11_addCourse_113 fX11_16 mh_o (by rfl) rfl ?_
          refine pw_iload (q := 118) C dX11_addCourse_116 rfl rfl ?_
          refine pw_iconst_n (q := 119) C 2 dX11_addCourse_118 (by decide +kernel) rfl ?_
          refine pw_iadd_n (q := 120) C dX11_addCourse_119 rfl ?_
          refine pw_iload_n (q := 121) (j := 3) C dX11_addCourse_120 rfl rfl rfl ?_
          refine pw_ipgst (q := 122) C dX11_addCourse_121 mh_P (by omega) (by omega) rfl ?_
          rw [mh_s_P]
          refine pw_aload_n (q := 123) (j := 0) C dX11_addCourse_122 rfl rfl rfl ?_
          refine pw_getf (q := 126) C dX11_addCourse_123 fX11_16 mh_o (by rfl) rfl ?_
          refine pw_iconst_n (q := 127) C 5 dX11_addCourse_126 (by decide +kernel) rfl ?_
          refine pw_dup2 (q := 128) C dX11_addCourse_127 rfl rfl rfl ?_
          refine pw_ipg (q := 129) C dX11_addCourse_128 mh_P (by omega) (by omega) rfl ?_
          rw [updN_ne (show 5 ≠ 8 + 3 * sP S 5 + 2 by omega), updN_ne (show 5 ≠ 8 + 3 * sP S 5 + 1 by omega), updN_ne (show 5 ≠ 8 + 3 * sP S 5 by omega)]
          refine pw_iconst_n (q := 130) C 1 dX11_addCourse_129 (by decide +kernel) rfl ?_
          refine pw_iadd_n (q := 131) C dX11_addCourse_130 rfl ?_
          refine pw_ipgst (q := 132) C dX11_addCourse_131 mh_P (by omega) (by omega) rfl ?_
          rw [mh_s_P]
          refine pw_aload_n (q := 133) (j := 0) C dX11_addCourse_132 rfl rfl rfl ?_
          refine pw_getf (q := 136) C dX11_addCourse_133 fX11_16 mh_o (by rfl) rfl ?_
          refine pw_iconst_n (q := 137) C 5 dX11_addCourse_136 (by decide +kernel) rfl ?_
          refine pw_ipg (q := 138) C dX11_addCourse_137 mh_P (by omega) (by omega) rfl ?_
          rw [updN_at]
          refine pw_iconst_n (q := 139) C 1 dX11_addCourse_138 (by decide +kernel) rfl ?_
          refine pw_isub_n (q := 140) C dX11_addCourse_139 (by omega) rfl ?_
          exact pw_iret C dX11_addCourse_140 rfl ⟨by omega, by omega⟩ ((QM.ok (by rw [spAddCourse, if_pos ⟨h1, h2, h3⟩, if_pos (show sP S 5 < 6 by omega), idx_n (show k1 < 2147483648 by omega), idx_n (show k2 < 2147483648 by omega), idx_n (show k3 < 2147483648 by omega), show sP S 5 + 1 - 1 = sP S 5 by omega] <;> rfl) (RepM.mk (S := wA S _) (noteD_rel hB3 hD) hK hF) same_mh))
        · refine pw_iconst_n (q := 65) C 2 dX11_addCourse_64 (by decide +kernel) rfl ?_
          refine pw_goto (q := 0) 69 C dX11_addCourse_65 (by decide) ?_
          refine pw_val (q := 72) (cr_v (j := iX11_refused) C dX11_addCourse_69 lX11_76 mX11_refused (ro_mk (by decide) (by decide)) mh_o rfl (rv_t (by decide) (m_refused 2 (by decide))) rfl rfl (Nat.le_of_ble_eq_true rfl) ⟨by omega, by omega⟩) rfl (fun M69 e69 => ?_)
          subst e69
          refine pw_if_eq_n (q := 75) 77 C dX11_addCourse_72 (by decide) rfl (by omega) (fun g72 => absurd g72 (by decide)) (fun g72 => ?_)
          refine pw_iconst_n (q := 76) C 0 dX11_addCourse_75 (by decide +kernel) rfl ?_
          exact pw_iret C dX11_addCourse_76 rfl ⟨by omega, by omega⟩ ((QM.no 1 (by rw [spAddCourse, if_pos ⟨h1, h2, h3⟩, if_neg (by omega)]) (RepM.mk hD hK hF) same_mh))
      · refine pw_iload_n (q := 25) (j := 3) C dX11_addCourse_24 rfl rfl rfl ?_
        refine pw_i2l (q := 26) C dX11_addCourse_25 rfl ?_
        refine pw_lconst (q := 27) (v := 1) C dX11_addCourse_26 (by decide +kernel) rfl ?_
        refine pw_ldc2 (q := 30) C dX11_addCourse_27 cgX11_145 rfl ?_
        refine pw_rd (q := 33) (cr_s (j := iX11_in) C dX11_addCourse_30 lX11_39 mX11_in (ro_mk (by decide) (by decide))  (rv_f (fun q => h3 ((inW_l (lo := 1) (hi := 9) (by decide +kernel) (by decide +kernel)).mp q)) m_in) rfl rfl (Nat.le_of_ble_eq_true rfl) ⟨by omega, by omega⟩) rfl ?_
        refine pw_if_eq_n (q := 36) 40 C dX11_addCourse_33 (by decide) rfl (by omega) (fun g33 => ?_) (fun g33 => absurd g33 (fun q => q rfl))
        refine pw_iconst_n (q := 41) C 0 dX11_addCourse_40 (by decide +kernel) rfl ?_
        refine pw_istore (q := 43) C dX11_addCourse_41 rfl (by decide) rfl ?_
        refine pw_aload_n (q := 44) (j := 0) C dX11_addCourse_43 rfl rfl rfl ?_
        refine pw_iload (q := 46) C dX11_addCourse_44 rfl rfl ?_
        refine pw_if_ne_n (q := 49) 53 C dX11_addCourse_46 (by decide) rfl (by omega) (fun g46 => absurd g46 (fun q => q rfl)) (fun g46 => ?_)
        refine pw_iconst_n (q := 50) C 1 dX11_addCourse_49 (by decide +kernel) rfl ?_
        refine pw_goto (q := 0) 69 C dX11_addCourse_50 (by decide) ?_
        refine pw_val (q := 72) (cr_v (j := iX11_refused) C dX11_addCourse_69 lX11_76 mX11_refused (ro_mk (by decide) (by decide)) mh_o rfl (rv_t (by decide) (m_refused 1 (by decide))) rfl rfl (Nat.le_of_ble_eq_true rfl) ⟨by omega, by omega⟩) rfl (fun M69 e69 => ?_)
        subst e69
        refine pw_if_eq_n (q := 75) 77 C dX11_addCourse_72 (by decide) rfl (by omega) (fun g72 => absurd g72 (by decide)) (fun g72 => ?_)
        refine pw_iconst_n (q := 76) C 0 dX11_addCourse_75 (by decide +kernel) rfl ?_
        exact pw_iret C dX11_addCourse_76 rfl ⟨by omega, by omega⟩ ((QM.no 0 (by rw [spAddCourse, if_neg (fun q => h3 q.2.2)]) (RepM.mk hD hK hF) same_mh))
    · refine pw_iload_n (q := 13) (j := 2) C dX11_addCourse_12 rfl rfl rfl ?_
      refine pw_i2l (q := 14) C dX11_addCourse_13 rfl ?_
      refine pw_lconst (q := 15) (v := 1) C dX11_addCourse_14 (by decide +kernel) rfl ?_
      refine pw_ldc2 (q := 18) C dX11_addCourse_15 cgX11_129 rfl ?_
      refine pw_rd (q := 21) (cr_s (j := iX11_in) C dX11_addCourse_18 lX11_39 mX11_in (ro_mk (by decide) (by decide))  (rv_f (fun q => h2 ((inW_l (lo := 1) (hi := 6) (by decide +kernel) (by decide +kernel)).mp q)) m_in) rfl rfl (Nat.le_of_ble_eq_true rfl) ⟨by omega, by omega⟩) rfl ?_
      refine pw_if_eq_n (q := 24) 40 C dX11_addCourse_21 (by decide) rfl (by omega) (fun g21 => ?_) (fun g21 => absurd g21 (fun q => q rfl))
      refine pw_iconst_n (q := 41) C 0 dX11_addCourse_40 (by decide +kernel) rfl ?_
      refine pw_istore (q := 43) C dX11_addCourse_41 rfl (by decide) rfl ?_
      refine pw_aload_n (q := 44) (j := 0) C dX11_addCourse_43 rfl rfl rfl ?_
      refine pw_iload (q := 46) C dX11_addCourse_44 rfl rfl ?_
      refine pw_if_ne_n (q := 49) 53 C dX11_addCourse_46 (by decide) rfl (by omega) (fun g46 => absurd g46 (fun q => q rfl)) (fun g46 => ?_)
      refine pw_iconst_n (q := 50) C 1 dX11_addCourse_49 (by decide +kernel) rfl ?_
      refine pw_goto (q := 0) 69 C dX11_addCourse_50 (by decide) ?_
      refine pw_val (q := 72) (cr_v (j := iX11_refused) C dX11_addCourse_69 lX11_76 mX11_refused (ro_mk (by decide) (by decide)) mh_o rfl (rv_t (by decide) (m_refused 1 (by decide))) rfl rfl (Nat.le_of_ble_eq_true rfl) ⟨by omega, by omega⟩) rfl (fun M69 e69 => ?_)
      subst e69
      refine pw_if_eq_n (q := 75) 77 C dX11_addCourse_72 (by decide) rfl (by omega) (fun g72 => absurd g72 (by decide)) (fun g72 => ?_)
      refine pw_iconst_n (q := 76) C 0 dX11_addCourse_75 (by decide +kernel) rfl ?_
      exact pw_iret C dX11_addCourse_76 rfl ⟨by omega, by omega⟩ ((QM.no 0 (by rw [spAddCourse, if_neg (fun q => h2 q.2.1)]) (RepM.mk hD hK hF) same_mh))
  · refine pw_iload_n (q := 1) (j := 1) C dX11_addCourse_0 rfl rfl rfl ?_
    refine pw_i2l (q := 2) C dX11_addCourse_1 rfl ?_
    refine pw_lconst (q := 3) (v := 1) C dX11_addCourse_2 (by decide +kernel) rfl ?_
    refine pw_ldc2 (q := 6) C dX11_addCourse_3 cgX11_145 rfl ?_
    refine pw_rd (q := 9) (cr_s (j := iX11_in) C dX11_addCourse_6 lX11_39 mX11_in (ro_mk (by decide) (by decide))  (rv_f (fun q => h1 ((inW_l (lo := 1) (hi := 9) (by decide +kernel) (by decide +kernel)).mp q)) m_in) rfl rfl (Nat.le_of_ble_eq_true rfl) ⟨by omega, by omega⟩) rfl ?_
    refine pw_if_eq_n (q := 12) 40 C dX11_addCourse_9 (by decide) rfl (by omega) (fun g9 => ?_) (fun g9 => absurd g9 (fun q => q rfl))
    refine pw_iconst_n (q := 41) C 0 dX11_addCourse_40 (by decide +kernel) rfl ?_
    refine pw_istore (q := 43) C dX11_addCourse_41 rfl (by decide) rfl ?_
    refine pw_aload_n (q := 44) (j := 0) C dX11_addCourse_43 rfl rfl rfl ?_
    refine pw_iload (q := 46) C dX11_addCourse_44 rfl rfl ?_
    refine pw_if_ne_n (q := 49) 53 C dX11_addCourse_46 (by decide) rfl (by omega) (fun g46 => absurd g46 (fun q => q rfl)) (fun g46 => ?_)
    refine pw_iconst_n (q := 50) C 1 dX11_addCourse_49 (by decide +kernel) rfl ?_
    refine pw_goto (q := 0) 69 C dX11_addCourse_50 (by decide) ?_
    refine pw_val (q := 72) (cr_v (j := iX11_refused) C dX11_addCourse_69 lX11_76 mX11_refused (ro_mk (by decide) (by decide)) mh_o rfl (rv_t (by decide) (m_refused 1 (by decide))) rfl rfl (Nat.le_of_ble_eq_true rfl) ⟨by omega, by omega⟩) rfl (fun M69 e69 => ?_)
    subst e69
    refine pw_if_eq_n (q := 75) 77 C dX11_addCourse_72 (by decide) rfl (by omega) (fun g72 => absurd g72 (by decide)) (fun g72 => ?_)
    refine pw_iconst_n (q := 76) C 0 dX11_addCourse_75 (by decide +kernel) rfl ?_
    exact pw_iret C dX11_addCourse_76 rfl ⟨by omega, by omega⟩ ((QM.no 0 (by rw [spAddCourse, if_neg (fun q => h1 q.1)]) (RepM.mk hD hK hF) same_mh))
set_option maxHeartbeats 200000 in
set_option maxRecDepth 100000 in
theorem c_addMason {M : PH} {m rf D0 : Nat} {S : St} (hM : RepM M m rf S) (hB : MB S) (hS : SInv D0 S) (c1 c2 : Int32) : Run iX11_addMason [.ref m, .int c1, .int c2] M 0 0 (QM M m (spAddMason S c1 c2)) := by
  obtain ⟨M0, sp, ft, R, Q, D, K, L, rfl, hD, hK, hF⟩ := hM
  have hI := hS.1.1
  have hb := hI.b
  obtain ⟨hB1, hB2, hB3, hB4⟩ := id hB
  refine Run.of (l0 := [some (.ref m), some (.int c1), some (.int c2), none]) (by decide +kernel) (Nat.le_of_ble_eq_true rfl) (by rfl) (fun Γ G C => ?_)
  by_cases h1 : inW c1 1 9
  · refine pw_aload_n (q := 1) (j := 0) C dX11_addMason_0 rfl rfl rfl ?_
    refine pw_iload_n (q := 2) (j := 1) C dX11_addMason_1 rfl rfl rfl ?_
    refine pw_i2l (q := 3) C dX11_addMason_2 rfl ?_
    refine pw_lconst (q := 4) (v := 1) C dX11_addMason_3 (by decide +kernel) rfl ?_
    refine pw_ldc2 (q := 7) C dX11_addMason_4 cgX11_145 rfl ?_
    refine pw_rd (q := 10) (cr_s (j := iX11_in) C dX11_addMason_7 lX11_39 mX11_in (ro_mk (by decide) (by decide))  (rv_t ((inW_l (lo := 1) (hi := 9) (by decide +kernel) (by decide +kernel)).mpr h1) m_in) rfl rfl (Nat.le_of_ble_eq_true rfl) ⟨by omega, by omega⟩) rfl ?_
    refine pw_if_eq_n (q := 13) 25 C dX11_addMason_10 (by decide) rfl (by omega) (fun g10 => absurd g10 (by decide)) (fun g10 => ?_)
    by_cases h2 : inW c2 1 12
    · refine pw_iload_n (q := 14) (j := 2) C dX11_addMason_13 rfl rfl rfl ?_
      refine pw_i2l (q := 15) C dX11_addMason_14 rfl ?_
      refine pw_lconst (q := 16) (v := 1) C dX11_addMason_15 (by decide +kernel) rfl ?_
      refine pw_ldc2 (q := 19) C dX11_addMason_16 cgX11_150 rfl ?_
      refine pw_rd (q := 22) (cr_s (j := iX11_in) C dX11_addMason_19 lX11_39 mX11_in (ro_mk (by decide) (by decide))  (rv_t ((inW_l (lo := 1) (hi := 12) (by decide +kernel) (by decide +kernel)).mpr h2) m_in) rfl rfl (Nat.le_of_ble_eq_true rfl) ⟨by omega, by omega⟩) rfl ?_
      refine pw_if_ne_n (q := 25) 29 C dX11_addMason_22 (by decide) rfl (by omega) (fun g22 => ?_) (fun g22 => absurd g22 (by decide))
      refine pw_aload_n (q := 30) (j := 0) C dX11_addMason_29 rfl rfl rfl ?_
      refine pw_getf (q := 33) C dX11_addMason_30 fX11_16 mh_o (by rfl) rfl ?_
      refine pw_bipush_n (q := 35) C 6 dX11_addMason_33 (by decide +kernel) rfl ?_
      refine pw_ipg (q := 36) C dX11_addMason_35 mh_P (by omega) (by omega) rfl ?_
      refine pw_bipush_n (q := 38) C 6 dX11_addMason_36 (by decide +kernel) rfl ?_
      refine pw_icmp_ne_n (q := 41) 45 C dX11_addMason_38 (by decide) rfl (by omega) (by omega) (fun g38 => ?_) (fun g38 => ?_)
      · refine pw_iconst_n (q := 46) C 0 dX11_addMason_45 (by decide +kernel) rfl ?_
        refine pw_val (q := 49) (cr_v (j := iX11_refused) C dX11_addMason_46 lX11_76 mX11_refused (ro_mk (by decide) (by decide)) mh_o rfl (rv_f (by decide) (m_refused 0 (by decide))) rfl rfl (Nat.le_of_ble_eq_true rfl) ⟨by omega, by omega⟩) rfl (fun M46 e46 => ?_)
        subst e46
        refine pw_if_eq_n (q := 52) 54 C dX11_addMason_49 (by decide) rfl (by omega) (fun g49 => ?_) (fun g49 => absurd g49 (fun q => q rfl))
        obtain ⟨k1, hl1, hk1, rfl⟩ := inW_n h1 (by omega) (by omega)
        obtain ⟨k2, hl2, hk2, rfl⟩ := inW_n h2 (by omega) (by omega)
        refine pw_aload_n (q := 55) (j := 0) C dX11_addMason_54 rfl rfl rfl ?_
        refine pw_void (q := 58) (cr_v (j := iX11_note) C dX11_addMason_55 lX11_147 mX11_note (ro_mk (by decide) (by decide)) mh_o rfl (m_note hB3) rfl rfl (Nat.le_of_ble_eq_true rfl) ⟨by omega, by omega⟩) rfl (fun M55 e55 => ?_)
        subst e55
        refine pw_bipush_n (q := 60) C 26 dX11_addMason_58 (by decide +kernel) rfl ?_
        refine pw_iconst_n (q := 61) C 4 dX11_addMason_60 (by decide +kernel) rfl ?_
        refine pw_aload_n (q := 62) (j := 0) C dX11_addMason_61 rfl rfl rfl ?_
        refine pw_getf (q := 65) C dX11_addMason_62 fX11_16 mh_o (by rfl) rfl ?_
        refine pw_bipush_n (q := 67) C 6 dX11_addMason_65 (by decide +kernel) rfl ?_
        refine pw_ipg (q := 68) C dX11_addMason_67 mh_P (by omega) (by omega) rfl ?_
        refine pw_imul_n (q := 69) C dX11_addMason_68 rfl ?_
        refine pw_iadd_n (q := 70) C dX11_addMason_69 rfl ?_
        refine pw_istore_n (q := 71) (j := 3) C dX11_addMason_70 rfl rfl (by decide) rfl ?_
        refine pw_aload_n (q := 72) (j := 0) C dX11_addMason_71 rfl rfl rfl ?_
        refine pw_getf (q := 75) C dX11_addMason_72 fX11_16 mh_o (by rfl) rfl ?_
        refine pw_iload_n (q := 76) (j := 3) C dX11_addMason_75 rfl rfl rfl ?_
        refine pw_iload_n (q := 77) (j := 1) C dX11_addMason_76 rfl rfl rfl ?_
        refine pw_ipgst (q := 78) C dX11_addMason_77 mh_P (by omega) (by omega) rfl ?_
        rw [mh_s_P]
        refine pw_aload_n (q := 79) (j := 0) C dX11_addMason_78 rfl rfl rfl ?_
        refine pw_getf (q := 82) C dX11_addMason_79 fX11_16 mh_o (by rfl) rfl ?_
        refine pw_iload_n (q := 83) (j := 3) C dX11_addMason_82 rfl rfl rfl ?_
        refine pw_iconst_n (q := 84) C 1 dX11_addMason_83 (by decide +kernel) rfl ?_
        refine pw_iadd_n (q := 85) C dX11_addMason_84 rfl ?_
        refine pw_iload_n (q := 86) (j := 2) C dX11_addMason_85 rfl rfl rfl ?_
        refine pw_ipgst (q := 87) C dX11_addMason_86 mh_P (by omega) (by omega) rfl ?_
        rw [mh_s_P]
        refine pw_aload_n (q := 88) (j := 0) C dX11_addMason_87 rfl rfl rfl ?_
        refine pw_getf (q := 91) C dX11_addMason_88 fX11_16 mh_o (by rfl) rfl ?_
        refine pw_iload_n (q := 92) (j := 3) C dX11_addMason_91 rfl rfl rfl ?_
        refine pw_iconst_n (q := 93) C 2 dX11_addMason_92 (by decide +kernel) rfl ?_
        refine pw_iadd_n (q := 94) C dX11_addMason_93 rfl ?_
        refine pw_iconst_n (q := 95) C 0 dX11_addMason_94 (by decide +kernel) rfl ?_
        refine pw_ipgst (q := 96) C dX11_addMason_95 mh_P (by omega) (by omega) rfl ?_
        rw [mh_s_P]
        refine pw_aload_n (q := 97) (j := 0) C dX11_addMason_96 rfl rfl rfl ?_
        refine pw_getf (q := 100) C dX11_addMason_97 fX11_16 mh_o (by rfl) rfl ?_
        refine pw_iload_n (q := 101) (j := 3) C dX11_addMason_100 rfl rfl rfl ?_
        refine pw_iconst_n (q := 102) C 3 dX11_addMason_101 (by decide +kernel) rfl ?_
        refine pw_iadd_n (q := 103) C dX11_addMason_102 rfl ?_
        refine pw_iconst_n (q := 104) C 0 dX11_addMason_103 (by decide +kernel) rfl ?_
        refine pw_ipgst (q := 105) C dX11_addMason_104 mh_P (by omega) (by omega) rfl ?_
        rw [mh_s_P]
        refine pw_aload_n (q := 106) (j := 0) C dX11_addMason_105 rfl rfl rfl ?_
        refine pw_getf (q := 109) C dX11_addMason_106 fX11_16 mh_o (by rfl) rfl ?_
        refine pw_bipush_n (q := 111) C 6 dX11_addMason_109 (by decide +kernel) rfl ?_
        refine pw_dup2 (q := 112) C dX11_addMason_111 rfl rfl rfl ?_
        refine pw_ipg (q := 113) C dX11_addMason_112 mh_P (by omega) (by omega) rfl ?_
        rw [updN_ne (show 6 ≠ 26 + 4 * sP S 6 + 3 by omega), updN_ne (show 6 ≠ 26 + 4 * sP S 6 + 2 by omega), updN_ne (show 6 ≠ 26 + 4 * sP S 6 + 1 by omega), updN_ne (show 6 ≠ 26 + 4 * sP S 6 by omega)]
        refine pw_iconst_n (q := 114) C 1 dX11_addMason_113 (by decide +kernel) rfl ?_
        refine pw_iadd_n (q := 115) C dX11_addMason_114 rfl ?_
        refine pw_ipgst (q := 116) C dX11_addMason_115 mh_P (by omega) (by omega) rfl ?_
        rw [mh_s_P]
        refine pw_aload_n (q := 117) (j := 0) C dX11_addMason_116 rfl rfl rfl ?_
        refine pw_getf (q := 120) C dX11_addMason_117 fX11_16 mh_o (by rfl) rfl ?_
        refine pw_bipush_n (q := 122) C 6 dX11_addMason_120 (by decide +kernel) rfl ?_
        refine pw_ipg (q := 123) C dX11_addMason_122 mh_P (by omega) (by omega) rfl ?_
        rw [updN_at]
        refine pw_iconst_n (q := 124) C 1 dX11_addMason_123 (by decide +kernel) rfl ?_
        refine pw_isub_n (q := 125) C dX11_addMason_124 (by omega) rfl ?_
        exact pw_iret C dX11_addMason_125 rfl ⟨by omega, by omega⟩ ((QM.ok (by rw [spAddMason, if_pos ⟨h1, h2⟩, if_pos (show sP S 6 < 6 by omega), idx_n (show k1 < 2147483648 by omega), idx_n (show k2 < 2147483648 by omega), show sP S 6 + 1 - 1 = sP S 6 by omega] <;> rfl) (RepM.mk (S := wA S _) (noteD_rel hB3 hD) hK hF) same_mh))
      · refine pw_iconst_n (q := 42) C 2 dX11_addMason_41 (by decide +kernel) rfl ?_
        refine pw_goto (q := 0) 46 C dX11_addMason_42 (by decide) ?_
        refine pw_val (q := 49) (cr_v (j := iX11_refused) C dX11_addMason_46 lX11_76 mX11_refused (ro_mk (by decide) (by decide)) mh_o rfl (rv_t (by decide) (m_refused 2 (by decide))) rfl rfl (Nat.le_of_ble_eq_true rfl) ⟨by omega, by omega⟩) rfl (fun M46 e46 => ?_)
        subst e46
        refine pw_if_eq_n (q := 52) 54 C dX11_addMason_49 (by decide) rfl (by omega) (fun g49 => absurd g49 (by decide)) (fun g49 => ?_)
        refine pw_iconst_n (q := 53) C 0 dX11_addMason_52 (by decide +kernel) rfl ?_
        exact pw_iret C dX11_addMason_53 rfl ⟨by omega, by omega⟩ ((QM.no 1 (by rw [spAddMason, if_pos ⟨h1, h2⟩, if_neg (by omega)]) (RepM.mk hD hK hF) same_mh))
    · refine pw_iload_n (q := 14) (j := 2) C dX11_addMason_13 rfl rfl rfl ?_
      refine pw_i2l (q := 15) C dX11_addMason_14 rfl ?_
      refine pw_lconst (q := 16) (v := 1) C dX11_addMason_15 (by decide +kernel) rfl ?_
      refine pw_ldc2 (q := 19) C dX11_addMason_16 cgX11_150 rfl ?_
      refine pw_rd (q := 22) (cr_s (j := iX11_in) C dX11_addMason_19 lX11_39 mX11_in (ro_mk (by decide) (by decide))  (rv_f (fun q => h2 ((inW_l (lo := 1) (hi := 12) (by decide +kernel) (by decide +kernel)).mp q)) m_in) rfl rfl (Nat.le_of_ble_eq_true rfl) ⟨by omega, by omega⟩) rfl ?_
      refine pw_if_ne_n (q := 25) 29 C dX11_addMason_22 (by decide) rfl (by omega) (fun g22 => absurd g22 (fun q => q rfl)) (fun g22 => ?_)
      refine pw_iconst_n (q := 26) C 1 dX11_addMason_25 (by decide +kernel) rfl ?_
      refine pw_goto (q := 0) 46 C dX11_addMason_26 (by decide) ?_
      refine pw_val (q := 49) (cr_v (j := iX11_refused) C dX11_addMason_46 lX11_76 mX11_refused (ro_mk (by decide) (by decide)) mh_o rfl (rv_t (by decide) (m_refused 1 (by decide))) rfl rfl (Nat.le_of_ble_eq_true rfl) ⟨by omega, by omega⟩) rfl (fun M46 e46 => ?_)
      subst e46
      refine pw_if_eq_n (q := 52) 54 C dX11_addMason_49 (by decide) rfl (by omega) (fun g49 => absurd g49 (by decide)) (fun g49 => ?_)
      refine pw_iconst_n (q := 53) C 0 dX11_addMason_52 (by decide +kernel) rfl ?_
      exact pw_iret C dX11_addMason_53 rfl ⟨by omega, by omega⟩ ((QM.no 0 (by rw [spAddMason, if_neg (fun q => h2 q.2)]) (RepM.mk hD hK hF) same_mh))
  · refine pw_aload_n (q := 1) (j := 0) C dX11_addMason_0 rfl rfl rfl ?_
    refine pw_iload_n (q := 2) (j := 1) C dX11_addMason_1 rfl rfl rfl ?_
    refine pw_i2l (q := 3) C dX11_addMason_2 rfl ?_
    refine pw_lconst (q := 4) (v := 1) C dX11_addMason_3 (by decide +kernel) rfl ?_
    refine pw_ldc2 (q := 7) C dX11_addMason_4 cgX11_145 rfl ?_
    refine pw_rd (q := 10) (cr_s (j := iX11_in) C dX11_addMason_7 lX11_39 mX11_in (ro_mk (by decide) (by decide))  (rv_f (fun q => h1 ((inW_l (lo := 1) (hi := 9) (by decide +kernel) (by decide +kernel)).mp q)) m_in) rfl rfl (Nat.le_of_ble_eq_true rfl) ⟨by omega, by omega⟩) rfl ?_
    refine pw_if_eq_n (q := 13) 25 C dX11_addMason_10 (by decide) rfl (by omega) (fun g10 => ?_) (fun g10 => absurd g10 (fun q => q rfl))
    refine pw_iconst_n (q := 26) C 1 dX11_addMason_25 (by decide +kernel) rfl ?_
    refine pw_goto (q := 0) 46 C dX11_addMason_26 (by decide) ?_
    refine pw_val (q := 49) (cr_v (j := iX11_refused) C dX11_addMason_46 lX11_76 mX11_refused (ro_mk (by decide) (by decide)) mh_o rfl (rv_t (by decide) (m_refused 1 (by decide))) rfl rfl (Nat.le_of_ble_eq_true rfl) ⟨by omega, by omega⟩) rfl (fun M46 e46 => ?_)
    subst e46
    refine pw_if_eq_n (q := 52) 54 C dX11_addMason_49 (by decide) rfl (by omega) (fun g49 => absurd g49 (by decide)) (fun g49 => ?_)
    refine pw_iconst_n (q := 53) C 0 dX11_addMason_52 (by decide +kernel) rfl ?_
    exact pw_iret C dX11_addMason_53 rfl ⟨by omega, by omega⟩ ((QM.no 0 (by rw [spAddMason, if_neg (fun q => h1 q.1)]) (RepM.mk hD hK hF) same_mh))
set_option maxHeartbeats 200000 in
set_option maxRecDepth 100000 in
theorem c_setRate {M : PH} {m rf D0 : Nat} {S : St} (hM : RepM M m rf S) (hB : MB S) (hS : SInv D0 S) (c1 c2 : Int32) : Run iX11_setRate [.ref m, .int c1, .int c2] M 0 0 (QM M m (spSetRate S c1 c2)) := by
  obtain ⟨M0, sp, ft, R, Q, D, K, L, rfl, hD, hK, hF⟩ := hM
  have hI := hS.1.1
  have hb := hI.b
  obtain ⟨hB1, hB2, hB3, hB4⟩ := id hB
  refine Run.of (l0 := [some (.ref m), some (.int c1), some (.int c2), none]) (by decide +kernel) (Nat.le_of_ble_eq_true rfl) (by rfl) (fun Γ G C => ?_)
  by_cases h1 : inI c1 (sP S 6)
  · obtain ⟨k1, hk1, rfl⟩ := inI_n h1 (by omega)
    refine pw_aload_n (q := 1) (j := 0) C dX11_setRate_0 rfl rfl rfl ?_
    refine pw_aload_n (q := 2) (j := 0) C dX11_setRate_1 rfl rfl rfl ?_
    refine pw_getf (q := 5) C dX11_setRate_2 fX11_16 mh_o (by rfl) rfl ?_
    refine pw_iload_n (q := 6) (j := 1) C dX11_setRate_5 rfl rfl rfl ?_
    refine pw_rd (q := 9) (cr_s (j := iX11_isMason) C dX11_setRate_6 lX11_131 mX11_isMason (ro_mk (by decide) (by decide))  (rv_t h1 (m_isMason mh_P (by omega) _)) rfl rfl (Nat.le_of_ble_eq_true rfl) ⟨by omega, by omega⟩) rfl ?_
    refine pw_if_ne_n (q := 12) 16 C dX11_setRate_9 (by decide) rfl (by omega) (fun g9 => ?_) (fun g9 => absurd g9 (by decide))
    by_cases h2 : inW c2 1 9
    · refine pw_iload_n (q := 17) (j := 2) C dX11_setRate_16 rfl rfl rfl ?_
      refine pw_i2l (q := 18) C dX11_setRate_17 rfl ?_
      refine pw_lconst (q := 19) (v := 1) C dX11_setRate_18 (by decide +kernel) rfl ?_
      refine pw_ldc2 (q := 22) C dX11_setRate_19 cgX11_145 rfl ?_
      refine pw_rd (q := 25) (cr_s (j := iX11_in) C dX11_setRate_22 lX11_39 mX11_in (ro_mk (by decide) (by decide))  (rv_t ((inW_l (lo := 1) (hi := 9) (by decide +kernel) (by decide +kernel)).mpr h2) m_in) rfl rfl (Nat.le_of_ble_eq_true rfl) ⟨by omega, by omega⟩) rfl ?_
      refine pw_if_ne_n (q := 28) 32 C dX11_setRate_25 (by decide) rfl (by omega) (fun g25 => ?_) (fun g25 => absurd g25 (by decide))
      refine pw_iconst_n (q := 33) C 0 dX11_setRate_32 (by decide +kernel) rfl ?_
      refine pw_val (q := 36) (cr_v (j := iX11_refused) C dX11_setRate_33 lX11_76 mX11_refused (ro_mk (by decide) (by decide)) mh_o rfl (rv_f (by decide) (m_refused 0 (by decide))) rfl rfl (Nat.le_of_ble_eq_true rfl) ⟨by omega, by omega⟩) rfl (fun M33 e33 => ?_)
      subst e33
      refine pw_if_eq_n (q := 39) 41 C dX11_setRate_36 (by decide) rfl (by omega) (fun g36 => ?_) (fun g36 => absurd g36 (fun q => q rfl))
      obtain ⟨k2, hl2, hk2, rfl⟩ := inW_n h2 (by omega) (by omega)
      refine pw_aload_n (q := 42) (j := 0) C dX11_setRate_41 rfl rfl rfl ?_
      refine pw_void (q := 45) (cr_v (j := iX11_note) C dX11_setRate_42 lX11_147 mX11_note (ro_mk (by decide) (by decide)) mh_o rfl (m_note hB3) rfl rfl (Nat.le_of_ble_eq_true rfl) ⟨by omega, by omega⟩) rfl (fun M42 e42 => ?_)
      subst e42
      refine pw_aload_n (q := 46) (j := 0) C dX11_setRate_45 rfl rfl rfl ?_
      refine pw_getf (q := 49) C dX11_setRate_46 fX11_16 mh_o (by rfl) rfl ?_
      refine pw_bipush_n (q := 51) C 26 dX11_setRate_49 (by decide +kernel) rfl ?_
      refine pw_iconst_n (q := 52) C 4 dX11_setRate_51 (by decide +kernel) rfl ?_
      refine pw_iload_n (q := 53) (j := 1) C dX11_setRate_52 rfl rfl rfl ?_
      refine pw_imul_n (q := 54) C dX11_setRate_53 rfl ?_
      refine pw_iadd_n (q := 55) C dX11_setRate_54 rfl ?_
      refine pw_ipg (q := 56) C dX11_setRate_55 mh_P (by omega) (by omega) rfl ?_
      refine pw_istore_n (q := 57) (j := 3) C dX11_setRate_56 rfl rfl (by decide) rfl ?_
      refine pw_aload_n (q := 58) (j := 0) C dX11_setRate_57 rfl rfl rfl ?_
      refine pw_getf (q := 61) C dX11_setRate_58 fX11_16 mh_o (by rfl) rfl ?_
      refine pw_bipush_n (q := 63) C 26 dX11_setRate_61 (by decide +kernel) rfl ?_
      refine pw_iconst_n (q := 64) C 4 dX11_setRate_63 (by decide +kernel) rfl ?_
      refine pw_iload_n (q := 65) (j := 1) C dX11_setRate_64 rfl rfl rfl ?_
      refine pw_imul_n (q := 66) C dX11_setRate_65 rfl ?_
      refine pw_iadd_n (q := 67) C dX11_setRate_66 rfl ?_
      refine pw_iload_n (q := 68) (j := 2) C dX11_setRate_67 rfl rfl rfl ?_
      refine pw_ipgst (q := 69) C dX11_setRate_68 mh_P (by omega) (by omega) rfl ?_
      rw [mh_s_P]
      refine pw_iload_n (q := 70) (j := 3) C dX11_setRate_69 rfl rfl rfl ?_
      exact pw_iret C dX11_setRate_70 rfl ⟨by omega, by omega⟩ ((QM.ok (by rw [spSetRate, if_pos h1, if_pos h2, idx_n (show k1 < 2147483648 by omega), idx_n (show k2 < 2147483648 by omega)] <;> rfl) (RepM.mk (S := wA S _) (noteD_rel hB3 hD) hK hF) same_mh))
    · refine pw_iload_n (q := 17) (j := 2) C dX11_setRate_16 rfl rfl rfl ?_
      refine pw_i2l (q := 18) C dX11_setRate_17 rfl ?_
      refine pw_lconst (q := 19) (v := 1) C dX11_setRate_18 (by decide +kernel) rfl ?_
      refine pw_ldc2 (q := 22) C dX11_setRate_19 cgX11_145 rfl ?_
      refine pw_rd (q := 25) (cr_s (j := iX11_in) C dX11_setRate_22 lX11_39 mX11_in (ro_mk (by decide) (by decide))  (rv_f (fun q => h2 ((inW_l (lo := 1) (hi := 9) (by decide +kernel) (by decide +kernel)).mp q)) m_in) rfl rfl (Nat.le_of_ble_eq_true rfl) ⟨by omega, by omega⟩) rfl ?_
      refine pw_if_ne_n (q := 28) 32 C dX11_setRate_25 (by decide) rfl (by omega) (fun g25 => absurd g25 (fun q => q rfl)) (fun g25 => ?_)
      refine pw_iconst_n (q := 29) C 2 dX11_setRate_28 (by decide +kernel) rfl ?_
      refine pw_goto (q := 0) 33 C dX11_setRate_29 (by decide) ?_
      refine pw_val (q := 36) (cr_v (j := iX11_refused) C dX11_setRate_33 lX11_76 mX11_refused (ro_mk (by decide) (by decide)) mh_o rfl (rv_t (by decide) (m_refused 2 (by decide))) rfl rfl (Nat.le_of_ble_eq_true rfl) ⟨by omega, by omega⟩) rfl (fun M33 e33 => ?_)
      subst e33
      refine pw_if_eq_n (q := 39) 41 C dX11_setRate_36 (by decide) rfl (by omega) (fun g36 => absurd g36 (by decide)) (fun g36 => ?_)
      refine pw_iconst_n (q := 40) C 0 dX11_setRate_39 (by decide +kernel) rfl ?_
      exact pw_iret C dX11_setRate_40 rfl ⟨by omega, by omega⟩ ((QM.no 1 (by rw [spSetRate, if_pos h1, if_neg h2]) (RepM.mk hD hK hF) same_mh))
  · refine pw_aload_n (q := 1) (j := 0) C dX11_setRate_0 rfl rfl rfl ?_
    refine pw_aload_n (q := 2) (j := 0) C dX11_setRate_1 rfl rfl rfl ?_
    refine pw_getf (q := 5) C dX11_setRate_2 fX11_16 mh_o (by rfl) rfl ?_
    refine pw_iload_n (q := 6) (j := 1) C dX11_setRate_5 rfl rfl rfl ?_
    refine pw_rd (q := 9) (cr_s (j := iX11_isMason) C dX11_setRate_6 lX11_131 mX11_isMason (ro_mk (by decide) (by decide))  (rv_f h1 (m_isMason mh_P (by omega) _)) rfl rfl (Nat.le_of_ble_eq_true rfl) ⟨by omega, by omega⟩) rfl ?_
    refine pw_if_ne_n (q := 12) 16 C dX11_setRate_9 (by decide) rfl (by omega) (fun g9 => absurd g9 (fun q => q rfl)) (fun g9 => ?_)
    refine pw_iconst_n (q := 13) C 1 dX11_setRate_12 (by decide +kernel) rfl ?_
    refine pw_goto (q := 0) 33 C dX11_setRate_13 (by decide) ?_
    refine pw_val (q := 36) (cr_v (j := iX11_refused) C dX11_setRate_33 lX11_76 mX11_refused (ro_mk (by decide) (by decide)) mh_o rfl (rv_t (by decide) (m_refused 1 (by decide))) rfl rfl (Nat.le_of_ble_eq_true rfl) ⟨by omega, by omega⟩) rfl (fun M33 e33 => ?_)
    subst e33
    refine pw_if_eq_n (q := 39) 41 C dX11_setRate_36 (by decide) rfl (by omega) (fun g36 => absurd g36 (by decide)) (fun g36 => ?_)
    refine pw_iconst_n (q := 40) C 0 dX11_setRate_39 (by decide +kernel) rfl ?_
    exact pw_iret C dX11_setRate_40 rfl ⟨by omega, by omega⟩ ((QM.no 0 (by rw [spSetRate, if_neg h1]) (RepM.mk hD hK hF) same_mh))
set_option maxHeartbeats 200000 in
set_option maxRecDepth 100000 in
theorem c_setBound {M : PH} {m rf D0 : Nat} {S : St} (hM : RepM M m rf S) (hB : MB S) (hS : SInv D0 S) (c1 : Int32) : Run iX11_setBound [.ref m, .int c1] M 0 0 (QM M m (spSetBound S c1)) := by
  obtain ⟨M0, sp, ft, R, Q, D, K, L, rfl, hD, hK, hF⟩ := hM
  have hI := hS.1.1
  have hb := hI.b
  obtain ⟨hB1, hB2, hB3, hB4⟩ := id hB
  refine Run.of (l0 := [some (.ref m), some (.int c1), none]) (by decide +kernel) (Nat.le_of_ble_eq_true rfl) (by rfl) (fun Γ G C => ?_)
  by_cases h1 : inW c1 0 9
  · refine pw_aload_n (q := 1) (j := 0) C dX11_setBound_0 rfl rfl rfl ?_
    refine pw_iload_n (q := 2) (j := 1) C dX11_setBound_1 rfl rfl rfl ?_
    refine pw_i2l (q := 3) C dX11_setBound_2 rfl ?_
    refine pw_lconst (q := 4) (v := 0) C dX11_setBound_3 (by decide +kernel) rfl ?_
    refine pw_ldc2 (q := 7) C dX11_setBound_4 cgX11_145 rfl ?_
    refine pw_rd (q := 10) (cr_s (j := iX11_in) C dX11_setBound_7 lX11_39 mX11_in (ro_mk (by decide) (by decide))  (rv_t ((inW_l (lo := 0) (hi := 9) (by decide +kernel) (by decide +kernel)).mpr h1) m_in) rfl rfl (Nat.le_of_ble_eq_true rfl) ⟨by omega, by omega⟩) rfl ?_
    refine pw_if_eq_n (q := 13) 17 C dX11_setBound_10 (by decide) rfl (by omega) (fun g10 => absurd g10 (by decide)) (fun g10 => ?_)
    refine pw_iconst_n (q := 14) C 0 dX11_setBound_13 (by decide +kernel) rfl ?_
    refine pw_goto (q := 0) 18 C dX11_setBound_14 (by decide) ?_
    refine pw_val (q := 21) (cr_v (j := iX11_refused) C dX11_setBound_18 lX11_76 mX11_refused (ro_mk (by decide) (by decide)) mh_o rfl (rv_f (by decide) (m_refused 0 (by decide))) rfl rfl (Nat.le_of_ble_eq_true rfl) ⟨by omega, by omega⟩) rfl (fun M18 e18 => ?_)
    subst e18
    refine pw_if_eq_n (q := 24) 26 C dX11_setBound_21 (by decide) rfl (by omega) (fun g21 => ?_) (fun g21 => absurd g21 (fun q => q rfl))
    obtain ⟨k1, hl1, hk1, rfl⟩ := inW_n h1 (by omega) (by omega)
    refine pw_aload_n (q := 27) (j := 0) C dX11_setBound_26 rfl rfl rfl ?_
    refine pw_void (q := 30) (cr_v (j := iX11_note) C dX11_setBound_27 lX11_147 mX11_note (ro_mk (by decide) (by decide)) mh_o rfl (m_note hB3) rfl rfl (Nat.le_of_ble_eq_true rfl) ⟨by omega, by omega⟩) rfl (fun M27 e27 => ?_)
    subst e27
    refine pw_aload_n (q := 31) (j := 0) C dX11_setBound_30 rfl rfl rfl ?_
    refine pw_getf (q := 34) C dX11_setBound_31 fX11_16 mh_o (by rfl) rfl ?_
    refine pw_iconst_n (q := 35) C 0 dX11_setBound_34 (by decide +kernel) rfl ?_
    refine pw_ipg (q := 36) C dX11_setBound_35 mh_P (by omega) (by omega) rfl ?_
    refine pw_istore_n (q := 37) (j := 2) C dX11_setBound_36 rfl rfl (by decide) rfl ?_
    refine pw_aload_n (q := 38) (j := 0) C dX11_setBound_37 rfl rfl rfl ?_
    refine pw_getf (q := 41) C dX11_setBound_38 fX11_16 mh_o (by rfl) rfl ?_
    refine pw_iconst_n (q := 42) C 0 dX11_setBound_41 (by decide +kernel) rfl ?_
    refine pw_iload_n (q := 43) (j := 1) C dX11_setBound_42 rfl rfl rfl ?_
    refine pw_ipgst (q := 44) C dX11_setBound_43 mh_P (by omega) (by omega) rfl ?_
    rw [mh_s_P]
    refine pw_iload_n (q := 45) (j := 2) C dX11_setBound_44 rfl rfl rfl ?_
    exact pw_iret C dX11_setBound_45 rfl ⟨by omega, by omega⟩ ((QM.ok (by rw [spSetBound, if_pos h1, idx_n (show k1 < 2147483648 by omega)] <;> rfl) (RepM.mk (S := wA S _) (noteD_rel hB3 hD) hK hF) same_mh))
  · refine pw_aload_n (q := 1) (j := 0) C dX11_setBound_0 rfl rfl rfl ?_
    refine pw_iload_n (q := 2) (j := 1) C dX11_setBound_1 rfl rfl rfl ?_
    refine pw_i2l (q := 3) C dX11_setBound_2 rfl ?_
    refine pw_lconst (q := 4) (v := 0) C dX11_setBound_3 (by decide +kernel) rfl ?_
    refine pw_ldc2 (q := 7) C dX11_setBound_4 cgX11_145 rfl ?_
    refine pw_rd (q := 10) (cr_s (j := iX11_in) C dX11_setBound_7 lX11_39 mX11_in (ro_mk (by decide) (by decide))  (rv_f (fun q => h1 ((inW_l (lo := 0) (hi := 9) (by decide +kernel) (by decide +kernel)).mp q)) m_in) rfl rfl (Nat.le_of_ble_eq_true rfl) ⟨by omega, by omega⟩) rfl ?_
    refine pw_if_eq_n (q := 13) 17 C dX11_setBound_10 (by decide) rfl (by omega) (fun g10 => ?_) (fun g10 => absurd g10 (fun q => q rfl))
    refine pw_iconst_n (q := 18) C 1 dX11_setBound_17 (by decide +kernel) rfl ?_
    refine pw_val (q := 21) (cr_v (j := iX11_refused) C dX11_setBound_18 lX11_76 mX11_refused (ro_mk (by decide) (by decide)) mh_o rfl (rv_t (by decide) (m_refused 1 (by decide))) rfl rfl (Nat.le_of_ble_eq_true rfl) ⟨by omega, by omega⟩) rfl (fun M18 e18 => ?_)
    subst e18
    refine pw_if_eq_n (q := 24) 26 C dX11_setBound_21 (by decide) rfl (by omega) (fun g21 => absurd g21 (by decide)) (fun g21 => ?_)
    refine pw_iconst_n (q := 25) C 0 dX11_setBound_24 (by decide +kernel) rfl ?_
    exact pw_iret C dX11_setBound_25 rfl ⟨by omega, by omega⟩ ((QM.no 0 (by rw [spSetBound, if_neg h1]) (RepM.mk hD hK hF) same_mh))
set_option maxHeartbeats 200000 in
set_option maxRecDepth 100000 in
theorem c_cut {M : PH} {m rf D0 : Nat} {S : St} (hM : RepM M m rf S) (hB : MB S) (hS : SInv D0 S) (c1 c2 c3 : Int32) : Run iX11_cut [.ref m, .int c1, .int c2, .int c3] M 0 0 (QM M m (spCut S c1 c2 c3)) := by
  obtain ⟨M0, sp, ft, R, Q, D, K, L, rfl, hD, hK, hF⟩ := hM
  have hI := hS.1.1
  have hb := hI.b
  obtain ⟨hB1, hB2, hB3, hB4⟩ := id hB
  refine Run.of (l0 := [some (.ref m), some (.int c1), some (.int c2), some (.int c3), none]) (by decide +kernel) (Nat.le_of_ble_eq_true rfl) (by rfl) (fun Γ G C => ?_)
  by_cases h1 : inI c1 (sP S 6)
  · obtain ⟨k1, hk1, rfl⟩ := inI_n h1 (by omega)
    refine pw_aload_n (q := 1) (j := 0) C dX11_cut_0 rfl rfl rfl ?_
    refine pw_getf (q := 4) C dX11_cut_1 fX11_16 mh_o (by rfl) rfl ?_
    refine pw_iload_n (q := 5) (j := 1) C dX11_cut_4 rfl rfl rfl ?_
    refine pw_rd (q := 8) (cr_s (j := iX11_isMason) C dX11_cut_5 lX11_131 mX11_isMason (ro_mk (by decide) (by decide))  (rv_t h1 (m_isMason mh_P (by omega) _)) rfl rfl (Nat.le_of_ble_eq_true rfl) ⟨by omega, by omega⟩) rfl ?_
    refine pw_if_eq_n (q := 11) 26 C dX11_cut_8 (by decide) rfl (by omega) (fun g8 => absurd g8 (by decide)) (fun g8 => ?_)
    by_cases h2 : inI c2 (sP S 5)
    · obtain ⟨k2, hk2, rfl⟩ := inI_n h2 (by omega)
      refine pw_aload_n (q := 12) (j := 0) C dX11_cut_11 rfl rfl rfl ?_
      refine pw_getf (q := 15) C dX11_cut_12 fX11_16 mh_o (by rfl) rfl ?_
      refine pw_iload_n (q := 16) (j := 2) C dX11_cut_15 rfl rfl rfl ?_
      refine pw_rd (q := 19) (cr_s (j := iX11_isCourse) C dX11_cut_16 lX11_126 mX11_isCourse (ro_mk (by decide) (by decide))  (rv_t h2 (m_isCourse mh_P (by omega) _)) rfl rfl (Nat.le_of_ble_eq_true rfl) ⟨by omega, by omega⟩) rfl ?_
      refine pw_if_eq_n (q := 22) 26 C dX11_cut_19 (by decide) rfl (by omega) (fun g19 => absurd g19 (by decide)) (fun g19 => ?_)
      refine pw_iconst_n (q := 23) C 1 dX11_cut_22 (by decide +kernel) rfl ?_
      refine pw_goto (q := 0) 27 C dX11_cut_23 (by decide) ?_
      refine pw_istore (q := 29) C dX11_cut_27 rfl (by decide) rfl ?_
      refine pw_aload_n (q := 30) (j := 0) C dX11_cut_29 rfl rfl rfl ?_
      refine pw_iload (q := 32) C dX11_cut_30 rfl rfl ?_
      refine pw_if_ne_n (q := 35) 39 C dX11_cut_32 (by decide) rfl (by omega) (fun g32 => ?_) (fun g32 => absurd g32 (by decide))
      by_cases h3 : inW c3 0 9
      · refine pw_iload_n (q := 40) (j := 3) C dX11_cut_39 rfl rfl rfl ?_
        refine pw_i2l (q := 41) C dX11_cut_40 rfl ?_
        refine pw_lconst (q := 42) (v := 0) C dX11_cut_41 (by decide +kernel) rfl ?_
        refine pw_ldc2 (q := 45) C dX11_cut_42 cgX11_145 rfl ?_
        refine pw_rd (q := 48) (cr_s (j := iX11_in) C dX11_cut_45 lX11_39 mX11_in (ro_mk (by decide) (by decide))  (rv_t ((inW_l (lo := 0) (hi := 9) (by decide +kernel) (by decide +kernel)).mpr h3) m_in) rfl rfl (Nat.le_of_ble_eq_true rfl) ⟨by omega, by omega⟩) rfl ?_
        refine pw_if_ne_n (q := 51) 55 C dX11_cut_48 (by decide) rfl (by omega) (fun g48 => ?_) (fun g48 => absurd g48 (by decide))
        refine pw_aload_n (q := 56) (j := 0) C dX11_cut_55 rfl rfl rfl ?_
        refine pw_getf (q := 59) C dX11_cut_56 fX11_16 mh_o (by rfl) rfl ?_
        refine pw_iload_n (q := 60) (j := 1) C dX11_cut_59 rfl rfl rfl ?_
        refine pw_iload_n (q := 61) (j := 2) C dX11_cut_60 rfl rfl rfl ?_
        refine pw_rd (q := 64) (cr_s (j := iX11_canCut) C dX11_cut_61 lX11_152 mX11_canCut (ro_mk (by decide) (by decide))  (m_canCut mh_P hI hk1 hk2) rfl rfl (Nat.le_of_ble_eq_true rfl) ⟨by omega, by omega⟩) rfl ?_
        refine pw_if_ne_b (q := 67) 71 C dX11_cut_64 (by decide) rfl (fun g64 => ?_) (fun g64 => ?_)
        · refine pw_iconst_n (q := 72) C 0 dX11_cut_71 (by decide +kernel) rfl ?_
          refine pw_val (q := 75) (cr_v (j := iX11_refused) C dX11_cut_72 lX11_76 mX11_refused (ro_mk (by decide) (by decide)) mh_o rfl (rv_f (by decide) (m_refused 0 (by decide))) rfl rfl (Nat.le_of_ble_eq_true rfl) ⟨by omega, by omega⟩) rfl (fun M72 e72 => ?_)
          subst e72
          refine pw_if_eq_n (q := 78) 80 C dX11_cut_75 (by decide) rfl (by omega) (fun g75 => ?_) (fun g75 => absurd g75 (fun q => q rfl))
          obtain ⟨k3, hl3, hk3, rfl⟩ := inW_n h3 (by omega) (by omega)
          refine pw_aload_n (q := 81) (j := 0) C dX11_cut_80 rfl rfl rfl ?_
          refine pw_void (q := 84) (cr_v (j := iX11_note) C dX11_cut_81 lX11_147 mX11_note (ro_mk (by decide) (by decide)) mh_o rfl (m_note hB3) rfl rfl (Nat.le_of_ble_eq_true rfl) ⟨by omega, by omega⟩) rfl (fun M81 e81 => ?_)
          subst e81
          refine pw_aload_n (q := 85) (j := 0) C dX11_cut_84 rfl rfl rfl ?_
          refine pw_getf (q := 88) C dX11_cut_85 fX11_16 mh_o (by rfl) rfl ?_
          refine pw_iload_n (q := 89) (j := 1) C dX11_cut_88 rfl rfl rfl ?_
          refine pw_iload_n (q := 90) (j := 2) C dX11_cut_89 rfl rfl rfl ?_
          refine pw_iload_n (q := 91) (j := 3) C dX11_cut_90 rfl rfl rfl ?_
          refine pw_val (q := 94) (cr_s (j := iX11_cutOn) C dX11_cut_91 lX11_156 mX11_cutOn (ro_mk (by decide) (by decide))  (m_cutOn mh_P hI hk1 hk2 g64) rfl rfl (Nat.le_of_ble_eq_true rfl) ⟨by omega, by omega⟩) rfl (fun M91 e91 => ?_)
          rw [mh_s_P] at e91
          subst e91
          exact pw_iret C dX11_cut_94 rfl ⟨by omega, by omega⟩ ((QM.ok (by rw [spCut, if_pos ⟨h1, h2⟩, if_pos h3, idx_n (show k1 < 2147483648 by omega), idx_n (show k2 < 2147483648 by omega), idx_n (show k3 < 2147483648 by omega), if_pos g64] <;> rfl) (RepM.mk (S := wA S _) (noteD_rel hB3 hD) hK hF) same_mh))
        · refine pw_iconst_n (q := 68) C 3 dX11_cut_67 (by decide +kernel) rfl ?_
          refine pw_goto (q := 0) 72 C dX11_cut_68 (by decide) ?_
          refine pw_val (q := 75) (cr_v (j := iX11_refused) C dX11_cut_72 lX11_76 mX11_refused (ro_mk (by decide) (by decide)) mh_o rfl (rv_t (by decide) (m_refused 3 (by decide))) rfl rfl (Nat.le_of_ble_eq_true rfl) ⟨by omega, by omega⟩) rfl (fun M72 e72 => ?_)
          subst e72
          refine pw_if_eq_n (q := 78) 80 C dX11_cut_75 (by decide) rfl (by omega) (fun g75 => absurd g75 (by decide)) (fun g75 => ?_)
          refine pw_iconst_n (q := 79) C 0 dX11_cut_78 (by decide +kernel) rfl ?_
          exact pw_iret C dX11_cut_79 rfl ⟨by omega, by omega⟩ ((QM.no 2 (by rw [spCut, if_pos ⟨h1, h2⟩, if_pos h3, idx_n (show k1 < 2147483648 by omega), idx_n (show k2 < 2147483648 by omega), if_neg g64]) (RepM.mk hD hK hF) same_mh))
      · refine pw_iload_n (q := 40) (j := 3) C dX11_cut_39 rfl rfl rfl ?_
        refine pw_i2l (q := 41) C dX11_cut_40 rfl ?_
        refine pw_lconst (q := 42) (v := 0) C dX11_cut_41 (by decide +kernel) rfl ?_
        refine pw_ldc2 (q := 45) C dX11_cut_42 cgX11_145 rfl ?_
        refine pw_rd (q := 48) (cr_s (j := iX11_in) C dX11_cut_45 lX11_39 mX11_in (ro_mk (by decide) (by decide))  (rv_f (fun q => h3 ((inW_l (lo := 0) (hi := 9) (by decide +kernel) (by decide +kernel)).mp q)) m_in) rfl rfl (Nat.le_of_ble_eq_true rfl) ⟨by omega, by omega⟩) rfl ?_
        refine pw_if_ne_n (q := 51) 55 C dX11_cut_48 (by decide) rfl (by omega) (fun g48 => absurd g48 (fun q => q rfl)) (fun g48 => ?_)
        refine pw_iconst_n (q := 52) C 2 dX11_cut_51 (by decide +kernel) rfl ?_
        refine pw_goto (q := 0) 72 C dX11_cut_52 (by decide) ?_
        refine pw_val (q := 75) (cr_v (j := iX11_refused) C dX11_cut_72 lX11_76 mX11_refused (ro_mk (by decide) (by decide)) mh_o rfl (rv_t (by decide) (m_refused 2 (by decide))) rfl rfl (Nat.le_of_ble_eq_true rfl) ⟨by omega, by omega⟩) rfl (fun M72 e72 => ?_)
        subst e72
        refine pw_if_eq_n (q := 78) 80 C dX11_cut_75 (by decide) rfl (by omega) (fun g75 => absurd g75 (by decide)) (fun g75 => ?_)
        refine pw_iconst_n (q := 79) C 0 dX11_cut_78 (by decide +kernel) rfl ?_
        exact pw_iret C dX11_cut_79 rfl ⟨by omega, by omega⟩ ((QM.no 1 (by rw [spCut, if_pos ⟨h1, h2⟩, if_neg h3]) (RepM.mk hD hK hF) same_mh))
    · refine pw_aload_n (q := 12) (j := 0) C dX11_cut_11 rfl rfl rfl ?_
      refine pw_getf (q := 15) C dX11_cut_12 fX11_16 mh_o (by rfl) rfl ?_
      refine pw_iload_n (q := 16) (j := 2) C dX11_cut_15 rfl rfl rfl ?_
      refine pw_rd (q := 19) (cr_s (j := iX11_isCourse) C dX11_cut_16 lX11_126 mX11_isCourse (ro_mk (by decide) (by decide))  (rv_f h2 (m_isCourse mh_P (by omega) _)) rfl rfl (Nat.le_of_ble_eq_true rfl) ⟨by omega, by omega⟩) rfl ?_
      refine pw_if_eq_n (q := 22) 26 C dX11_cut_19 (by decide) rfl (by omega) (fun g19 => ?_) (fun g19 => absurd g19 (fun q => q rfl))
      refine pw_iconst_n (q := 27) C 0 dX11_cut_26 (by decide +kernel) rfl ?_
      refine pw_istore (q := 29) C dX11_cut_27 rfl (by decide) rfl ?_
      refine pw_aload_n (q := 30) (j := 0) C dX11_cut_29 rfl rfl rfl ?_
      refine pw_iload (q := 32) C dX11_cut_30 rfl rfl ?_
      refine pw_if_ne_n (q := 35) 39 C dX11_cut_32 (by decide) rfl (by omega) (fun g32 => absurd g32 (fun q => q rfl)) (fun g32 => ?_)
      refine pw_iconst_n (q := 36) C 1 dX11_cut_35 (by decide +kernel) rfl ?_
      refine pw_goto (q := 0) 72 C dX11_cut_36 (by decide) ?_
      refine pw_val (q := 75) (cr_v (j := iX11_refused) C dX11_cut_72 lX11_76 mX11_refused (ro_mk (by decide) (by decide)) mh_o rfl (rv_t (by decide) (m_refused 1 (by decide))) rfl rfl (Nat.le_of_ble_eq_true rfl) ⟨by omega, by omega⟩) rfl (fun M72 e72 => ?_)
      subst e72
      refine pw_if_eq_n (q := 78) 80 C dX11_cut_75 (by decide) rfl (by omega) (fun g75 => absurd g75 (by decide)) (fun g75 => ?_)
      refine pw_iconst_n (q := 79) C 0 dX11_cut_78 (by decide +kernel) rfl ?_
      exact pw_iret C dX11_cut_79 rfl ⟨by omega, by omega⟩ ((QM.no 0 (by rw [spCut, if_neg (fun q => h2 q.2)]) (RepM.mk hD hK hF) same_mh))
  · refine pw_aload_n (q := 1) (j := 0) C dX11_cut_0 rfl rfl rfl ?_
    refine pw_getf (q := 4) C dX11_cut_1 fX11_16 mh_o (by rfl) rfl ?_
    refine pw_iload_n (q := 5) (j := 1) C dX11_cut_4 rfl rfl rfl ?_
    refine pw_rd (q := 8) (cr_s (j := iX11_isMason) C dX11_cut_5 lX11_131 mX11_isMason (ro_mk (by decide) (by decide))  (rv_f h1 (m_isMason mh_P (by omega) _)) rfl rfl (Nat.le_of_ble_eq_true rfl) ⟨by omega, by omega⟩) rfl ?_
    refine pw_if_eq_n (q := 11) 26 C dX11_cut_8 (by decide) rfl (by omega) (fun g8 => ?_) (fun g8 => absurd g8 (fun q => q rfl))
    refine pw_iconst_n (q := 27) C 0 dX11_cut_26 (by decide +kernel) rfl ?_
    refine pw_istore (q := 29) C dX11_cut_27 rfl (by decide) rfl ?_
    refine pw_aload_n (q := 30) (j := 0) C dX11_cut_29 rfl rfl rfl ?_
    refine pw_iload (q := 32) C dX11_cut_30 rfl rfl ?_
    refine pw_if_ne_n (q := 35) 39 C dX11_cut_32 (by decide) rfl (by omega) (fun g32 => absurd g32 (fun q => q rfl)) (fun g32 => ?_)
    refine pw_iconst_n (q := 36) C 1 dX11_cut_35 (by decide +kernel) rfl ?_
    refine pw_goto (q := 0) 72 C dX11_cut_36 (by decide) ?_
    refine pw_val (q := 75) (cr_v (j := iX11_refused) C dX11_cut_72 lX11_76 mX11_refused (ro_mk (by decide) (by decide)) mh_o rfl (rv_t (by decide) (m_refused 1 (by decide))) rfl rfl (Nat.le_of_ble_eq_true rfl) ⟨by omega, by omega⟩) rfl (fun M72 e72 => ?_)
    subst e72
    refine pw_if_eq_n (q := 78) 80 C dX11_cut_75 (by decide) rfl (by omega) (fun g75 => absurd g75 (by decide)) (fun g75 => ?_)
    refine pw_iconst_n (q := 79) C 0 dX11_cut_78 (by decide +kernel) rfl ?_
    exact pw_iret C dX11_cut_79 rfl ⟨by omega, by omega⟩ ((QM.no 0 (by rw [spCut, if_neg (fun q => h1 q.1)]) (RepM.mk hD hK hF) same_mh))
set_option maxHeartbeats 200000 in
set_option maxRecDepth 100000 in
theorem c_recut {M : PH} {m rf D0 : Nat} {S : St} (hM : RepM M m rf S) (hB : MB S) (hS : SInv D0 S) (c1 c2 c3 : Int32) : Run iX11_recut [.ref m, .int c1, .int c2, .int c3] M 0 0 (QM M m (spRecut S c1 c2 c3)) := by
  obtain ⟨M0, sp, ft, R, Q, D, K, L, rfl, hD, hK, hF⟩ := hM
  have hI := hS.1.1
  have hb := hI.b
  obtain ⟨hB1, hB2, hB3, hB4⟩ := id hB
  refine Run.of (l0 := [some (.ref m), some (.int c1), some (.int c2), some (.int c3), none]) (by decide +kernel) (Nat.le_of_ble_eq_true rfl) (by rfl) (fun Γ G C => ?_)
  by_cases h1 : inI c1 (sP S 6)
  · obtain ⟨k1, hk1, rfl⟩ := inI_n h1 (by omega)
    refine pw_aload_n (q := 1) (j := 0) C dX11_recut_0 rfl rfl rfl ?_
    refine pw_getf (q := 4) C dX11_recut_1 fX11_16 mh_o (by rfl) rfl ?_
    refine pw_iload_n (q := 5) (j := 1) C dX11_recut_4 rfl rfl rfl ?_
    refine pw_rd (q := 8) (cr_s (j := iX11_isMason) C dX11_recut_5 lX11_131 mX11_isMason (ro_mk (by decide) (by decide))  (rv_t h1 (m_isMason mh_P (by omega) _)) rfl rfl (Nat.le_of_ble_eq_true rfl) ⟨by omega, by omega⟩) rfl ?_
    refine pw_if_eq_n (q := 11) 37 C dX11_recut_8 (by decide) rfl (by omega) (fun g8 => absurd g8 (by decide)) (fun g8 => ?_)
    by_cases h2 : inI c2 (sP S 7)
    · obtain ⟨k2, hk2, rfl⟩ := inI_n h2 (by omega)
      refine pw_aload_n (q := 12) (j := 0) C dX11_recut_11 rfl rfl rfl ?_
      refine pw_getf (q := 15) C dX11_recut_12 fX11_16 mh_o (by rfl) rfl ?_
      refine pw_iload_n (q := 16) (j := 2) C dX11_recut_15 rfl rfl rfl ?_
      refine pw_rd (q := 19) (cr_s (j := iX11_isStone) C dX11_recut_16 lX11_139 mX11_isStone (ro_mk (by decide) (by decide))  (rv_t h2 (m_isStone mh_P (by omega) _)) rfl rfl (Nat.le_of_ble_eq_true rfl) ⟨by omega, by omega⟩) rfl ?_
      refine pw_if_eq_n (q := 22) 37 C dX11_recut_19 (by decide) rfl (by omega) (fun g19 => absurd g19 (by decide)) (fun g19 => ?_)
      by_cases h3 : inI c3 (sP S 5)
      · obtain ⟨k3, hk3, rfl⟩ := inI_n h3 (by omega)
        refine pw_aload_n (q := 23) (j := 0) C dX11_recut_22 rfl rfl rfl ?_
        refine pw_getf (q := 26) C dX11_recut_23 fX11_16 mh_o (by rfl) rfl ?_
        refine pw_iload_n (q := 27) (j := 3) C dX11_recut_26 rfl rfl rfl ?_
        refine pw_rd (q := 30) (cr_s (j := iX11_isCourse) C dX11_recut_27 lX11_126 mX11_isCourse (ro_mk (by decide) (by decide))  (rv_t h3 (m_isCourse mh_P (by omega) _)) rfl rfl (Nat.le_of_ble_eq_true rfl) ⟨by omega, by omega⟩) rfl ?_
        refine pw_if_eq_n (q := 33) 37 C dX11_recut_30 (by decide) rfl (by omega) (fun g30 => absurd g30 (by decide)) (fun g30 => ?_)
        refine pw_iconst_n (q := 34) C 1 dX11_recut_33 (by decide +kernel) rfl ?_
        refine pw_goto (q := 0) 38 C dX11_recut_34 (by decide) ?_
        refine pw_istore (q := 40) C dX11_recut_38 rfl (by decide) rfl ?_
        refine pw_aload_n (q := 41) (j := 0) C dX11_recut_40 rfl rfl rfl ?_
        refine pw_iload (q := 43) C dX11_recut_41 rfl rfl ?_
        refine pw_if_ne_n (q := 46) 50 C dX11_recut_43 (by decide) rfl (by omega) (fun g43 => ?_) (fun g43 => absurd g43 (by decide))
        refine pw_aload_n (q := 51) (j := 0) C dX11_recut_50 rfl rfl rfl ?_
        refine pw_getf (q := 54) C dX11_recut_51 fX11_16 mh_o (by rfl) rfl ?_
        refine pw_iload_n (q := 55) (j := 1) C dX11_recut_54 rfl rfl rfl ?_
        refine pw_iload_n (q := 56) (j := 2) C dX11_recut_55 rfl rfl rfl ?_
        refine pw_iload_n (q := 57) (j := 3) C dX11_recut_56 rfl rfl rfl ?_
        refine pw_rd (q := 60) (cr_s (j := iX11_canRecut) C dX11_recut_57 lX11_162 mX11_canRecut (ro_mk (by decide) (by decide))  (m_canRecut mh_P hI hk1 hk2 hk3) rfl rfl (Nat.le_of_ble_eq_true rfl) ⟨by omega, by omega⟩) rfl ?_
        refine pw_if_ne_b (q := 63) 67 C dX11_recut_60 (by decide) rfl (fun g60 => ?_) (fun g60 => ?_)
        · refine pw_iconst_n (q := 68) C 0 dX11_recut_67 (by decide +kernel) rfl ?_
          refine pw_val (q := 71) (cr_v (j := iX11_refused) C dX11_recut_68 lX11_76 mX11_refused (ro_mk (by decide) (by decide)) mh_o rfl (rv_f (by decide) (m_refused 0 (by decide))) rfl rfl (Nat.le_of_ble_eq_true rfl) ⟨by omega, by omega⟩) rfl (fun M68 e68 => ?_)
          subst e68
          refine pw_if_eq_n (q := 74) 76 C dX11_recut_71 (by decide) rfl (by omega) (fun g71 => ?_) (fun g71 => absurd g71 (fun q => q rfl))
          refine pw_aload_n (q := 77) (j := 0) C dX11_recut_76 rfl rfl rfl ?_
          refine pw_void (q := 80) (cr_v (j := iX11_note) C dX11_recut_77 lX11_147 mX11_note (ro_mk (by decide) (by decide)) mh_o rfl (m_note hB3) rfl rfl (Nat.le_of_ble_eq_true rfl) ⟨by omega, by omega⟩) rfl (fun M77 e77 => ?_)
          subst e77
          refine pw_aload_n (q := 81) (j := 0) C dX11_recut_80 rfl rfl rfl ?_
          refine pw_getf (q := 84) C dX11_recut_81 fX11_16 mh_o (by rfl) rfl ?_
          refine pw_iload_n (q := 85) (j := 1) C dX11_recut_84 rfl rfl rfl ?_
          refine pw_iload_n (q := 86) (j := 2) C dX11_recut_85 rfl rfl rfl ?_
          refine pw_iload_n (q := 87) (j := 3) C dX11_recut_86 rfl rfl rfl ?_
          refine pw_val (q := 90) (cr_s (j := iX11_recutOn) C dX11_recut_87 lX11_166 mX11_recutOn (ro_mk (by decide) (by decide))  (m_recutOn mh_P hI hk1 hk2 hk3 g60) rfl rfl (Nat.le_of_ble_eq_true rfl) ⟨by omega, by omega⟩) rfl (fun M87 e87 => ?_)
          rw [mh_s_P] at e87
          subst e87
          exact pw_iret C dX11_recut_90 rfl ⟨by omega, by omega⟩ ((QM.ok (by rw [spRecut, if_pos ⟨h1, h2, h3⟩, idx_n (show k1 < 2147483648 by omega), idx_n (show k2 < 2147483648 by omega), idx_n (show k3 < 2147483648 by omega), if_pos g60] <;> rfl) (RepM.mk (S := wA S _) (noteD_rel hB3 hD) hK hF) same_mh))
        · refine pw_iconst_n (q := 64) C 2 dX11_recut_63 (by decide +kernel) rfl ?_
          refine pw_goto (q := 0) 68 C dX11_recut_64 (by decide) ?_
          refine pw_val (q := 71) (cr_v (j := iX11_refused) C dX11_recut_68 lX11_76 mX11_refused (ro_mk (by decide) (by decide)) mh_o rfl (rv_t (by decide) (m_refused 2 (by decide))) rfl rfl (Nat.le_of_ble_eq_true rfl) ⟨by omega, by omega⟩) rfl (fun M68 e68 => ?_)
          subst e68
          refine pw_if_eq_n (q := 74) 76 C dX11_recut_71 (by decide) rfl (by omega) (fun g71 => absurd g71 (by decide)) (fun g71 => ?_)
          refine pw_iconst_n (q := 75) C 0 dX11_recut_74 (by decide +kernel) rfl ?_
          exact pw_iret C dX11_recut_75 rfl ⟨by omega, by omega⟩ ((QM.no 1 (by rw [spRecut, if_pos ⟨h1, h2, h3⟩, idx_n (show k1 < 2147483648 by omega), idx_n (show k2 < 2147483648 by omega), idx_n (show k3 < 2147483648 by omega), if_neg g60]) (RepM.mk hD hK hF) same_mh))
      · refine pw_aload_n (q := 23) (j := 0) C dX11_recut_22 rfl rfl rfl ?_
        refine pw_getf (q := 26) C dX11_recut_23 fX11_16 mh_o (by rfl) rfl ?_
        refine pw_iload_n (q := 27) (j := 3) C dX11_recut_26 rfl rfl rfl ?_
        refine pw_rd (q := 30) (cr_s (j := iX11_isCourse) C dX11_recut_27 lX11_126 mX11_isCourse (ro_mk (by decide) (by decide))  (rv_f h3 (m_isCourse mh_P (by omega) _)) rfl rfl (Nat.le_of_ble_eq_true rfl) ⟨by omega, by omega⟩) rfl ?_
        refine pw_if_eq_n (q := 33) 37 C dX11_recut_30 (by decide) rfl (by omega) (fun g30 => ?_) (fun g30 => absurd g30 (fun q => q rfl))
        refine pw_iconst_n (q := 38) C 0 dX11_recut_37 (by decide +kernel) rfl ?_
        refine pw_istore (q := 40) C dX11_recut_38 rfl (by decide) rfl ?_
        refine pw_aload_n (q := 41) (j := 0) C dX11_recut_40 rfl rfl rfl ?_
        refine pw_iload (q := 43) C dX11_recut_41 rfl rfl ?_
        refine pw_if_ne_n (q := 46) 50 C dX11_recut_43 (by decide) rfl (by omega) (fun g43 => absurd g43 (fun q => q rfl)) (fun g43 => ?_)
        refine pw_iconst_n (q := 47) C 1 dX11_recut_46 (by decide +kernel) rfl ?_
        refine pw_goto (q := 0) 68 C dX11_recut_47 (by decide) ?_
        refine pw_val (q := 71) (cr_v (j := iX11_refused) C dX11_recut_68 lX11_76 mX11_refused (ro_mk (by decide) (by decide)) mh_o rfl (rv_t (by decide) (m_refused 1 (by decide))) rfl rfl (Nat.le_of_ble_eq_true rfl) ⟨by omega, by omega⟩) rfl (fun M68 e68 => ?_)
        subst e68
        refine pw_if_eq_n (q := 74) 76 C dX11_recut_71 (by decide) rfl (by omega) (fun g71 => absurd g71 (by decide)) (fun g71 => ?_)
        refine pw_iconst_n (q := 75) C 0 dX11_recut_74 (by decide +kernel) rfl ?_
        exact pw_iret C dX11_recut_75 rfl ⟨by omega, by omega⟩ ((QM.no 0 (by rw [spRecut, if_neg (fun q => h3 q.2.2)]) (RepM.mk hD hK hF) same_mh))
    · refine pw_aload_n (q := 12) (j := 0) C dX11_recut_11 rfl rfl rfl ?_
      refine pw_getf (q := 15) C dX11_recut_12 fX11_16 mh_o (by rfl) rfl ?_
      refine pw_iload_n (q := 16) (j := 2) C dX11_recut_15 rfl rfl rfl ?_
      refine pw_rd (q := 19) (cr_s (j := iX11_isStone) C dX11_recut_16 lX11_139 mX11_isStone (ro_mk (by decide) (by decide))  (rv_f h2 (m_isStone mh_P (by omega) _)) rfl rfl (Nat.le_of_ble_eq_true rfl) ⟨by omega, by omega⟩) rfl ?_
      refine pw_if_eq_n (q := 22) 37 C dX11_recut_19 (by decide) rfl (by omega) (fun g19 => ?_) (fun g19 => absurd g19 (fun q => q rfl))
      refine pw_iconst_n (q := 38) C 0 dX11_recut_37 (by decide +kernel) rfl ?_
      refine pw_istore (q := 40) C dX11_recut_38 rfl (by decide) rfl ?_
      refine pw_aload_n (q := 41) (j := 0) C dX11_recut_40 rfl rfl rfl ?_
      refine pw_iload (q := 43) C dX11_recut_41 rfl rfl ?_
      refine pw_if_ne_n (q := 46) 50 C dX11_recut_43 (by decide) rfl (by omega) (fun g43 => absurd g43 (fun q => q rfl)) (fun g43 => ?_)
      refine pw_iconst_n (q := 47) C 1 dX11_recut_46 (by decide +kernel) rfl ?_
      refine pw_goto (q := 0) 68 C dX11_recut_47 (by decide) ?_
      refine pw_val (q := 71) (cr_v (j := iX11_refused) C dX11_recut_68 lX11_76 mX11_refused (ro_mk (by decide) (by decide)) mh_o rfl (rv_t (by decide) (m_refused 1 (by decide))) rfl rfl (Nat.le_of_ble_eq_true rfl) ⟨by omega, by omega⟩) rfl (fun M68 e68 => ?_)
      subst e68
      refine pw_if_eq_n (q := 74) 76 C dX11_recut_71 (by decide) rfl (by omega) (fun g71 => absurd g71 (by decide)) (fun g71 => ?_)
      refine pw_iconst_n (q := 75) C 0 dX11_recut_74 (by decide +kernel) rfl ?_
      exact pw_iret C dX11_recut_75 rfl ⟨by omega, by omega⟩ ((QM.no 0 (by rw [spRecut, if_neg (fun q => h2 q.2.1)]) (RepM.mk hD hK hF) same_mh))
  · refine pw_aload_n (q := 1) (j := 0) C dX11_recut_0 rfl rfl rfl ?_
    refine pw_getf (q := 4) C dX11_recut_1 fX11_16 mh_o (by rfl) rfl ?_
    refine pw_iload_n (q := 5) (j := 1) C dX11_recut_4 rfl rfl rfl ?_
    refine pw_rd (q := 8) (cr_s (j := iX11_isMason) C dX11_recut_5 lX11_131 mX11_isMason (ro_mk (by decide) (by decide))  (rv_f h1 (m_isMason mh_P (by omega) _)) rfl rfl (Nat.le_of_ble_eq_true rfl) ⟨by omega, by omega⟩) rfl ?_
    refine pw_if_eq_n (q := 11) 37 C dX11_recut_8 (by decide) rfl (by omega) (fun g8 => ?_) (fun g8 => absurd g8 (fun q => q rfl))
    refine pw_iconst_n (q := 38) C 0 dX11_recut_37 (by decide +kernel) rfl ?_
    refine pw_istore (q := 40) C dX11_recut_38 rfl (by decide) rfl ?_
    refine pw_aload_n (q := 41) (j := 0) C dX11_recut_40 rfl rfl rfl ?_
    refine pw_iload (q := 43) C dX11_recut_41 rfl rfl ?_
    refine pw_if_ne_n (q := 46) 50 C dX11_recut_43 (by decide) rfl (by omega) (fun g43 => absurd g43 (fun q => q rfl)) (fun g43 => ?_)
    refine pw_iconst_n (q := 47) C 1 dX11_recut_46 (by decide +kernel) rfl ?_
    refine pw_goto (q := 0) 68 C dX11_recut_47 (by decide) ?_
    refine pw_val (q := 71) (cr_v (j := iX11_refused) C dX11_recut_68 lX11_76 mX11_refused (ro_mk (by decide) (by decide)) mh_o rfl (rv_t (by decide) (m_refused 1 (by decide))) rfl rfl (Nat.le_of_ble_eq_true rfl) ⟨by omega, by omega⟩) rfl (fun M68 e68 => ?_)
    subst e68
    refine pw_if_eq_n (q := 74) 76 C dX11_recut_71 (by decide) rfl (by omega) (fun g71 => absurd g71 (by decide)) (fun g71 => ?_)
    refine pw_iconst_n (q := 75) C 0 dX11_recut_74 (by decide +kernel) rfl ?_
    exact pw_iret C dX11_recut_75 rfl ⟨by omega, by omega⟩ ((QM.no 0 (by rw [spRecut, if_neg (fun q => h1 q.1)]) (RepM.mk hD hK hF) same_mh))
set_option maxHeartbeats 200000 in
set_option maxRecDepth 100000 in
theorem c_inspect {M : PH} {m rf D0 : Nat} {S : St} (hM : RepM M m rf S) (hB : MB S) (hS : SInv D0 S) (c1 : Int32) : Run iX11_inspect [.ref m, .int c1] M 0 0 (QM M m (spInspect S c1)) := by
  obtain ⟨M0, sp, ft, R, Q, D, K, L, rfl, hD, hK, hF⟩ := hM
  have hI := hS.1.1
  have hb := hI.b
  obtain ⟨hB1, hB2, hB3, hB4⟩ := id hB
  refine Run.of (l0 := [some (.ref m), some (.int c1)]) (by decide +kernel) (Nat.le_of_ble_eq_true rfl) (by rfl) (fun Γ G C => ?_)
  by_cases h1 : inI c1 (sP S 7)
  · obtain ⟨k1, hk1, rfl⟩ := inI_n h1 (by omega)
    have w9 := why_le (sP S) k1
    have s9 := hI.s hk1
    refine pw_aload_n (q := 1) (j := 0) C dX11_inspect_0 rfl rfl rfl ?_
    refine pw_aload_n (q := 2) (j := 0) C dX11_inspect_1 rfl rfl rfl ?_
    refine pw_getf (q := 5) C dX11_inspect_2 fX11_16 mh_o (by rfl) rfl ?_
    refine pw_iload_n (q := 6) (j := 1) C dX11_inspect_5 rfl rfl rfl ?_
    refine pw_rd (q := 9) (cr_s (j := iX11_isStone) C dX11_inspect_6 lX11_139 mX11_isStone (ro_mk (by decide) (by decide))  (rv_t h1 (m_isStone mh_P (by omega) _)) rfl rfl (Nat.le_of_ble_eq_true rfl) ⟨by omega, by omega⟩) rfl ?_
    refine pw_if_ne_n (q := 12) 16 C dX11_inspect_9 (by decide) rfl (by omega) (fun g9 => ?_) (fun g9 => absurd g9 (by decide))
    refine pw_aload_n (q := 17) (j := 0) C dX11_inspect_16 rfl rfl rfl ?_
    refine pw_getf (q := 20) C dX11_inspect_17 fX11_16 mh_o (by rfl) rfl ?_
    refine pw_bipush_n (q := 22) C 50 dX11_inspect_20 (by decide +kernel) rfl ?_
    refine pw_bipush_n (q := 24) C 6 dX11_inspect_22 (by decide +kernel) rfl ?_
    refine pw_iload_n (q := 25) (j := 1) C dX11_inspect_24 rfl rfl rfl ?_
    refine pw_imul_n (q := 26) C dX11_inspect_25 rfl ?_
    refine pw_iadd_n (q := 27) C dX11_inspect_26 rfl ?_
    refine pw_iconst_n (q := 28) C 3 dX11_inspect_27 (by decide +kernel) rfl ?_
    refine pw_iadd_n (q := 29) C dX11_inspect_28 rfl ?_
    refine pw_ipg (q := 30) C dX11_inspect_29 mh_P (by omega) (by omega) rfl ?_
    refine pw_if_eq_n (q := 33) 37 C dX11_inspect_30 (by decide) rfl (by omega) (fun g30 => ?_) (fun g30 => ?_)
    · refine pw_iconst_n (q := 38) C 0 dX11_inspect_37 (by decide +kernel) rfl ?_
      refine pw_val (q := 41) (cr_v (j := iX11_refused) C dX11_inspect_38 lX11_76 mX11_refused (ro_mk (by decide) (by decide)) mh_o rfl (rv_f (by decide) (m_refused 0 (by decide))) rfl rfl (Nat.le_of_ble_eq_true rfl) ⟨by omega, by omega⟩) rfl (fun M38 e38 => ?_)
      subst e38
      refine pw_if_eq_n (q := 44) 46 C dX11_inspect_41 (by decide) rfl (by omega) (fun g41 => ?_) (fun g41 => absurd g41 (fun q => q rfl))
      refine pw_aload_n (q := 47) (j := 0) C dX11_inspect_46 rfl rfl rfl ?_
      refine pw_void (q := 50) (cr_v (j := iX11_note) C dX11_inspect_47 lX11_147 mX11_note (ro_mk (by decide) (by decide)) mh_o rfl (m_note hB3) rfl rfl (Nat.le_of_ble_eq_true rfl) ⟨by omega, by omega⟩) rfl (fun M47 e47 => ?_)
      subst e47
      refine pw_aload_n (q := 51) (j := 0) C dX11_inspect_50 rfl rfl rfl ?_
      refine pw_getf (q := 54) C dX11_inspect_51 fX11_16 mh_o (by rfl) rfl ?_
      refine pw_iload_n (q := 55) (j := 1) C dX11_inspect_54 rfl rfl rfl ?_
      refine pw_val (q := 58) (cr_s (j := iX11_inspectOn) C dX11_inspect_55 lX11_159 mX11_inspectOn (ro_mk (by decide) (by decide))  (m_inspectOn mh_P hI hk1) rfl rfl (Nat.le_of_ble_eq_true rfl) ⟨by omega, by omega⟩) rfl (fun M55 e55 => ?_)
      rw [mh_s_P] at e55
      subst e55
      exact pw_iret C dX11_inspect_58 rfl ⟨by omega, by omega⟩ ((QM.ok (by rw [spInspect, if_pos h1, idx_n (show k1 < 2147483648 by omega), if_pos g30] <;> rfl) (RepM.mk (S := wA S _) (noteD_rel hB3 hD) hK hF) same_mh))
    · refine pw_iconst_n (q := 34) C 2 dX11_inspect_33 (by decide +kernel) rfl ?_
      refine pw_goto (q := 0) 38 C dX11_inspect_34 (by decide) ?_
      refine pw_val (q := 41) (cr_v (j := iX11_refused) C dX11_inspect_38 lX11_76 mX11_refused (ro_mk (by decide) (by decide)) mh_o rfl (rv_t (by decide) (m_refused 2 (by decide))) rfl rfl (Nat.le_of_ble_eq_true rfl) ⟨by omega, by omega⟩) rfl (fun M38 e38 => ?_)
      subst e38
      refine pw_if_eq_n (q := 44) 46 C dX11_inspect_41 (by decide) rfl (by omega) (fun g41 => absurd g41 (by decide)) (fun g41 => ?_)
      refine pw_iconst_n (q := 45) C 0 dX11_inspect_44 (by decide +kernel) rfl ?_
      exact pw_iret C dX11_inspect_45 rfl ⟨by omega, by omega⟩ ((QM.no 1 (by rw [spInspect, if_pos h1, idx_n (show k1 < 2147483648 by omega), if_neg (by omega)]) (RepM.mk hD hK hF) same_mh))
  · refine pw_aload_n (q := 1) (j := 0) C dX11_inspect_0 rfl rfl rfl ?_
    refine pw_aload_n (q := 2) (j := 0) C dX11_inspect_1 rfl rfl rfl ?_
    refine pw_getf (q := 5) C dX11_inspect_2 fX11_16 mh_o (by rfl) rfl ?_
    refine pw_iload_n (q := 6) (j := 1) C dX11_inspect_5 rfl rfl rfl ?_
    refine pw_rd (q := 9) (cr_s (j := iX11_isStone) C dX11_inspect_6 lX11_139 mX11_isStone (ro_mk (by decide) (by decide))  (rv_f h1 (m_isStone mh_P (by omega) _)) rfl rfl (Nat.le_of_ble_eq_true rfl) ⟨by omega, by omega⟩) rfl ?_
    refine pw_if_ne_n (q := 12) 16 C dX11_inspect_9 (by decide) rfl (by omega) (fun g9 => absurd g9 (fun q => q rfl)) (fun g9 => ?_)
    refine pw_iconst_n (q := 13) C 1 dX11_inspect_12 (by decide +kernel) rfl ?_
    refine pw_goto (q := 0) 38 C dX11_inspect_13 (by decide) ?_
    refine pw_val (q := 41) (cr_v (j := iX11_refused) C dX11_inspect_38 lX11_76 mX11_refused (ro_mk (by decide) (by decide)) mh_o rfl (rv_t (by decide) (m_refused 1 (by decide))) rfl rfl (Nat.le_of_ble_eq_true rfl) ⟨by omega, by omega⟩) rfl (fun M38 e38 => ?_)
    subst e38
    refine pw_if_eq_n (q := 44) 46 C dX11_inspect_41 (by decide) rfl (by omega) (fun g41 => absurd g41 (by decide)) (fun g41 => ?_)
    refine pw_iconst_n (q := 45) C 0 dX11_inspect_44 (by decide +kernel) rfl ?_
    exact pw_iret C dX11_inspect_45 rfl ⟨by omega, by omega⟩ ((QM.no 0 (by rw [spInspect, if_neg h1]) (RepM.mk hD hK hF) same_mh))
set_option maxHeartbeats 200000 in
set_option maxRecDepth 100000 in
theorem c_scrap {M : PH} {m rf D0 : Nat} {S : St} (hM : RepM M m rf S) (hB : MB S) (hS : SInv D0 S) (c1 : Int32) : Run iX11_scrap [.ref m, .int c1] M 0 0 (QM M m (spScrap S c1)) := by
  obtain ⟨M0, sp, ft, R, Q, D, K, L, rfl, hD, hK, hF⟩ := hM
  have hI := hS.1.1
  have hb := hI.b
  obtain ⟨hB1, hB2, hB3, hB4⟩ := id hB
  refine Run.of (l0 := [some (.ref m), some (.int c1)]) (by decide +kernel) (Nat.le_of_ble_eq_true rfl) (by rfl) (fun Γ G C => ?_)
  by_cases h1 : inI c1 (sP S 7)
  · obtain ⟨k1, hk1, rfl⟩ := inI_n h1 (by omega)
    have w9 := why_le (sP S) k1
    have s9 := hI.s hk1
    refine pw_aload_n (q := 1) (j := 0) C dX11_scrap_0 rfl rfl rfl ?_
    refine pw_aload_n (q := 2) (j := 0) C dX11_scrap_1 rfl rfl rfl ?_
    refine pw_getf (q := 5) C dX11_scrap_2 fX11_16 mh_o (by rfl) rfl ?_
    refine pw_iload_n (q := 6) (j := 1) C dX11_scrap_5 rfl rfl rfl ?_
    refine pw_rd (q := 9) (cr_s (j := iX11_isStone) C dX11_scrap_6 lX11_139 mX11_isStone (ro_mk (by decide) (by decide))  (rv_t h1 (m_isStone mh_P (by omega) _)) rfl rfl (Nat.le_of_ble_eq_true rfl) ⟨by omega, by omega⟩) rfl ?_
    refine pw_if_ne_n (q := 12) 16 C dX11_scrap_9 (by decide) rfl (by omega) (fun g9 => ?_) (fun g9 => absurd g9 (by decide))
    refine pw_aload_n (q := 17) (j := 0) C dX11_scrap_16 rfl rfl rfl ?_
    refine pw_getf (q := 20) C dX11_scrap_17 fX11_16 mh_o (by rfl) rfl ?_
    refine pw_bipush_n (q := 22) C 50 dX11_scrap_20 (by decide +kernel) rfl ?_
    refine pw_bipush_n (q := 24) C 6 dX11_scrap_22 (by decide +kernel) rfl ?_
    refine pw_iload_n (q := 25) (j := 1) C dX11_scrap_24 rfl rfl rfl ?_
    refine pw_imul_n (q := 26) C dX11_scrap_25 rfl ?_
    refine pw_iadd_n (q := 27) C dX11_scrap_26 rfl ?_
    refine pw_iconst_n (q := 28) C 3 dX11_scrap_27 (by decide +kernel) rfl ?_
    refine pw_iadd_n (q := 29) C dX11_scrap_28 rfl ?_
    refine pw_ipg (q := 30) C dX11_scrap_29 mh_P (by omega) (by omega) rfl ?_
    refine pw_iconst_n (q := 31) C 2 dX11_scrap_30 (by decide +kernel) rfl ?_
    refine pw_icmp_eq_n (q := 34) 38 C dX11_scrap_31 (by decide) rfl (by omega) (by omega) (fun g31 => ?_) (fun g31 => ?_)
    · refine pw_iconst_n (q := 39) C 0 dX11_scrap_38 (by decide +kernel) rfl ?_
      refine pw_val (q := 42) (cr_v (j := iX11_refused) C dX11_scrap_39 lX11_76 mX11_refused (ro_mk (by decide) (by decide)) mh_o rfl (rv_f (by decide) (m_refused 0 (by decide))) rfl rfl (Nat.le_of_ble_eq_true rfl) ⟨by omega, by omega⟩) rfl (fun M39 e39 => ?_)
      subst e39
      refine pw_if_eq_n (q := 45) 47 C dX11_scrap_42 (by decide) rfl (by omega) (fun g42 => ?_) (fun g42 => absurd g42 (fun q => q rfl))
      refine pw_aload_n (q := 48) (j := 0) C dX11_scrap_47 rfl rfl rfl ?_
      refine pw_void (q := 51) (cr_v (j := iX11_note) C dX11_scrap_48 lX11_147 mX11_note (ro_mk (by decide) (by decide)) mh_o rfl (m_note hB3) rfl rfl (Nat.le_of_ble_eq_true rfl) ⟨by omega, by omega⟩) rfl (fun M48 e48 => ?_)
      subst e48
      refine pw_aload_n (q := 52) (j := 0) C dX11_scrap_51 rfl rfl rfl ?_
      refine pw_getf (q := 55) C dX11_scrap_52 fX11_16 mh_o (by rfl) rfl ?_
      refine pw_bipush_n (q := 57) C 50 dX11_scrap_55 (by decide +kernel) rfl ?_
      refine pw_bipush_n (q := 59) C 6 dX11_scrap_57 (by decide +kernel) rfl ?_
      refine pw_iload_n (q := 60) (j := 1) C dX11_scrap_59 rfl rfl rfl ?_
      refine pw_imul_n (q := 61) C dX11_scrap_60 rfl ?_
      refine pw_iadd_n (q := 62) C dX11_scrap_61 rfl ?_
      refine pw_iconst_n (q := 63) C 3 dX11_scrap_62 (by decide +kernel) rfl ?_
      refine pw_iadd_n (q := 64) C dX11_scrap_63 rfl ?_
      refine pw_iconst_n (q := 65) C 4 dX11_scrap_64 (by decide +kernel) rfl ?_
      refine pw_ipgst (q := 66) C dX11_scrap_65 mh_P (by omega) (by omega) rfl ?_
      rw [mh_s_P]
      refine pw_aload_n (q := 67) (j := 0) C dX11_scrap_66 rfl rfl rfl ?_
      refine pw_getf (q := 70) C dX11_scrap_67 fX11_16 mh_o (by rfl) rfl ?_
      refine pw_iconst_n (q := 71) C 4 dX11_scrap_70 (by decide +kernel) rfl ?_
      refine pw_rd (q := 74) (cr_s (j := iX11_stonesWith) C dX11_scrap_71 lX11_119 mX11_stonesWith (ro_mk (by decide) (by decide))  (m_stonesWith (P := stateP (sP S) k1 4) mh_P (hI.scrap hk1 g31) (by omega)) rfl rfl (Nat.le_of_ble_eq_true rfl) ⟨by omega, by omega⟩) rfl ?_
      exact pw_iret C dX11_scrap_74 rfl ⟨by omega, by omega⟩ ((QM.ok (by rw [spScrap, if_pos h1, idx_n (show k1 < 2147483648 by omega), if_pos g31] <;> rfl) (RepM.mk (S := wA S _) (noteD_rel hB3 hD) hK hF) same_mh))
    · refine pw_iconst_n (q := 35) C 2 dX11_scrap_34 (by decide +kernel) rfl ?_
      refine pw_goto (q := 0) 39 C dX11_scrap_35 (by decide) ?_
      refine pw_val (q := 42) (cr_v (j := iX11_refused) C dX11_scrap_39 lX11_76 mX11_refused (ro_mk (by decide) (by decide)) mh_o rfl (rv_t (by decide) (m_refused 2 (by decide))) rfl rfl (Nat.le_of_ble_eq_true rfl) ⟨by omega, by omega⟩) rfl (fun M39 e39 => ?_)
      subst e39
      refine pw_if_eq_n (q := 45) 47 C dX11_scrap_42 (by decide) rfl (by omega) (fun g42 => absurd g42 (by decide)) (fun g42 => ?_)
      refine pw_iconst_n (q := 46) C 0 dX11_scrap_45 (by decide +kernel) rfl ?_
      exact pw_iret C dX11_scrap_46 rfl ⟨by omega, by omega⟩ ((QM.no 1 (by rw [spScrap, if_pos h1, idx_n (show k1 < 2147483648 by omega), if_neg (by omega)]) (RepM.mk hD hK hF) same_mh))
  · refine pw_aload_n (q := 1) (j := 0) C dX11_scrap_0 rfl rfl rfl ?_
    refine pw_aload_n (q := 2) (j := 0) C dX11_scrap_1 rfl rfl rfl ?_
    refine pw_getf (q := 5) C dX11_scrap_2 fX11_16 mh_o (by rfl) rfl ?_
    refine pw_iload_n (q := 6) (j := 1) C dX11_scrap_5 rfl rfl rfl ?_
    refine pw_rd (q := 9) (cr_s (j := iX11_isStone) C dX11_scrap_6 lX11_139 mX11_isStone (ro_mk (by decide) (by decide))  (rv_f h1 (m_isStone mh_P (by omega) _)) rfl rfl (Nat.le_of_ble_eq_true rfl) ⟨by omega, by omega⟩) rfl ?_
    refine pw_if_ne_n (q := 12) 16 C dX11_scrap_9 (by decide) rfl (by omega) (fun g9 => absurd g9 (fun q => q rfl)) (fun g9 => ?_)
    refine pw_iconst_n (q := 13) C 1 dX11_scrap_12 (by decide +kernel) rfl ?_
    refine pw_goto (q := 0) 39 C dX11_scrap_13 (by decide) ?_
    refine pw_val (q := 42) (cr_v (j := iX11_refused) C dX11_scrap_39 lX11_76 mX11_refused (ro_mk (by decide) (by decide)) mh_o rfl (rv_t (by decide) (m_refused 1 (by decide))) rfl rfl (Nat.le_of_ble_eq_true rfl) ⟨by omega, by omega⟩) rfl (fun M39 e39 => ?_)
    subst e39
    refine pw_if_eq_n (q := 45) 47 C dX11_scrap_42 (by decide) rfl (by omega) (fun g42 => absurd g42 (by decide)) (fun g42 => ?_)
    refine pw_iconst_n (q := 46) C 0 dX11_scrap_45 (by decide +kernel) rfl ?_
    exact pw_iret C dX11_scrap_46 rfl ⟨by omega, by omega⟩ ((QM.no 0 (by rw [spScrap, if_neg h1]) (RepM.mk hD hK hF) same_mh))
set_option maxHeartbeats 200000 in
set_option maxRecDepth 100000 in
theorem c_set {M : PH} {m rf D0 : Nat} {S : St} (hM : RepM M m rf S) (hB : MB S) (hS : SInv D0 S) (c1 : Int32) : Run iX11_set [.ref m, .int c1] M 0 0 (QM M m (spSet S c1)) := by
  obtain ⟨M0, sp, ft, R, Q, D, K, L, rfl, hD, hK, hF⟩ := hM
  have hI := hS.1.1
  have hb := hI.b
  obtain ⟨hB1, hB2, hB3, hB4⟩ := id hB
  refine Run.of (l0 := [some (.ref m), some (.int c1)]) (by decide +kernel) (Nat.le_of_ble_eq_true rfl) (by rfl) (fun Γ G C => ?_)
  by_cases h1 : inI c1 (sP S 7)
  · obtain ⟨k1, hk1, rfl⟩ := inI_n h1 (by omega)
    have w9 := why_le (sP S) k1
    have s9 := hI.s hk1
    refine pw_aload_n (q := 1) (j := 0) C dX11_set_0 rfl rfl rfl ?_
    refine pw_aload_n (q := 2) (j := 0) C dX11_set_1 rfl rfl rfl ?_
    refine pw_getf (q := 5) C dX11_set_2 fX11_16 mh_o (by rfl) rfl ?_
    refine pw_iload_n (q := 6) (j := 1) C dX11_set_5 rfl rfl rfl ?_
    refine pw_rd (q := 9) (cr_s (j := iX11_isStone) C dX11_set_6 lX11_139 mX11_isStone (ro_mk (by decide) (by decide))  (rv_t h1 (m_isStone mh_P (by omega) _)) rfl rfl (Nat.le_of_ble_eq_true rfl) ⟨by omega, by omega⟩) rfl ?_
    refine pw_if_ne_n (q := 12) 16 C dX11_set_9 (by decide) rfl (by omega) (fun g9 => ?_) (fun g9 => absurd g9 (by decide))
    refine pw_aload_n (q := 17) (j := 0) C dX11_set_16 rfl rfl rfl ?_
    refine pw_getf (q := 20) C dX11_set_17 fX11_16 mh_o (by rfl) rfl ?_
    refine pw_iload_n (q := 21) (j := 1) C dX11_set_20 rfl rfl rfl ?_
    refine pw_rd (q := 24) (cr_s (j := iX11_why) C dX11_set_21 lX11_142 mX11_why (ro_mk (by decide) (by decide))  (m_why mh_P hI (by omega)) rfl rfl (Nat.le_of_ble_eq_true rfl) ⟨by omega, by omega⟩) rfl ?_
    refine pw_if_eq_n (q := 27) 31 C dX11_set_24 (by decide) rfl (by omega) (fun g24 => ?_) (fun g24 => ?_)
    · refine pw_iconst_n (q := 32) C 0 dX11_set_31 (by decide +kernel) rfl ?_
      refine pw_val (q := 35) (cr_v (j := iX11_refused) C dX11_set_32 lX11_76 mX11_refused (ro_mk (by decide) (by decide)) mh_o rfl (rv_f (by decide) (m_refused 0 (by decide))) rfl rfl (Nat.le_of_ble_eq_true rfl) ⟨by omega, by omega⟩) rfl (fun M32 e32 => ?_)
      subst e32
      refine pw_if_eq_n (q := 38) 40 C dX11_set_35 (by decide) rfl (by omega) (fun g35 => ?_) (fun g35 => absurd g35 (fun q => q rfl))
      refine pw_aload_n (q := 41) (j := 0) C dX11_set_40 rfl rfl rfl ?_
      refine pw_void (q := 44) (cr_v (j := iX11_note) C dX11_set_41 lX11_147 mX11_note (ro_mk (by decide) (by decide)) mh_o rfl (m_note hB3) rfl rfl (Nat.le_of_ble_eq_true rfl) ⟨by omega, by omega⟩) rfl (fun M41 e41 => ?_)
      subst e41
      refine pw_aload_n (q := 45) (j := 0) C dX11_set_44 rfl rfl rfl ?_
      refine pw_getf (q := 48) C dX11_set_45 fX11_16 mh_o (by rfl) rfl ?_
      refine pw_bipush_n (q := 50) C 50 dX11_set_48 (by decide +kernel) rfl ?_
      refine pw_bipush_n (q := 52) C 6 dX11_set_50 (by decide +kernel) rfl ?_
      refine pw_iload_n (q := 53) (j := 1) C dX11_set_52 rfl rfl rfl ?_
      refine pw_imul_n (q := 54) C dX11_set_53 rfl ?_
      refine pw_iadd_n (q := 55) C dX11_set_54 rfl ?_
      refine pw_iconst_n (q := 56) C 3 dX11_set_55 (by decide +kernel) rfl ?_
      refine pw_iadd_n (q := 57) C dX11_set_56 rfl ?_
      refine pw_iconst_n (q := 58) C 3 dX11_set_57 (by decide +kernel) rfl ?_
      refine pw_ipgst (q := 59) C dX11_set_58 mh_P (by omega) (by omega) rfl ?_
      rw [mh_s_P]
      refine pw_aload_n (q := 60) (j := 0) C dX11_set_59 rfl rfl rfl ?_
      refine pw_getf (q := 63) C dX11_set_60 fX11_16 mh_o (by rfl) rfl ?_
      refine pw_aload_n (q := 64) (j := 0) C dX11_set_63 rfl rfl rfl ?_
      refine pw_getf (q := 67) C dX11_set_64 fX11_16 mh_o (by rfl) rfl ?_
      refine pw_bipush_n (q := 69) C 50 dX11_set_67 (by decide +kernel) rfl ?_
      refine pw_bipush_n (q := 71) C 6 dX11_set_69 (by decide +kernel) rfl ?_
      refine pw_iload_n (q := 72) (j := 1) C dX11_set_71 rfl rfl rfl ?_
      refine pw_imul_n (q := 73) C dX11_set_72 rfl ?_
      refine pw_iadd_n (q := 74) C dX11_set_73 rfl ?_
      refine pw_ipg (q := 75) C dX11_set_74 mh_P (by omega) (by omega) rfl ?_
      rw [updN_ne (show 50 + 6 * k1 ≠ 50 + 6 * k1 + 3 by omega)]
      refine pw_iconst_n (q := 76) C 3 dX11_set_75 (by decide +kernel) rfl ?_
      refine pw_rd (q := 79) (cr_s (j := iX11_stonesOf) C dX11_set_76 lX11_43 mX11_stonesOf (ro_mk (by decide) (by decide))  (m_stonesOf (P := stateP (sP S) k1 3) mh_P (hI.set hk1 g24) (by omega) (by omega)) rfl rfl (Nat.le_of_ble_eq_true rfl) ⟨by omega, by omega⟩) rfl ?_
      exact pw_iret C dX11_set_79 rfl ⟨by omega, by omega⟩ ((QM.ok (by rw [spSet, if_pos h1, idx_n (show k1 < 2147483648 by omega), if_pos g24] <;> rfl) (RepM.mk (S := wA S _) (noteD_rel hB3 hD) hK hF) same_mh))
    · refine pw_iconst_n (q := 28) C 2 dX11_set_27 (by decide +kernel) rfl ?_
      refine pw_goto (q := 0) 32 C dX11_set_28 (by decide) ?_
      refine pw_val (q := 35) (cr_v (j := iX11_refused) C dX11_set_32 lX11_76 mX11_refused (ro_mk (by decide) (by decide)) mh_o rfl (rv_t (by decide) (m_refused 2 (by decide))) rfl rfl (Nat.le_of_ble_eq_true rfl) ⟨by omega, by omega⟩) rfl (fun M32 e32 => ?_)
      subst e32
      refine pw_if_eq_n (q := 38) 40 C dX11_set_35 (by decide) rfl (by omega) (fun g35 => absurd g35 (by decide)) (fun g35 => ?_)
      refine pw_iconst_n (q := 39) C 0 dX11_set_38 (by decide +kernel) rfl ?_
      exact pw_iret C dX11_set_39 rfl ⟨by omega, by omega⟩ ((QM.no 1 (by rw [spSet, if_pos h1, idx_n (show k1 < 2147483648 by omega), if_neg (by omega)]) (RepM.mk hD hK hF) same_mh))
  · refine pw_aload_n (q := 1) (j := 0) C dX11_set_0 rfl rfl rfl ?_
    refine pw_aload_n (q := 2) (j := 0) C dX11_set_1 rfl rfl rfl ?_
    refine pw_getf (q := 5) C dX11_set_2 fX11_16 mh_o (by rfl) rfl ?_
    refine pw_iload_n (q := 6) (j := 1) C dX11_set_5 rfl rfl rfl ?_
    refine pw_rd (q := 9) (cr_s (j := iX11_isStone) C dX11_set_6 lX11_139 mX11_isStone (ro_mk (by decide) (by decide))  (rv_f h1 (m_isStone mh_P (by omega) _)) rfl rfl (Nat.le_of_ble_eq_true rfl) ⟨by omega, by omega⟩) rfl ?_
    refine pw_if_ne_n (q := 12) 16 C dX11_set_9 (by decide) rfl (by omega) (fun g9 => absurd g9 (fun q => q rfl)) (fun g9 => ?_)
    refine pw_iconst_n (q := 13) C 1 dX11_set_12 (by decide +kernel) rfl ?_
    refine pw_goto (q := 0) 32 C dX11_set_13 (by decide) ?_
    refine pw_val (q := 35) (cr_v (j := iX11_refused) C dX11_set_32 lX11_76 mX11_refused (ro_mk (by decide) (by decide)) mh_o rfl (rv_t (by decide) (m_refused 1 (by decide))) rfl rfl (Nat.le_of_ble_eq_true rfl) ⟨by omega, by omega⟩) rfl (fun M32 e32 => ?_)
    subst e32
    refine pw_if_eq_n (q := 38) 40 C dX11_set_35 (by decide) rfl (by omega) (fun g35 => absurd g35 (by decide)) (fun g35 => ?_)
    refine pw_iconst_n (q := 39) C 0 dX11_set_38 (by decide +kernel) rfl ?_
    exact pw_iret C dX11_set_39 rfl ⟨by omega, by omega⟩ ((QM.no 0 (by rw [spSet, if_neg h1]) (RepM.mk hD hK hF) same_mh))
set_option maxHeartbeats 200000 in
set_option maxRecDepth 100000 in
theorem c_pay {M : PH} {m rf D0 : Nat} {S : St} (hM : RepM M m rf S) (hB : MB S) (hS : SInv D0 S) : Run iX11_pay [.ref m] M 0 0 (QM M m ((0, nI (owedAll (sP S)), wA S (payP (sP S))))) := by
  obtain ⟨M0, sp, ft, R, Q, D, K, L, rfl, hD, hK, hF⟩ := hM
  have hI := hS.1.1
  have hb := hI.b
  obtain ⟨hB1, hB2, hB3, hB4⟩ := id hB
  refine Run.of (l0 := [some (.ref m), none, none]) (by decide +kernel) (Nat.le_of_ble_eq_true rfl) (by rfl) (fun Γ G C => ?_)
  refine pw_aload_n (q := 1) (j := 0) C dX11_pay_0 rfl rfl rfl ?_
  refine pw_iconst_n (q := 2) C 0 dX11_pay_1 (by decide +kernel) rfl ?_
  refine pw_put (q := 5) C dX11_pay_2 fX11_35 mh_o (by rfl) (by rfl) (Nat.le_of_ble_eq_true rfl) rfl ?_
  rw [mh_s_rf]
  refine pw_aload_n (q := 6) (j := 0) C dX11_pay_5 rfl rfl rfl ?_
  refine pw_void (q := 9) (cr_v (j := iX11_note) C dX11_pay_6 lX11_147 mX11_note (ro_mk (by decide) (by decide)) mh_o rfl (m_note hB3) rfl rfl (Nat.le_of_ble_eq_true rfl) ⟨by omega, by omega⟩) rfl (fun M6 e6 => ?_)
  subst e6
  refine pw_aload_n (q := 10) (j := 0) C dX11_pay_9 rfl rfl rfl ?_
  refine pw_getf (q := 13) C dX11_pay_10 fX11_16 mh_o (by rfl) rfl ?_
  refine pw_rd (q := 16) (cr_s (j := iX11_owedToAll) C dX11_pay_13 lX11_122 mX11_owedToAll (ro_mk (by decide) (by decide))  (m_owed mh_P hI) rfl rfl (Nat.le_of_ble_eq_true rfl) ⟨by omega, by omega⟩) rfl ?_
  refine pw_istore_n (q := 17) (j := 1) C dX11_pay_16 rfl rfl (by decide) rfl ?_
  refine pw_iconst_n (q := 18) C 0 dX11_pay_17 (by decide +kernel) rfl ?_
  refine pw_istore_n (q := 19) (j := 2) C dX11_pay_18 rfl rfl (by decide) rfl ?_
  have loop : ∀ (d j : Nat), j + d = sP S 6 → PW Γ G (ZJ Γ G 0 0 (QM (mh M0 m rf (sN S) sp ft (sM S) (sT S) R (sP S) Q D K (sB S) L) m ((0, nI (owedAll (sP S)), wA S (payP (sP S)))))) 19 [some (.ref m), some (.int (nI (owedAll (sP S)))), some (.int (nI j))] [] (mh M0 m 0 (sN S) sp ft ((min (sM S + 1) 14)) (sT S) R ((payAt (sP S) j)) Q ((noteD (sM S) D (sP S))) K (sB S) L) 0 0 := by
    intro d
    induction d with
    | zero =>
      intro j hd
      have p6 : payAt (sP S) j 6 = sP S 6 := payAt_ne (by omega)
      have p3 : payAt (sP S) j 3 = sP S 3 := payAt_ne (by omega)
      refine pw_iload_n (q := 20) (j := 2) C dX11_pay_19 rfl rfl rfl ?_
      refine pw_aload_n (q := 21) (j := 0) C dX11_pay_20 rfl rfl rfl ?_
      refine pw_getf (q := 24) C dX11_pay_21 fX11_16 mh_o (by rfl) rfl ?_
      refine pw_bipush_n (q := 26) C 6 dX11_pay_24 (by decide +kernel) rfl ?_
      refine pw_ipg (q := 27) C dX11_pay_26 mh_P (by omega) (by omega) rfl ?_
      rw [p6]
      refine pw_icmp_ge_n (q := 30) 50 C dX11_pay_27 (by decide) rfl (by omega) (by omega) (fun g27 => ?_) (fun g27 => absurd g27 (by omega))
      refine pw_aload_n (q := 51) (j := 0) C dX11_pay_50 rfl rfl rfl ?_
      refine pw_getf (q := 54) C dX11_pay_51 fX11_16 mh_o (by rfl) rfl ?_
      refine pw_iconst_n (q := 55) C 3 dX11_pay_54 (by decide +kernel) rfl ?_
      refine pw_dup2 (q := 56) C dX11_pay_55 rfl rfl rfl ?_
      refine pw_ipg (q := 57) C dX11_pay_56 mh_P (by omega) (by omega) rfl ?_
      rw [p3]
      refine pw_iload_n (q := 58) (j := 1) C dX11_pay_57 rfl rfl rfl ?_
      refine pw_iadd_n (q := 59) C dX11_pay_58 rfl ?_
      refine pw_ipgst (q := 60) C dX11_pay_59 mh_P (by omega) (by omega) rfl ?_
      rw [mh_s_P]
      refine pw_iload_n (q := 61) (j := 1) C dX11_pay_60 rfl rfl rfl ?_
      exact pw_iret C dX11_pay_61 rfl ⟨by omega, by omega⟩ ((QM.ok (by rw [payP, show sP S 6 = j by omega] <;> rfl) (RepM.mk (S := wA S _) (noteD_rel hB3 hD) hK hF) same_mh))
    | succ d ih =>
      intro j hd
      have p6 : payAt (sP S) j 6 = sP S 6 := payAt_ne (by omega)
      have p3 : payAt (sP S) j 3 = sP S 3 := payAt_ne (by omega)
      refine pw_iload_n (q := 20) (j := 2) C dX11_pay_19 rfl rfl rfl ?_
      refine pw_aload_n (q := 21) (j := 0) C dX11_pay_20 rfl rfl rfl ?_
      refine pw_getf (q := 24) C dX11_pay_21 fX11_16 mh_o (by rfl) rfl ?_
      refine pw_bipush_n (q := 26) C 6 dX11_pay_24 (by decide +kernel) rfl ?_
      refine pw_ipg (q := 27) C dX11_pay_26 mh_P (by omega) (by omega) rfl ?_
      rw [p6]
      refine pw_icmp_ge_n (q := 30) 50 C dX11_pay_27 (by decide) rfl (by omega) (by omega) (fun g27 => absurd g27 (by omega)) (fun g27 => ?_)
      refine pw_aload_n (q := 31) (j := 0) C dX11_pay_30 rfl rfl rfl ?_
      refine pw_getf (q := 34) C dX11_pay_31 fX11_16 mh_o (by rfl) rfl ?_
      refine pw_bipush_n (q := 36) C 26 dX11_pay_34 (by decide +kernel) rfl ?_
      refine pw_iconst_n (q := 37) C 4 dX11_pay_36 (by decide +kernel) rfl ?_
      refine pw_iload_n (q := 38) (j := 2) C dX11_pay_37 rfl rfl rfl ?_
      refine pw_imul_n (q := 39) C dX11_pay_38 rfl ?_
      refine pw_iadd_n (q := 40) C dX11_pay_39 rfl ?_
      refine pw_iconst_n (q := 41) C 3 dX11_pay_40 (by decide +kernel) rfl ?_
      refine pw_iadd_n (q := 42) C dX11_pay_41 rfl ?_
      refine pw_iconst_n (q := 43) C 0 dX11_pay_42 (by decide +kernel) rfl ?_
      refine pw_ipgst (q := 44) C dX11_pay_43 mh_P (by omega) (by omega) rfl ?_
      rw [mh_s_P]
      refine pw_iinc_n (q := 47) C 1 dX11_pay_44 rfl (by decide +kernel) rfl (by decide) rfl ?_
      refine pw_goto (q := 0) 19 C dX11_pay_47 (by decide) ?_
      rw [payAt_succ]
      exact ih (j + 1) (by omega)
  have l9 := loop (sP S 6) 0 (by omega)
  rw [payAt_0] at l9
  exact l9
set_option maxHeartbeats 200000 in
set_option maxRecDepth 100000 in
theorem c_nextDay {M : PH} {m rf D0 : Nat} {S : St} (hM : RepM M m rf S) (hB : MB S) (hS : SInv D0 S) {fr : Nat} (hfr : fr ≤ 1) : Run iX11_nextDay [.ref m, .int (nI fr)] M 0 0 (QM M m ((0, nI (sP S 1 + 1), wA S (dayP (sP S) fr)))) := by
  obtain ⟨M0, sp, ft, R, Q, D, K, L, rfl, hD, hK, hF⟩ := hM
  have hI := hS.1.1
  have hb := hI.b
  obtain ⟨hB1, hB2, hB3, hB4⟩ := id hB
  refine Run.of (l0 := [some (.ref m), some (.int (nI fr))]) (by decide +kernel) (Nat.le_of_ble_eq_true rfl) (by rfl) (fun Γ G C => ?_)
  refine pw_aload_n (q := 1) (j := 0) C dX11_nextDay_0 rfl rfl rfl ?_
  refine pw_iconst_n (q := 2) C 0 dX11_nextDay_1 (by decide +kernel) rfl ?_
  refine pw_put (q := 5) C dX11_nextDay_2 fX11_35 mh_o (by rfl) (by rfl) (Nat.le_of_ble_eq_true rfl) rfl ?_
  rw [mh_s_rf]
  refine pw_aload_n (q := 6) (j := 0) C dX11_nextDay_5 rfl rfl rfl ?_
  refine pw_void (q := 9) (cr_v (j := iX11_note) C dX11_nextDay_6 lX11_147 mX11_note (ro_mk (by decide) (by decide)) mh_o rfl (m_note hB3) rfl rfl (Nat.le_of_ble_eq_true rfl) ⟨by omega, by omega⟩) rfl (fun M6 e6 => ?_)
  subst e6
  refine pw_aload_n (q := 10) (j := 0) C dX11_nextDay_9 rfl rfl rfl ?_
  refine pw_getf (q := 13) C dX11_nextDay_10 fX11_16 mh_o (by rfl) rfl ?_
  refine pw_iload_n (q := 14) (j := 1) C dX11_nextDay_13 rfl rfl rfl ?_
  refine pw_if_eq_n (q := 17) 21 C dX11_nextDay_14 (by decide) rfl (by omega) (fun g14 => ?_) (fun g14 => ?_)
  · have e0 : fr = 0 := g14
    subst e0
    refine pw_iconst_n (q := 22) C 0 dX11_nextDay_21 (by decide +kernel) rfl ?_
    refine pw_val (q := 25) (cr_s (j := iX11_dayOn) C dX11_nextDay_22 lX11_169 mX11_dayOn (ro_mk (by decide) (by decide))  (m_dayOn mh_P hI (by omega)) rfl rfl (Nat.le_of_ble_eq_true rfl) ⟨by omega, by omega⟩) rfl (fun M22 e22 => ?_)
    rw [mh_s_P] at e22
    subst e22
    exact pw_iret C dX11_nextDay_25 rfl ⟨by omega, by omega⟩ ((QM.ok (by rfl) (RepM.mk (S := wA S _) (noteD_rel hB3 hD) hK hF) same_mh))
  · have e0 : fr = 1 := by omega
    subst e0
    refine pw_iconst_n (q := 18) C 1 dX11_nextDay_17 (by decide +kernel) rfl ?_
    refine pw_goto (q := 0) 22 C dX11_nextDay_18 (by decide) ?_
    refine pw_val (q := 25) (cr_s (j := iX11_dayOn) C dX11_nextDay_22 lX11_169 mX11_dayOn (ro_mk (by decide) (by decide))  (m_dayOn mh_P hI (by omega)) rfl rfl (Nat.le_of_ble_eq_true rfl) ⟨by omega, by omega⟩) rfl (fun M22 e22 => ?_)
    rw [mh_s_P] at e22
    subst e22
    exact pw_iret C dX11_nextDay_25 rfl ⟨by omega, by omega⟩ ((QM.ok (by rfl) (RepM.mk (S := wA S _) (noteD_rel hB3 hD) hK hF) same_mh))
set_option maxHeartbeats 200000 in
set_option maxRecDepth 100000 in
theorem c_undo {M : PH} {m rf D0 : Nat} {S : St} (hM : RepM M m rf S) (hB : MB S) (hS : SInv D0 S) : Run iX11_undo [.ref m] M 0 0 (QM M m (spUndo S)) := by
  obtain ⟨M0, sp, ft, R, Q, D, K, L, rfl, hD, hK, hF⟩ := hM
  have hI := hS.1.1
  have hb := hI.b
  obtain ⟨hB1, hB2, hB3, hB4⟩ := id hB
  refine Run.of (l0 := [some (.ref m)]) (by decide +kernel) (Nat.le_of_ble_eq_true rfl) (by rfl) (fun Γ G C => ?_)
  refine pw_aload_n (q := 1) (j := 0) C dX11_undo_0 rfl rfl rfl ?_
  refine pw_aload_n (q := 2) (j := 0) C dX11_undo_1 rfl rfl rfl ?_
  refine pw_getf (q := 5) C dX11_undo_2 fX11_114 mh_o (by rfl) rfl ?_
  refine pw_if_ne_n (q := 8) 12 C dX11_undo_5 (by decide) rfl (by omega) (fun g5 => ?_) (fun g5 => ?_)
  · refine pw_iconst_n (q := 13) C 0 dX11_undo_12 (by decide +kernel) rfl ?_
    refine pw_val (q := 16) (cr_v (j := iX11_refused) C dX11_undo_13 lX11_76 mX11_refused (ro_mk (by decide) (by decide)) mh_o rfl (rv_f (by decide) (m_refused 0 (by decide))) rfl rfl (Nat.le_of_ble_eq_true rfl) ⟨by omega, by omega⟩) rfl (fun M13 e13 => ?_)
    subst e13
    refine pw_if_eq_n (q := 19) 21 C dX11_undo_16 (by decide) rfl (by omega) (fun g16 => ?_) (fun g16 => absurd g16 (fun q => q rfl))
    refine pw_aload_n (q := 22) (j := 0) C dX11_undo_21 rfl rfl rfl ?_
    refine pw_dup (q := 23) C dX11_undo_22 rfl rfl ?_
    refine pw_getf (q := 26) C dX11_undo_23 fX11_114 mh_o (by rfl) rfl ?_
    refine pw_iconst_n (q := 27) C 1 dX11_undo_26 (by decide +kernel) rfl ?_
    refine pw_isub_n (q := 28) C dX11_undo_27 (by omega) rfl ?_
    refine pw_put (q := 31) C dX11_undo_28 fX11_114 mh_o (by rfl) (by rfl) (Nat.le_of_ble_eq_true rfl) rfl ?_
    rw [mh_s_ac]
    refine pw_aload_n (q := 32) (j := 0) C dX11_undo_31 rfl rfl rfl ?_
    refine pw_getf (q := 35) C dX11_undo_32 fX11_22 mh_o (by rfl) rfl ?_
    refine pw_sipush_n (q := 38) C 194 dX11_undo_35 (by decide +kernel) rfl ?_
    refine pw_aload_n (q := 39) (j := 0) C dX11_undo_38 rfl rfl rfl ?_
    refine pw_getf (q := 42) C dX11_undo_39 fX11_114 mh_o (by rfl) rfl ?_
    refine pw_imul_n (q := 43) C dX11_undo_42 rfl ?_
    refine pw_aload_n (q := 44) (j := 0) C dX11_undo_43 rfl rfl rfl ?_
    refine pw_getf (q := 47) C dX11_undo_44 fX11_16 mh_o (by rfl) rfl ?_
    refine pw_iconst_n (q := 48) C 0 dX11_undo_47 (by decide +kernel) rfl ?_
    refine pw_void (q := 51) (cr_s (j := iX11_copyPage) C dX11_undo_48 lX11_110 mX11_copyPage (ro_mk (by decide) (by decide))  (m_copy mh_D mh_P (by omega) (by omega) (by decide) (by decide) (by decide)) rfl rfl (Nat.le_of_ble_eq_true rfl) ⟨by omega, by omega⟩) rfl (fun M48 e48 => ?_)
    rw [mh_s_P] at e48
    subst e48
    refine pw_norm (mh_P) (g := pg (sH S (sM S - 1))) (fun k hk => by show nI (cpy D (194 * (sM S - 1)) (sP S) 0 194 k) = nI (sH S (sM S - 1) k); rw [cpy, if_pos (by omega), Nat.sub_zero]; rw [hD _ (by omega) k hk]) ?_
    rw [mh_s_P]
    refine pw_aload_n (q := 52) (j := 0) C dX11_undo_51 rfl rfl rfl ?_
    refine pw_getf (q := 55) C dX11_undo_52 fX11_114 mh_o (by rfl) rfl ?_
    exact pw_iret C dX11_undo_55 rfl ⟨by omega, by omega⟩ ((QM.ok (by rw [spUndo, if_neg (by omega)]) (RepM.mk (S := (sN S, sT S, sH S (sM S - 1), sM S - 1, sH S, sB S, sK S)) (fun j hj => hD j (Nat.lt_of_lt_of_le hj (Nat.sub_le _ _))) hK hF) same_mh))
  · refine pw_iconst_n (q := 9) C 1 dX11_undo_8 (by decide +kernel) rfl ?_
    refine pw_goto (q := 0) 13 C dX11_undo_9 (by decide) ?_
    refine pw_val (q := 16) (cr_v (j := iX11_refused) C dX11_undo_13 lX11_76 mX11_refused (ro_mk (by decide) (by decide)) mh_o rfl (rv_t (by decide) (m_refused 1 (by decide))) rfl rfl (Nat.le_of_ble_eq_true rfl) ⟨by omega, by omega⟩) rfl (fun M13 e13 => ?_)
    subst e13
    refine pw_if_eq_n (q := 19) 21 C dX11_undo_16 (by decide) rfl (by omega) (fun g16 => absurd g16 (by decide)) (fun g16 => ?_)
    refine pw_iconst_n (q := 20) C 0 dX11_undo_19 (by decide +kernel) rfl ?_
    exact pw_iret C dX11_undo_20 rfl ⟨by omega, by omega⟩ ((QM.no 0 (by rw [spUndo, if_pos (by omega)]) (RepM.mk hD hK hF) same_mh))
set_option maxHeartbeats 200000 in
set_option maxRecDepth 100000 in
theorem c_append {M : PH} {m rf D0 : Nat} {S : St} (hM : RepM M m rf S) (hB : MB S) (hS : SInv D0 S) (c1 : Int32) : Run iX11_append [.ref m, .int c1] M 0 0 (QM M m (spAppend S c1)) := by
  obtain ⟨M0, sp, ft, R, Q, D, K, L, rfl, hD, hK, hF⟩ := hM
  have hI := hS.1.1
  have hb := hI.b
  obtain ⟨hB1, hB2, hB3, hB4⟩ := id hB
  refine Run.of (l0 := [some (.ref m), some (.int c1)]) (by decide +kernel) (Nat.le_of_ble_eq_true rfl) (by rfl) (fun Γ G C => ?_)
  by_cases h1 : inW c1 0 255
  · refine pw_aload_n (q := 1) (j := 0) C dX11_append_0 rfl rfl rfl ?_
    refine pw_iload_n (q := 2) (j := 1) C dX11_append_1 rfl rfl rfl ?_
    refine pw_i2l (q := 3) C dX11_append_2 rfl ?_
    refine pw_lconst (q := 4) (v := 0) C dX11_append_3 (by decide +kernel) rfl ?_
    refine pw_ldc2 (q := 7) C dX11_append_4 cgX11_71 rfl ?_
    refine pw_rd (q := 10) (cr_s (j := iX11_in) C dX11_append_7 lX11_39 mX11_in (ro_mk (by decide) (by decide))  (rv_t ((inW_l (lo := 0) (hi := 255) (by decide +kernel) (by decide +kernel)).mpr h1) m_in) rfl rfl (Nat.le_of_ble_eq_true rfl) ⟨by omega, by omega⟩) rfl ?_
    refine pw_if_ne_n (q := 13) 17 C dX11_append_10 (by decide) rfl (by omega) (fun g10 => ?_) (fun g10 => absurd g10 (by decide))
    refine pw_aload_n (q := 18) (j := 0) C dX11_append_17 rfl rfl rfl ?_
    refine pw_getf (q := 21) C dX11_append_18 fX11_73 mh_o (by rfl) rfl ?_
    refine pw_bipush_n (q := 23) C 80 dX11_append_21 (by decide +kernel) rfl ?_
    refine pw_icmp_ne_n (q := 26) 30 C dX11_append_23 (by decide) rfl (by omega) (by omega) (fun g23 => ?_) (fun g23 => ?_)
    · refine pw_iconst_n (q := 31) C 0 dX11_append_30 (by decide +kernel) rfl ?_
      refine pw_val (q := 34) (cr_v (j := iX11_refused) C dX11_append_31 lX11_76 mX11_refused (ro_mk (by decide) (by decide)) mh_o rfl (rv_f (by decide) (m_refused 0 (by decide))) rfl rfl (Nat.le_of_ble_eq_true rfl) ⟨by omega, by omega⟩) rfl (fun M31 e31 => ?_)
      subst e31
      refine pw_if_eq_n (q := 37) 39 C dX11_append_34 (by decide) rfl (by omega) (fun g34 => ?_) (fun g34 => absurd g34 (fun q => q rfl))
      obtain ⟨k1, hl1, hk1, rfl⟩ := inW_n h1 (by omega) (by omega)
      refine pw_aload_n (q := 40) (j := 0) C dX11_append_39 rfl rfl rfl ?_
      refine pw_getf (q := 43) C dX11_append_40 fX11_7 mh_o (by rfl) rfl ?_
      refine pw_aload_n (q := 44) (j := 0) C dX11_append_43 rfl rfl rfl ?_
      refine pw_getf (q := 47) C dX11_append_44 fX11_73 mh_o (by rfl) rfl ?_
      refine pw_iload_n (q := 48) (j := 1) C dX11_append_47 rfl rfl rfl ?_
      refine pw_ipgst (q := 49) C dX11_append_48 mh_T (by omega) (by omega) rfl ?_
      rw [mh_s_T]
      refine pw_aload_n (q := 50) (j := 0) C dX11_append_49 rfl rfl rfl ?_
      refine pw_dup (q := 51) C dX11_append_50 rfl rfl ?_
      refine pw_getf (q := 54) C dX11_append_51 fX11_73 mh_o (by rfl) rfl ?_
      refine pw_iconst_n (q := 55) C 1 dX11_append_54 (by decide +kernel) rfl ?_
      refine pw_iadd_n (q := 56) C dX11_append_55 rfl ?_
      refine pw_put (q := 59) C dX11_append_56 fX11_73 mh_o (by rfl) (by rfl) (Nat.le_of_ble_eq_true rfl) rfl ?_
      rw [mh_s_n]
      refine pw_aload_n (q := 60) (j := 0) C dX11_append_59 rfl rfl rfl ?_
      refine pw_getf (q := 63) C dX11_append_60 fX11_73 mh_o (by rfl) rfl ?_
      exact pw_iret C dX11_append_63 rfl ⟨by omega, by omega⟩ ((QM.ok (by rw [spAppend, if_pos h1, if_pos (show sN S < 80 by omega), idx_n (show k1 < 2147483648 by omega)]) (RepM.mk (S := (sN S + 1, updN (sT S) (sN S) k1, sP S, sM S, sH S, sB S, sK S)) hD hK hF) same_mh))
    · refine pw_iconst_n (q := 27) C 2 dX11_append_26 (by decide +kernel) rfl ?_
      refine pw_goto (q := 0) 31 C dX11_append_27 (by decide) ?_
      refine pw_val (q := 34) (cr_v (j := iX11_refused) C dX11_append_31 lX11_76 mX11_refused (ro_mk (by decide) (by decide)) mh_o rfl (rv_t (by decide) (m_refused 2 (by decide))) rfl rfl (Nat.le_of_ble_eq_true rfl) ⟨by omega, by omega⟩) rfl (fun M31 e31 => ?_)
      subst e31
      refine pw_if_eq_n (q := 37) 39 C dX11_append_34 (by decide) rfl (by omega) (fun g34 => absurd g34 (by decide)) (fun g34 => ?_)
      refine pw_iconst_n (q := 38) C 0 dX11_append_37 (by decide +kernel) rfl ?_
      exact pw_iret C dX11_append_38 rfl ⟨by omega, by omega⟩ ((QM.no 1 (by rw [spAppend, if_pos h1, if_neg (by omega)]) (RepM.mk hD hK hF) same_mh))
  · refine pw_aload_n (q := 1) (j := 0) C dX11_append_0 rfl rfl rfl ?_
    refine pw_iload_n (q := 2) (j := 1) C dX11_append_1 rfl rfl rfl ?_
    refine pw_i2l (q := 3) C dX11_append_2 rfl ?_
    refine pw_lconst (q := 4) (v := 0) C dX11_append_3 (by decide +kernel) rfl ?_
    refine pw_ldc2 (q := 7) C dX11_append_4 cgX11_71 rfl ?_
    refine pw_rd (q := 10) (cr_s (j := iX11_in) C dX11_append_7 lX11_39 mX11_in (ro_mk (by decide) (by decide))  (rv_f (fun q => h1 ((inW_l (lo := 0) (hi := 255) (by decide +kernel) (by decide +kernel)).mp q)) m_in) rfl rfl (Nat.le_of_ble_eq_true rfl) ⟨by omega, by omega⟩) rfl ?_
    refine pw_if_ne_n (q := 13) 17 C dX11_append_10 (by decide) rfl (by omega) (fun g10 => absurd g10 (fun q => q rfl)) (fun g10 => ?_)
    refine pw_iconst_n (q := 14) C 1 dX11_append_13 (by decide +kernel) rfl ?_
    refine pw_goto (q := 0) 31 C dX11_append_14 (by decide) ?_
    refine pw_val (q := 34) (cr_v (j := iX11_refused) C dX11_append_31 lX11_76 mX11_refused (ro_mk (by decide) (by decide)) mh_o rfl (rv_t (by decide) (m_refused 1 (by decide))) rfl rfl (Nat.le_of_ble_eq_true rfl) ⟨by omega, by omega⟩) rfl (fun M31 e31 => ?_)
    subst e31
    refine pw_if_eq_n (q := 37) 39 C dX11_append_34 (by decide) rfl (by omega) (fun g34 => absurd g34 (by decide)) (fun g34 => ?_)
    refine pw_iconst_n (q := 38) C 0 dX11_append_37 (by decide +kernel) rfl ?_
    exact pw_iret C dX11_append_38 rfl ⟨by omega, by omega⟩ ((QM.no 0 (by rw [spAppend, if_neg h1]) (RepM.mk hD hK hF) same_mh))
set_option maxHeartbeats 200000 in
set_option maxRecDepth 100000 in
theorem c_clearText {M : PH} {m rf D0 : Nat} {S : St} (hM : RepM M m rf S) (hB : MB S) (hS : SInv D0 S) : Run iX11_clearText [.ref m] M 0 0 (QM M m (spClear S)) := by
  obtain ⟨M0, sp, ft, R, Q, D, K, L, rfl, hD, hK, hF⟩ := hM
  have hI := hS.1.1
  have hb := hI.b
  obtain ⟨hB1, hB2, hB3, hB4⟩ := id hB
  refine Run.of (l0 := [some (.ref m), none]) (by decide +kernel) (Nat.le_of_ble_eq_true rfl) (by rfl) (fun Γ G C => ?_)
  refine pw_aload_n (q := 1) (j := 0) C dX11_clearText_0 rfl rfl rfl ?_
  refine pw_iconst_n (q := 2) C 0 dX11_clearText_1 (by decide +kernel) rfl ?_
  refine pw_put (q := 5) C dX11_clearText_2 fX11_35 mh_o (by rfl) (by rfl) (Nat.le_of_ble_eq_true rfl) rfl ?_
  rw [mh_s_rf]
  refine pw_aload_n (q := 6) (j := 0) C dX11_clearText_5 rfl rfl rfl ?_
  refine pw_getf (q := 9) C dX11_clearText_6 fX11_73 mh_o (by rfl) rfl ?_
  refine pw_istore_n (q := 10) (j := 1) C dX11_clearText_9 rfl rfl (by decide) rfl ?_
  refine pw_aload_n (q := 11) (j := 0) C dX11_clearText_10 rfl rfl rfl ?_
  refine pw_iconst_n (q := 12) C 0 dX11_clearText_11 (by decide +kernel) rfl ?_
  refine pw_put (q := 15) C dX11_clearText_12 fX11_73 mh_o (by rfl) (by rfl) (Nat.le_of_ble_eq_true rfl) rfl ?_
  rw [mh_s_n]
  refine pw_iload_n (q := 16) (j := 1) C dX11_clearText_15 rfl rfl rfl ?_
  exact pw_iret C dX11_clearText_16 rfl ⟨by omega, by omega⟩ ((QM.ok (by rfl) (RepM.mk (S := (0, sT S, sP S, sM S, sH S, sB S, sK S)) hD hK hF) same_mh))
set_option maxHeartbeats 200000 in
set_option maxRecDepth 100000 in
theorem c_save {M : PH} {m rf D0 : Nat} {S : St} (hM : RepM M m rf S) (hB : MB S) (hS : SInv D0 S) (c1 : Int32) : Run iX11_save [.ref m, .int c1] M 0 0 (QM M m (spSave S c1)) := by
  obtain ⟨M0, sp, ft, R, Q, D, K, L, rfl, hD, hK, hF⟩ := hM
  have hI := hS.1.1
  have hb := hI.b
  obtain ⟨hB1, hB2, hB3, hB4⟩ := id hB
  refine Run.of (l0 := [some (.ref m), some (.int c1)]) (by decide +kernel) (Nat.le_of_ble_eq_true rfl) (by rfl) (fun Γ G C => ?_)
  by_cases h1 : inW c1 0 1
  · refine pw_aload_n (q := 1) (j := 0) C dX11_save_0 rfl rfl rfl ?_
    refine pw_iload_n (q := 2) (j := 1) C dX11_save_1 rfl rfl rfl ?_
    refine pw_i2l (q := 3) C dX11_save_2 rfl ?_
    refine pw_lconst (q := 4) (v := 0) C dX11_save_3 (by decide +kernel) rfl ?_
    refine pw_lconst (q := 5) (v := 1) C dX11_save_4 (by decide +kernel) rfl ?_
    refine pw_rd (q := 8) (cr_s (j := iX11_in) C dX11_save_5 lX11_39 mX11_in (ro_mk (by decide) (by decide))  (rv_t ((inW_l (lo := 0) (hi := 1) (by decide +kernel) (by decide +kernel)).mpr h1) m_in) rfl rfl (Nat.le_of_ble_eq_true rfl) ⟨by omega, by omega⟩) rfl ?_
    refine pw_if_eq_n (q := 11) 15 C dX11_save_8 (by decide) rfl (by omega) (fun g8 => absurd g8 (by decide)) (fun g8 => ?_)
    refine pw_iconst_n (q := 12) C 0 dX11_save_11 (by decide +kernel) rfl ?_
    refine pw_goto (q := 0) 16 C dX11_save_12 (by decide) ?_
    refine pw_val (q := 19) (cr_v (j := iX11_refused) C dX11_save_16 lX11_76 mX11_refused (ro_mk (by decide) (by decide)) mh_o rfl (rv_f (by decide) (m_refused 0 (by decide))) rfl rfl (Nat.le_of_ble_eq_true rfl) ⟨by omega, by omega⟩) rfl (fun M16 e16 => ?_)
    subst e16
    refine pw_if_eq_n (q := 22) 24 C dX11_save_19 (by decide) rfl (by omega) (fun g19 => ?_) (fun g19 => absurd g19 (fun q => q rfl))
    obtain ⟨k1, hl1, hk1, rfl⟩ := inW_n h1 (by omega) (by omega)
    refine pw_aload_n (q := 25) (j := 0) C dX11_save_24 rfl rfl rfl ?_
    refine pw_getf (q := 28) C dX11_save_25 fX11_28 mh_o (by rfl) rfl ?_
    refine pw_iload_n (q := 29) (j := 1) C dX11_save_28 rfl rfl rfl ?_
    refine pw_iconst_n (q := 30) C 1 dX11_save_29 (by decide +kernel) rfl ?_
    refine pw_zpgst (q := 31) C dX11_save_30 mh_B (by omega) (by omega) (by omega) rfl ?_
    rw [mh_s_B]
    refine pw_aload_n (q := 32) (j := 0) C dX11_save_31 rfl rfl rfl ?_
    refine pw_getf (q := 35) C dX11_save_32 fX11_16 mh_o (by rfl) rfl ?_
    refine pw_iconst_n (q := 36) C 0 dX11_save_35 (by decide +kernel) rfl ?_
    refine pw_aload_n (q := 37) (j := 0) C dX11_save_36 rfl rfl rfl ?_
    refine pw_getf (q := 40) C dX11_save_37 fX11_25 mh_o (by rfl) rfl ?_
    refine pw_sipush_n (q := 43) C 194 dX11_save_40 (by decide +kernel) rfl ?_
    refine pw_iload_n (q := 44) (j := 1) C dX11_save_43 rfl rfl rfl ?_
    refine pw_imul_n (q := 45) C dX11_save_44 rfl ?_
    refine pw_void (q := 48) (cr_s (j := iX11_copyPage) C dX11_save_45 lX11_110 mX11_copyPage (ro_mk (by decide) (by decide))  (m_copy mh_P mh_K (by omega) (by decide) (by omega) (by decide) (by decide)) rfl rfl (Nat.le_of_ble_eq_true rfl) ⟨by omega, by omega⟩) rfl (fun M45 e45 => ?_)
    rw [mh_s_K] at e45
    subst e45
    refine pw_aload_n (q := 49) (j := 0) C dX11_save_48 rfl rfl rfl ?_
    refine pw_getf (q := 52) C dX11_save_49 fX11_16 mh_o (by rfl) rfl ?_
    refine pw_iconst_n (q := 53) C 1 dX11_save_52 (by decide +kernel) rfl ?_
    refine pw_ipg (q := 54) C dX11_save_53 mh_P (by omega) (by omega) rfl ?_
    exact pw_iret C dX11_save_54 rfl ⟨by omega, by omega⟩ ((QM.ok (by rw [spSave, if_pos h1, idx_n (show k1 < 2147483648 by omega)]) (RepM.mk (S := (sN S, sT S, sP S, sM S, sH S, updN (sB S) k1 1, fun i => if i = k1 then sP S else sK S i)) hD (kept_rel hK hk1) hF) same_mh))
  · refine pw_aload_n (q := 1) (j := 0) C dX11_save_0 rfl rfl rfl ?_
    refine pw_iload_n (q := 2) (j := 1) C dX11_save_1 rfl rfl rfl ?_
    refine pw_i2l (q := 3) C dX11_save_2 rfl ?_
    refine pw_lconst (q := 4) (v := 0) C dX11_save_3 (by decide +kernel) rfl ?_
    refine pw_lconst (q := 5) (v := 1) C dX11_save_4 (by decide +kernel) rfl ?_
    refine pw_rd (q := 8) (cr_s (j := iX11_in) C dX11_save_5 lX11_39 mX11_in (ro_mk (by decide) (by decide))  (rv_f (fun q => h1 ((inW_l (lo := 0) (hi := 1) (by decide +kernel) (by decide +kernel)).mp q)) m_in) rfl rfl (Nat.le_of_ble_eq_true rfl) ⟨by omega, by omega⟩) rfl ?_
    refine pw_if_eq_n (q := 11) 15 C dX11_save_8 (by decide) rfl (by omega) (fun g8 => ?_) (fun g8 => absurd g8 (fun q => q rfl))
    refine pw_iconst_n (q := 16) C 1 dX11_save_15 (by decide +kernel) rfl ?_
    refine pw_val (q := 19) (cr_v (j := iX11_refused) C dX11_save_16 lX11_76 mX11_refused (ro_mk (by decide) (by decide)) mh_o rfl (rv_t (by decide) (m_refused 1 (by decide))) rfl rfl (Nat.le_of_ble_eq_true rfl) ⟨by omega, by omega⟩) rfl (fun M16 e16 => ?_)
    subst e16
    refine pw_if_eq_n (q := 22) 24 C dX11_save_19 (by decide) rfl (by omega) (fun g19 => absurd g19 (by decide)) (fun g19 => ?_)
    refine pw_iconst_n (q := 23) C 0 dX11_save_22 (by decide +kernel) rfl ?_
    exact pw_iret C dX11_save_23 rfl ⟨by omega, by omega⟩ ((QM.no 0 (by rw [spSave, if_neg h1]) (RepM.mk hD hK hF) same_mh))
set_option maxHeartbeats 200000 in
set_option maxRecDepth 100000 in
theorem c_restore {M : PH} {m rf D0 : Nat} {S : St} (hM : RepM M m rf S) (hB : MB S) (hS : SInv D0 S) (c1 : Int32) : Run iX11_restore [.ref m, .int c1] M 0 0 (QM M m (spRestore S c1)) := by
  obtain ⟨M0, sp, ft, R, Q, D, K, L, rfl, hD, hK, hF⟩ := hM
  have hI := hS.1.1
  have hb := hI.b
  obtain ⟨hB1, hB2, hB3, hB4⟩ := id hB
  refine Run.of (l0 := [some (.ref m), some (.int c1)]) (by decide +kernel) (Nat.le_of_ble_eq_true rfl) (by rfl) (fun Γ G C => ?_)
  by_cases h1 : inW c1 0 1
  · refine pw_aload_n (q := 1) (j := 0) C dX11_restore_0 rfl rfl rfl ?_
    refine pw_iload_n (q := 2) (j := 1) C dX11_restore_1 rfl rfl rfl ?_
    refine pw_i2l (q := 3) C dX11_restore_2 rfl ?_
    refine pw_lconst (q := 4) (v := 0) C dX11_restore_3 (by decide +kernel) rfl ?_
    refine pw_lconst (q := 5) (v := 1) C dX11_restore_4 (by decide +kernel) rfl ?_
    refine pw_rd (q := 8) (cr_s (j := iX11_in) C dX11_restore_5 lX11_39 mX11_in (ro_mk (by decide) (by decide))  (rv_t ((inW_l (lo := 0) (hi := 1) (by decide +kernel) (by decide +kernel)).mpr h1) m_in) rfl rfl (Nat.le_of_ble_eq_true rfl) ⟨by omega, by omega⟩) rfl ?_
    refine pw_if_ne_n (q := 11) 15 C dX11_restore_8 (by decide) rfl (by omega) (fun g8 => ?_) (fun g8 => absurd g8 (by decide))
    obtain ⟨k1, hl1, hk1, rfl⟩ := inW_n h1 (by omega) (by omega)
    have b9 := hB4 k1 (by omega)
    refine pw_aload_n (q := 16) (j := 0) C dX11_restore_15 rfl rfl rfl ?_
    refine pw_getf (q := 19) C dX11_restore_16 fX11_28 mh_o (by rfl) rfl ?_
    refine pw_iload_n (q := 20) (j := 1) C dX11_restore_19 rfl rfl rfl ?_
    refine pw_zald_n (q := 21) C dX11_restore_20 mh_B (by omega) (by omega) rfl ?_
    refine pw_if_ne_n (q := 24) 28 C dX11_restore_21 (by decide) rfl (by omega) (fun g21 => ?_) (fun g21 => ?_)
    · refine pw_iconst_n (q := 29) C 0 dX11_restore_28 (by decide +kernel) rfl ?_
      refine pw_val (q := 32) (cr_v (j := iX11_refused) C dX11_restore_29 lX11_76 mX11_refused (ro_mk (by decide) (by decide)) mh_o rfl (rv_f (by decide) (m_refused 0 (by decide))) rfl rfl (Nat.le_of_ble_eq_true rfl) ⟨by omega, by omega⟩) rfl (fun M29 e29 => ?_)
      subst e29
      refine pw_if_eq_n (q := 35) 37 C dX11_restore_32 (by decide) rfl (by omega) (fun g32 => ?_) (fun g32 => absurd g32 (fun q => q rfl))
      refine pw_aload_n (q := 38) (j := 0) C dX11_restore_37 rfl rfl rfl ?_
      refine pw_getf (q := 41) C dX11_restore_38 fX11_25 mh_o (by rfl) rfl ?_
      refine pw_sipush_n (q := 44) C 194 dX11_restore_41 (by decide +kernel) rfl ?_
      refine pw_iload_n (q := 45) (j := 1) C dX11_restore_44 rfl rfl rfl ?_
      refine pw_imul_n (q := 46) C dX11_restore_45 rfl ?_
      refine pw_aload_n (q := 47) (j := 0) C dX11_restore_46 rfl rfl rfl ?_
      refine pw_getf (q := 50) C dX11_restore_47 fX11_16 mh_o (by rfl) rfl ?_
      refine pw_iconst_n (q := 51) C 0 dX11_restore_50 (by decide +kernel) rfl ?_
      refine pw_void (q := 54) (cr_s (j := iX11_copyPage) C dX11_restore_51 lX11_110 mX11_copyPage (ro_mk (by decide) (by decide))  (m_copy mh_K mh_P (by omega) (by omega) (by decide) (by decide) (by decide)) rfl rfl (Nat.le_of_ble_eq_true rfl) ⟨by omega, by omega⟩) rfl (fun M51 e51 => ?_)
      rw [mh_s_P] at e51
      subst e51
      refine pw_norm (mh_P) (g := pg (sK S k1)) (fun k hk => by show nI (cpy K (194 * k1) (sP S) 0 194 k) = nI (sK S k1 k); rw [cpy, if_pos (by omega), Nat.sub_zero]; rw [hK _ (by omega) (by omega) k hk]) ?_
      rw [mh_s_P]
      refine pw_aload_n (q := 55) (j := 0) C dX11_restore_54 rfl rfl rfl ?_
      refine pw_iconst_n (q := 56) C 0 dX11_restore_55 (by decide +kernel) rfl ?_
      refine pw_put (q := 59) C dX11_restore_56 fX11_114 mh_o (by rfl) (by rfl) (Nat.le_of_ble_eq_true rfl) rfl ?_
      rw [mh_s_ac]
      refine pw_aload_n (q := 60) (j := 0) C dX11_restore_59 rfl rfl rfl ?_
      refine pw_getf (q := 63) C dX11_restore_60 fX11_16 mh_o (by rfl) rfl ?_
      refine pw_iconst_n (q := 64) C 1 dX11_restore_63 (by decide +kernel) rfl ?_
      refine pw_ipg (q := 65) C dX11_restore_64 mh_P (by omega) (by omega) rfl ?_
      exact pw_iret C dX11_restore_65 rfl ⟨by omega, by omega⟩ ((QM.ok (by rw [spRestore, if_pos h1, idx_n (show k1 < 2147483648 by omega), if_pos (by omega)]) (RepM.mk (S := (sN S, sT S, sK S k1, 0, sH S, sB S, sK S)) (fun j hj => absurd hj (Nat.not_lt_zero j)) hK hF) same_mh))
    · refine pw_iconst_n (q := 25) C 2 dX11_restore_24 (by decide +kernel) rfl ?_
      refine pw_goto (q := 0) 29 C dX11_restore_25 (by decide) ?_
      refine pw_val (q := 32) (cr_v (j := iX11_refused) C dX11_restore_29 lX11_76 mX11_refused (ro_mk (by decide) (by decide)) mh_o rfl (rv_t (by decide) (m_refused 2 (by decide))) rfl rfl (Nat.le_of_ble_eq_true rfl) ⟨by omega, by omega⟩) rfl (fun M29 e29 => ?_)
      subst e29
      refine pw_if_eq_n (q := 35) 37 C dX11_restore_32 (by decide) rfl (by omega) (fun g32 => absurd g32 (by decide)) (fun g32 => ?_)
      refine pw_iconst_n (q := 36) C 0 dX11_restore_35 (by decide +kernel) rfl ?_
      exact pw_iret C dX11_restore_36 rfl ⟨by omega, by omega⟩ ((QM.no 1 (by rw [spRestore, if_pos h1, idx_n (show k1 < 2147483648 by omega), if_neg (by omega)]) (RepM.mk hD hK hF) same_mh))
  · refine pw_aload_n (q := 1) (j := 0) C dX11_restore_0 rfl rfl rfl ?_
    refine pw_iload_n (q := 2) (j := 1) C dX11_restore_1 rfl rfl rfl ?_
    refine pw_i2l (q := 3) C dX11_restore_2 rfl ?_
    refine pw_lconst (q := 4) (v := 0) C dX11_restore_3 (by decide +kernel) rfl ?_
    refine pw_lconst (q := 5) (v := 1) C dX11_restore_4 (by decide +kernel) rfl ?_
    refine pw_rd (q := 8) (cr_s (j := iX11_in) C dX11_restore_5 lX11_39 mX11_in (ro_mk (by decide) (by decide))  (rv_f (fun q => h1 ((inW_l (lo := 0) (hi := 1) (by decide +kernel) (by decide +kernel)).mp q)) m_in) rfl rfl (Nat.le_of_ble_eq_true rfl) ⟨by omega, by omega⟩) rfl ?_
    refine pw_if_ne_n (q := 11) 15 C dX11_restore_8 (by decide) rfl (by omega) (fun g8 => absurd g8 (fun q => q rfl)) (fun g8 => ?_)
    refine pw_iconst_n (q := 12) C 1 dX11_restore_11 (by decide +kernel) rfl ?_
    refine pw_goto (q := 0) 29 C dX11_restore_12 (by decide) ?_
    refine pw_val (q := 32) (cr_v (j := iX11_refused) C dX11_restore_29 lX11_76 mX11_refused (ro_mk (by decide) (by decide)) mh_o rfl (rv_t (by decide) (m_refused 1 (by decide))) rfl rfl (Nat.le_of_ble_eq_true rfl) ⟨by omega, by omega⟩) rfl (fun M29 e29 => ?_)
    subst e29
    refine pw_if_eq_n (q := 35) 37 C dX11_restore_32 (by decide) rfl (by omega) (fun g32 => absurd g32 (by decide)) (fun g32 => ?_)
    refine pw_iconst_n (q := 36) C 0 dX11_restore_35 (by decide +kernel) rfl ?_
    exact pw_iret C dX11_restore_36 rfl ⟨by omega, by omega⟩ ((QM.no 0 (by rw [spRestore, if_neg h1]) (RepM.mk hD hK hF) same_mh))
