/-! The law's cuts. -/
theorem cheap_none {P : Nat → Nat} {c : Nat} : ∀ {n : Nat}, cheapN P c n = none → ∀ k, k < n → P (26 + 4 * k + 2) < P (8 + 3 * c + 1)
  | 0, _, k, hk => absurd hk (Nat.not_lt_zero k)
  | n + 1, h, k, hk => by
    unfold cheapN at h
    split at h
    · cases h
    · rename_i h1
      by_cases e : k = n
      · subst e
        refine Nat.lt_of_not_le (fun h2 => h1 ⟨h2, fun b hb => ?_⟩)
        rw [h] at hb
        cases hb
      · exact cheap_none h k (by omega)
theorem cheap_some {P : Nat → Nat} {c m : Nat} : ∀ {n : Nat}, cheapN P c n = some m → P (8 + 3 * c + 1) ≤ P (26 + 4 * m + 2) ∧ ∀ k, k < n → P (8 + 3 * c + 1) ≤ P (26 + 4 * k + 2) → P (26 + 4 * m) ≤ P (26 + 4 * k)
  | 0, h => by cases h
  | n + 1, h => by
    unfold cheapN at h
    split at h
    · rename_i h1
      cases h
      refine ⟨h1.1, fun k hk hw => ?_⟩
      by_cases e : k = m
      · rw [e]; exact Nat.le_refl _
      · cases hc : cheapN P c m with
        | none => exact absurd hw (Nat.not_le.mpr (cheap_none hc k (by omega)))
        | some b =>
          have h2 := (cheap_some hc).2 k (by omega) hw
          have h3 := h1.2 b hc
          omega
    · rename_i h1
      obtain ⟨h2, h3⟩ := cheap_some h
      refine ⟨h2, fun k hk hw => ?_⟩
      by_cases e : k = n
      · subst e
        refine Nat.not_lt.mp (fun h4 => h1 ⟨hw, fun b hb => ?_⟩)
        rw [h] at hb
        cases hb
        exact h4
      · exact h3 k (by omega) hw
def cutsS (c : Nat) (S : St) : St := if (cheapN (sP S) c (sP S 6)).isSome = true ∧ sP S 7 < 24 then trim 1 S else S
theorem SG.cuts {D c : Nat} {S : St} (h : SG D S) : SG D (cutsS c S) := by
  unfold cutsS
  split
  · exact h.trim
  · exact h
theorem v_cheapN {M : PH} {x D : Nat} {S : St} (hX : RepX M x S) (hS : SInv D S) {c : Nat} (hc : c < sP S 5) (h : cheapN (sP S) c (sP S 6) = none) {b c9 d : Int32} : Run iL_call [.ref x, .int (nI 18), .int (nI c), .int b, .int c9, .int d] M 0 0 (RV (.int (-9)) (fun M1 => M1 = M)) := by
  have t := v_cheapest hX hS hc (b := b) (c9 := c9) (d := d)
  rw [h] at t
  exact t
theorem v_cheapS {M : PH} {x D : Nat} {S : St} (hX : RepX M x S) (hS : SInv D S) {c m : Nat} (hc : c < sP S 5) (h : cheapN (sP S) c (sP S 6) = some m) {b c9 d : Int32} : Run iL_call [.ref x, .int (nI 18), .int (nI c), .int b, .int c9, .int d] M 0 0 (RV (.int (nI m)) (fun M1 => M1 = M)) := by
  have t := v_cheapest hX hS hc (b := b) (c9 := c9) (d := d)
  rw [h] at t
  exact t
theorem cut_at {P : Nat → Nat} (hI : Inv P) {m c f : Nat} (hm : m < P 6) : cutP P m c f 7 = P 7 + 1 ∧ cutP P m c f 6 = P 6 ∧ cutP P m c f (26 + 4 * m + 2) = P (26 + 4 * m + 2) - P (8 + 3 * c + 1) ∧ cutP P m c f (50 + 6 * P 7 + 1) = m ∧ cutP P m c f (50 + 6 * P 7 + 2) = f ∧ cutP P m c f (50 + 6 * P 7 + 3) = 0 := by
  have hb := hI.b
  have e7 : updN P (26 + 4 * m + 2) (P (26 + 4 * m + 2) - P (8 + 3 * c + 1)) 7 = P 7 := updN_ne (by omega)
  obtain ⟨a0, a1, a2, a3, a4, a5⟩ := newStone_at (P := updN P (26 + 4 * m + 2) (P (26 + 4 * m + 2) - P (8 + 3 * c + 1))) (m := m) (c := c) (f := f)
  rw [e7] at a1 a2 a3
  unfold cutP
  refine ⟨?_, ?_, ?_, a1, a2, a3⟩
  · rw [newStone_lo (by omega), updN_at, e7]
  · rw [newStone_lo (by omega), updN_ne (by omega), updN_ne (by omega)]
  · rw [newStone_out (by omega) (by rw [e7]; omega), updN_at]
set_option maxHeartbeats 400000 in
set_option maxRecDepth 100000 in
theorem cuts1N {Γ : CX} {G : GC} {Z : State → Prop} {mc ms k n : Nat} {M : PH} {x D c f : Nat} {S : St} (hX : RepX M x S) (hG : SG D S) (hc : c < sP S 5) (hf : f ≤ 9) (hn : cheapN (sP S) c (sP S 6) = none) (C : Cx Γ G iL_cuts [] mc ms) (hkn : k ≤ mc ∧ n ≤ ms) (K : PW Γ G Z 93 [some (.ref x), some (.int (nI (c))), some (.int (nI (f))), some (.long (sumL (sP S))), none, some (.int (-9)), some (.int (nI (sP S (8 + 3 * c + 1)))), some (.int (nI (1))), some (.int (nI (sP S 6))), none, none] [] M k n) : ∀ (d r : Nat), r + d = sP S 6 → PW Γ G Z 31 [some (.ref x), some (.int (nI (c))), some (.int (nI (f))), some (.long (sumL (sP S))), none, some (.int (-9)), some (.int (nI (sP S (8 + 3 * c + 1)))), some (.int (nI (1))), some (.int (nI (r))), none, none] [] M k n := by
  have hS := hG.1
  have hI := hS.1.1
  have hb := hI.b
  have h14 := hX.m14
  have qc := hI.c hc
  intro d
  induction d with
  | zero =>
    intro r hr
    obtain rfl : r = sP S 6 := by omega
    refine pw_iload (q := 33) C dL_cuts_31 rfl rfl ?_
    refine pw_aload_n (q := 34) (j := 0) C dL_cuts_33 rfl rfl rfl ?_
    refine pw_iconst_n (q := 35) C 1 dL_cuts_34 (by decide +kernel) rfl ?_
    refine pw_rd (q := 38) (cr_s (j := iL_about) C dL_cuts_35 lL_176 mL_about (ro_mk (by decide) (by decide))  (v_a1 hX hS) rfl rfl (Nat.le_of_ble_eq_true rfl) ⟨by omega, by omega⟩) rfl ?_
    refine pw_icmp_ge_n (q := 41) 93 C dL_cuts_38 (by decide) rfl (by omega) (by omega) (fun g38 => ?_) (fun g38 => absurd g38 (by omega))
    exact K
  | succ d ih =>
    intro r hr
    have q := hI.m (m := r) (by omega)
    have qn := cheap_none hn r (by omega)
    refine pw_iload (q := 33) C dL_cuts_31 rfl rfl ?_
    refine pw_aload_n (q := 34) (j := 0) C dL_cuts_33 rfl rfl rfl ?_
    refine pw_iconst_n (q := 35) C 1 dL_cuts_34 (by decide +kernel) rfl ?_
    refine pw_rd (q := 38) (cr_s (j := iL_about) C dL_cuts_35 lL_176 mL_about (ro_mk (by decide) (by decide))  (v_a1 hX hS) rfl rfl (Nat.le_of_ble_eq_true rfl) ⟨by omega, by omega⟩) rfl ?_
    refine pw_icmp_ge_n (q := 41) 93 C dL_cuts_38 (by decide) rfl (by omega) (by omega) (fun g38 => absurd g38 (by omega)) (fun g38 => ?_)
    refine pw_iload (q := 43) C dL_cuts_41 rfl rfl ?_
    refine pw_aload_n (q := 44) (j := 0) C dL_cuts_43 rfl rfl rfl ?_
    refine pw_iload (q := 46) C dL_cuts_44 rfl rfl ?_
    refine pw_iconst_n (q := 47) C 2 dL_cuts_46 (by decide +kernel) rfl ?_
    refine pw_rd (q := 50) (cr_s (j := iL_mason) C dL_cuts_47 lL_180 mL_mason (ro_mk (by decide) (by decide))  (v_m2 hX hS (by omega)) rfl rfl (Nat.le_of_ble_eq_true rfl) ⟨by omega, by omega⟩) rfl ?_
    refine pw_iload (q := 52) C dL_cuts_50 rfl rfl ?_
    refine pw_icmp_lt_n (q := 55) 79 C dL_cuts_52 (by decide) rfl (by omega) (by omega) (fun g52 => ?_) (fun g52 => absurd g52 (by omega))
    refine pw_iconst_n (q := 80) C 1 dL_cuts_79 (by decide +kernel) rfl ?_
    refine pw_goto (q := 0) 84 C dL_cuts_80 (by decide) ?_
    refine pw_and11 (q := 85) C dL_cuts_84 rfl ?_
    refine pw_istore (q := 87) C dL_cuts_85 rfl (by decide) rfl ?_
    refine pw_iinc_n (q := 90) C 1 dL_cuts_87 rfl (by decide +kernel) rfl (by decide) rfl ?_
    refine pw_goto (q := 0) 31 C dL_cuts_90 (by decide) ?_
    exact ih (r + 1) (by omega)
set_option maxHeartbeats 400000 in
set_option maxRecDepth 100000 in
theorem cuts1S {Γ : CX} {G : GC} {Z : State → Prop} {mc ms k n : Nat} {M : PH} {x D c f : Nat} {S : St} (hX : RepX M x S) (hG : SG D S) (hc : c < sP S 5) (hf : f ≤ 9) {m : Nat} (hn : cheapN (sP S) c (sP S 6) = some m) (C : Cx Γ G iL_cuts [] mc ms) (hkn : k ≤ mc ∧ n ≤ ms) (K : PW Γ G Z 93 [some (.ref x), some (.int (nI (c))), some (.int (nI (f))), some (.long (sumL (sP S))), none, some (.int (nI m)), some (.int (nI (sP S (8 + 3 * c + 1)))), some (.int (nI (1))), some (.int (nI (sP S 6))), none, none] [] M k n) : ∀ (d r : Nat), r + d = sP S 6 → PW Γ G Z 31 [some (.ref x), some (.int (nI (c))), some (.int (nI (f))), some (.long (sumL (sP S))), none, some (.int (nI m)), some (.int (nI (sP S (8 + 3 * c + 1)))), some (.int (nI (1))), some (.int (nI (r))), none, none] [] M k n := by
  have hS := hG.1
  have hI := hS.1.1
  have hb := hI.b
  have h14 := hX.m14
  have qc := hI.c hc
  have hm := cheapN_lt hn
  have qm := hI.m hm
  intro d
  induction d with
  | zero =>
    intro r hr
    obtain rfl : r = sP S 6 := by omega
    refine pw_iload (q := 33) C dL_cuts_31 rfl rfl ?_
    refine pw_aload_n (q := 34) (j := 0) C dL_cuts_33 rfl rfl rfl ?_
    refine pw_iconst_n (q := 35) C 1 dL_cuts_34 (by decide +kernel) rfl ?_
    refine pw_rd (q := 38) (cr_s (j := iL_about) C dL_cuts_35 lL_176 mL_about (ro_mk (by decide) (by decide))  (v_a1 hX hS) rfl rfl (Nat.le_of_ble_eq_true rfl) ⟨by omega, by omega⟩) rfl ?_
    refine pw_icmp_ge_n (q := 41) 93 C dL_cuts_38 (by decide) rfl (by omega) (by omega) (fun g38 => ?_) (fun g38 => absurd g38 (by omega))
    exact K
  | succ d ih =>
    intro r hr
    have q := hI.m (m := r) (by omega)
    have qn := (cheap_some hn).2 r (by omega)
    refine pw_iload (q := 33) C dL_cuts_31 rfl rfl ?_
    refine pw_aload_n (q := 34) (j := 0) C dL_cuts_33 rfl rfl rfl ?_
    refine pw_iconst_n (q := 35) C 1 dL_cuts_34 (by decide +kernel) rfl ?_
    refine pw_rd (q := 38) (cr_s (j := iL_about) C dL_cuts_35 lL_176 mL_about (ro_mk (by decide) (by decide))  (v_a1 hX hS) rfl rfl (Nat.le_of_ble_eq_true rfl) ⟨by omega, by omega⟩) rfl ?_
    refine pw_icmp_ge_n (q := 41) 93 C dL_cuts_38 (by decide) rfl (by omega) (by omega) (fun g38 => absurd g38 (by omega)) (fun g38 => ?_)
    refine pw_iload (q := 43) C dL_cuts_41 rfl rfl ?_
    refine pw_aload_n (q := 44) (j := 0) C dL_cuts_43 rfl rfl rfl ?_
    refine pw_iload (q := 46) C dL_cuts_44 rfl rfl ?_
    refine pw_iconst_n (q := 47) C 2 dL_cuts_46 (by decide +kernel) rfl ?_
    refine pw_rd (q := 50) (cr_s (j := iL_mason) C dL_cuts_47 lL_180 mL_mason (ro_mk (by decide) (by decide))  (v_m2 hX hS (by omega)) rfl rfl (Nat.le_of_ble_eq_true rfl) ⟨by omega, by omega⟩) rfl ?_
    refine pw_iload (q := 52) C dL_cuts_50 rfl rfl ?_
    refine pw_icmp_lt_n (q := 55) 79 C dL_cuts_52 (by decide) rfl (by omega) (by omega) (fun g52 => ?_) (fun g52 => ?_)
    · refine pw_iconst_n (q := 80) C 1 dL_cuts_79 (by decide +kernel) rfl ?_
      refine pw_goto (q := 0) 84 C dL_cuts_80 (by decide) ?_
      refine pw_and11 (q := 85) C dL_cuts_84 rfl ?_
      refine pw_istore (q := 87) C dL_cuts_85 rfl (by decide) rfl ?_
      refine pw_iinc_n (q := 90) C 1 dL_cuts_87 rfl (by decide +kernel) rfl (by decide) rfl ?_
      refine pw_goto (q := 0) 31 C dL_cuts_90 (by decide) ?_
      exact ih (r + 1) (by omega)
    · refine pw_iload (q := 57) C dL_cuts_55 rfl rfl ?_
      refine pw_bipush (q := 59) (v := (-9)) C dL_cuts_57 (by decide +kernel) rfl ?_
      refine pw_icmp_eq (q := 62) 83 C dL_cuts_59 (by decide) rfl (fun g59 => absurd g59 (nI_ne9 (by omega))) (fun g59 => ?_)
      refine pw_aload_n (q := 63) (j := 0) C dL_cuts_62 rfl rfl rfl ?_
      refine pw_iload (q := 65) C dL_cuts_63 rfl rfl ?_
      refine pw_iconst_n (q := 66) C 0 dL_cuts_65 (by decide +kernel) rfl ?_
      refine pw_rd (q := 69) (cr_s (j := iL_mason) C dL_cuts_66 lL_180 mL_mason (ro_mk (by decide) (by decide))  (v_m0 hX hS (by omega)) rfl rfl (Nat.le_of_ble_eq_true rfl) ⟨by omega, by omega⟩) rfl ?_
      refine pw_aload_n (q := 70) (j := 0) C dL_cuts_69 rfl rfl rfl ?_
      refine pw_iload (q := 72) C dL_cuts_70 rfl rfl ?_
      refine pw_iconst_n (q := 73) C 0 dL_cuts_72 (by decide +kernel) rfl ?_
      refine pw_rd (q := 76) (cr_s (j := iL_mason) C dL_cuts_73 lL_180 mL_mason (ro_mk (by decide) (by decide))  (v_m0 hX hS (by omega)) rfl rfl (Nat.le_of_ble_eq_true rfl) ⟨by omega, by omega⟩) rfl ?_
      refine pw_icmp_lt_n (q := 79) 83 C dL_cuts_76 (by decide) rfl (by omega) (by omega) (fun g76 => absurd g76 (by have := qn (by omega); omega)) (fun g76 => ?_)
      refine pw_iconst_n (q := 80) C 1 dL_cuts_79 (by decide +kernel) rfl ?_
      refine pw_goto (q := 0) 84 C dL_cuts_80 (by decide) ?_
      refine pw_and11 (q := 85) C dL_cuts_84 rfl ?_
      refine pw_istore (q := 87) C dL_cuts_85 rfl (by decide) rfl ?_
      refine pw_iinc_n (q := 90) C 1 dL_cuts_87 rfl (by decide +kernel) rfl (by decide) rfl ?_
      refine pw_goto (q := 0) 31 C dL_cuts_90 (by decide) ?_
      exact ih (r + 1) (by omega)
set_option maxHeartbeats 200000 in
set_option maxRecDepth 100000 in
theorem v_cutsN {M : PH} {x D c f : Nat} {S : St} (hX : RepX M x S) (hG : SG D S) (hc : c < sP S 5) (hf : f ≤ 9) (hn : cheapN (sP S) c (sP S 6) = none) : Run iL_cuts [.ref x, .int (nI c), .int (nI f)] M 64 800 (RV (.int (nI 1)) (fun M1 => RepX M1 x (cutsS c S) ∧ Fr M M1 x)) := by
  have hS := hG.1
  have hI := hS.1.1
  have hb := hI.b
  have h14 := hX.m14
  have qc := hI.c hc
  have h00 : 0 ≤ 64 ∧ 0 ≤ 800 := ⟨Nat.zero_le _, Nat.zero_le _⟩
  refine Run.of (l0 := [some (.ref x), some (.int (nI c)), some (.int (nI f)), none, none, none, none, none, none, none, none]) (by decide +kernel) (Nat.le_of_ble_eq_true rfl) (by rfl) (fun Γ G C => ?_)
  refine pw_aload_n (q := 1) (j := 0) C dL_cuts_0 rfl rfl rfl ?_
  refine pw_rd (q := 4) (cr_s (j := iL_sum) C dL_cuts_1 lL_184 mL_sum (ro_mk (by decide) (by decide))  (v_sum hX hS) rfl rfl (Nat.le_of_ble_eq_true rfl) ⟨by omega, by omega⟩) rfl ?_
  refine pw_lstore_n (q := 5) (j := 3) C dL_cuts_4 rfl rfl (by decide) rfl ?_
  refine pw_aload_n (q := 6) (j := 0) C dL_cuts_5 rfl rfl rfl ?_
  refine pw_bipush_n (q := 8) C 18 dL_cuts_6 (by decide +kernel) rfl ?_
  refine pw_iload_n (q := 9) (j := 1) C dL_cuts_8 rfl rfl rfl ?_
  refine pw_iconst_n (q := 10) C 0 dL_cuts_9 (by decide +kernel) rfl ?_
  refine pw_iconst_n (q := 11) C 0 dL_cuts_10 (by decide +kernel) rfl ?_
  refine pw_iconst_n (q := 12) C 0 dL_cuts_11 (by decide +kernel) rfl ?_
  refine pw_rd (q := 15) (cr_s (j := iL_call) C dL_cuts_12 lL_170 mL_call (ro_mk (by decide) (by decide))  (v_cheapN hX hS hc hn) rfl rfl (Nat.le_of_ble_eq_true rfl) ⟨by omega, by omega⟩) rfl ?_
  refine pw_istore (q := 17) C dL_cuts_15 rfl (by decide) rfl ?_
  refine pw_aload_n (q := 18) (j := 0) C dL_cuts_17 rfl rfl rfl ?_
  refine pw_iload_n (q := 19) (j := 1) C dL_cuts_18 rfl rfl rfl ?_
  refine pw_iconst_n (q := 20) C 1 dL_cuts_19 (by decide +kernel) rfl ?_
  refine pw_rd (q := 23) (cr_s (j := iL_course) C dL_cuts_20 lL_178 mL_course (ro_mk (by decide) (by decide))  (v_c1 hX hS hc) rfl rfl (Nat.le_of_ble_eq_true rfl) ⟨by omega, by omega⟩) rfl ?_
  refine pw_istore (q := 25) C dL_cuts_23 rfl (by decide) rfl ?_
  refine pw_iconst_n (q := 26) C 1 dL_cuts_25 (by decide +kernel) rfl ?_
  refine pw_istore (q := 28) C dL_cuts_26 rfl (by decide) rfl ?_
  refine pw_iconst_n (q := 29) C 0 dL_cuts_28 (by decide +kernel) rfl ?_
  refine pw_istore (q := 31) C dL_cuts_29 rfl (by decide) rfl ?_
  refine cuts1N hX hG hc hf hn C h00 ?_ (sP S 6) 0 (by omega)
  refine pw_iload (q := 95) C dL_cuts_93 rfl rfl ?_
  refine pw_bipush (q := 97) (v := (-9)) C dL_cuts_95 (by decide +kernel) rfl ?_
  refine pw_icmp_ne (q := 100) 103 C dL_cuts_97 (by decide) rfl (fun g97 => absurd g97 (fun h => h rfl)) (fun g97 => ?_)
  refine pw_iload (q := 102) C dL_cuts_100 rfl rfl ?_
  exact pw_zret C dL_cuts_102 rfl (by first | decide +kernel | exact nar_bN _ | exact nar_01 (by omega)) ⟨by omega, by omega⟩ (RV.mk rfl ⟨by unfold cutsS; rw [if_neg (fun q => by rw [hn] at q; exact absurd q.1 (by decide))]; exact hX, Fr.rf⟩)
set_option maxHeartbeats 200000 in
set_option maxRecDepth 100000 in
theorem v_cutsS {M : PH} {x D c f : Nat} {S : St} (hX : RepX M x S) (hG : SG D S) (hc : c < sP S 5) (hf : f ≤ 9) {m : Nat} (hn : cheapN (sP S) c (sP S 6) = some m) : Run iL_cuts [.ref x, .int (nI c), .int (nI f)] M 64 800 (RV (.int (nI 1)) (fun M1 => RepX M1 x (cutsS c S) ∧ Fr M M1 x)) := by
  have hS := hG.1
  have hI := hS.1.1
  have hb := hI.b
  have h14 := hX.m14
  have qc := hI.c hc
  have h00 : 0 ≤ 64 ∧ 0 ≤ 800 := ⟨Nat.zero_le _, Nat.zero_le _⟩
  have hm := cheapN_lt hn
  have qm := hI.m hm
  have qw := (cheap_some hn).1
  refine Run.of (l0 := [some (.ref x), some (.int (nI c)), some (.int (nI f)), none, none, none, none, none, none, none, none]) (by decide +kernel) (Nat.le_of_ble_eq_true rfl) (by rfl) (fun Γ G C => ?_)
  refine pw_aload_n (q := 1) (j := 0) C dL_cuts_0 rfl rfl rfl ?_
  refine pw_rd (q := 4) (cr_s (j := iL_sum) C dL_cuts_1 lL_184 mL_sum (ro_mk (by decide) (by decide))  (v_sum hX hS) rfl rfl (Nat.le_of_ble_eq_true rfl) ⟨by omega, by omega⟩) rfl ?_
  refine pw_lstore_n (q := 5) (j := 3) C dL_cuts_4 rfl rfl (by decide) rfl ?_
  refine pw_aload_n (q := 6) (j := 0) C dL_cuts_5 rfl rfl rfl ?_
  refine pw_bipush_n (q := 8) C 18 dL_cuts_6 (by decide +kernel) rfl ?_
  refine pw_iload_n (q := 9) (j := 1) C dL_cuts_8 rfl rfl rfl ?_
  refine pw_iconst_n (q := 10) C 0 dL_cuts_9 (by decide +kernel) rfl ?_
  refine pw_iconst_n (q := 11) C 0 dL_cuts_10 (by decide +kernel) rfl ?_
  refine pw_iconst_n (q := 12) C 0 dL_cuts_11 (by decide +kernel) rfl ?_
  refine pw_rd (q := 15) (cr_s (j := iL_call) C dL_cuts_12 lL_170 mL_call (ro_mk (by decide) (by decide))  (v_cheapS hX hS hc hn) rfl rfl (Nat.le_of_ble_eq_true rfl) ⟨by omega, by omega⟩) rfl ?_
  refine pw_istore (q := 17) C dL_cuts_15 rfl (by decide) rfl ?_
  refine pw_aload_n (q := 18) (j := 0) C dL_cuts_17 rfl rfl rfl ?_
  refine pw_iload_n (q := 19) (j := 1) C dL_cuts_18 rfl rfl rfl ?_
  refine pw_iconst_n (q := 20) C 1 dL_cuts_19 (by decide +kernel) rfl ?_
  refine pw_rd (q := 23) (cr_s (j := iL_course) C dL_cuts_20 lL_178 mL_course (ro_mk (by decide) (by decide))  (v_c1 hX hS hc) rfl rfl (Nat.le_of_ble_eq_true rfl) ⟨by omega, by omega⟩) rfl ?_
  refine pw_istore (q := 25) C dL_cuts_23 rfl (by decide) rfl ?_
  refine pw_iconst_n (q := 26) C 1 dL_cuts_25 (by decide +kernel) rfl ?_
  refine pw_istore (q := 28) C dL_cuts_26 rfl (by decide) rfl ?_
  refine pw_iconst_n (q := 29) C 0 dL_cuts_28 (by decide +kernel) rfl ?_
  refine pw_istore (q := 31) C dL_cuts_29 rfl (by decide) rfl ?_
  refine cuts1S hX hG hc hf hn C h00 ?_ (sP S 6) 0 (by omega)
  refine pw_iload (q := 95) C dL_cuts_93 rfl rfl ?_
  refine pw_bipush (q := 97) (v := (-9)) C dL_cuts_95 (by decide +kernel) rfl ?_
  refine pw_icmp_ne (q := 100) 103 C dL_cuts_97 (by decide) rfl (fun g97 => ?_) (fun g97 => absurd g97 (nI_ne9 (by omega)))
  refine pw_aload_n (q := 104) (j := 0) C dL_cuts_103 rfl rfl rfl ?_
  refine pw_iload (q := 106) C dL_cuts_104 rfl rfl ?_
  refine pw_iconst_n (q := 107) C 2 dL_cuts_106 (by decide +kernel) rfl ?_
  refine pw_rd (q := 110) (cr_s (j := iL_mason) C dL_cuts_107 lL_180 mL_mason (ro_mk (by decide) (by decide))  (v_m2 hX hS hm) rfl rfl (Nat.le_of_ble_eq_true rfl) ⟨by omega, by omega⟩) rfl ?_
  refine pw_istore (q := 112) C dL_cuts_110 rfl (by decide) rfl ?_
  refine pw_aload_n (q := 113) (j := 0) C dL_cuts_112 rfl rfl rfl ?_
  refine pw_iconst_n (q := 114) C 2 dL_cuts_113 (by decide +kernel) rfl ?_
  refine pw_rd (q := 117) (cr_s (j := iL_about) C dL_cuts_114 lL_176 mL_about (ro_mk (by decide) (by decide))  (v_a2 hX hS) rfl rfl (Nat.le_of_ble_eq_true rfl) ⟨by omega, by omega⟩) rfl ?_
  refine pw_istore (q := 119) C dL_cuts_117 rfl (by decide) rfl ?_
  by_cases h24 : sP S 7 < 24
  · refine pw_aload_n (q := 120) (j := 0) C dL_cuts_119 rfl rfl rfl ?_
    refine pw_bipush_n (q := 122) C 11 dL_cuts_120 (by decide +kernel) rfl ?_
    refine pw_iload (q := 124) C dL_cuts_122 rfl rfl ?_
    refine pw_iload_n (q := 125) (j := 1) C dL_cuts_124 rfl rfl rfl ?_
    refine pw_iload_n (q := 126) (j := 2) C dL_cuts_125 rfl rfl rfl ?_
    refine pw_iconst_n (q := 127) C 0 dL_cuts_126 (by decide +kernel) rfl ?_
    refine pw_val (q := 130) (cr_s (j := iL_call) C dL_cuts_127 lL_170 mL_call (ro_mk (by decide) (by decide))  (a_of (g_cut hX hS) (e_cut hI hm hc hf ⟨qw, h24⟩)) rfl rfl (Nat.le_of_ble_eq_true rfl) ⟨by omega, by omega⟩) rfl (fun M127 e127 => ?_)
    have hU := UI.start ((SI.start hX hG).act h14 (by omega) e127 (by have z := sg_cut hG (nI m) (nI c) (nI f); rw [e_cut hI hm hc hf ⟨qw, h24⟩] at z; exact z))
    obtain ⟨hX9, -, hG9, -⟩ := id hU
    have hS9 := hG9.1
    obtain ⟨t7, t6, tw, t1, t2, t3⟩ := cut_at hI (c := c) (f := f) hm
    have hm9 : m < cutP (sP S) m c f 6 := by omega
    have hs9 : sP S 7 < cutP (sP S) m c f 7 := by omega
    have h149 := hX9.m14
    refine pw_istore (q := 132) C dL_cuts_130 rfl (by decide) rfl ?_
    refine pw_iload (q := 134) C dL_cuts_132 rfl rfl ?_
    refine pw_ldci (q := 136) C dL_cuts_134 cn_26 rfl ?_
    refine pw_icmp_ne (q := 139) 166 C dL_cuts_136 (by decide) rfl (fun g136 => ?_) (fun g136 => absurd g136 (nI_neS (by omega)))
    refine pw_iload (q := 168) C dL_cuts_166 rfl rfl ?_
    refine pw_iload (q := 170) C dL_cuts_168 rfl rfl ?_
    refine pw_iload (q := 172) C dL_cuts_170 rfl rfl ?_
    refine pw_icmp_ne_n (q := 175) 227 C dL_cuts_172 (by decide) rfl (by omega) (by omega) (fun g172 => absurd g172 (by omega)) (fun g172 => ?_)
    refine pw_aload_n (q := 176) (j := 0) C dL_cuts_175 rfl rfl rfl ?_
    refine pw_iload (q := 178) C dL_cuts_176 rfl rfl ?_
    refine pw_iconst_n (q := 179) C 2 dL_cuts_178 (by decide +kernel) rfl ?_
    refine pw_rd (q := 182) (cr_s (j := iL_mason) C dL_cuts_179 lL_180 mL_mason (ro_mk (by decide) (by decide))  (v_m2 (S := wA S (cutP (sP S) m c f)) hX9 hS9 hm9) rfl rfl (Nat.le_of_ble_eq_true rfl) ⟨by omega, by omega⟩) rfl ?_
    rw [show sP (wA S (cutP (sP S) m c f)) (26 + 4 * m + 2) = sP S (26 + 4 * m + 2) - sP S (8 + 3 * c + 1) from tw]
    refine pw_iload (q := 184) C dL_cuts_182 rfl rfl ?_
    refine pw_iload (q := 186) C dL_cuts_184 rfl rfl ?_
    refine pw_isub_n (q := 187) C dL_cuts_186 qw rfl ?_
    refine pw_icmp_ne_n (q := 190) 227 C dL_cuts_187 (by decide) rfl (by omega) (by omega) (fun g187 => absurd g187 (by omega)) (fun g187 => ?_)
    refine pw_aload_n (q := 191) (j := 0) C dL_cuts_190 rfl rfl rfl ?_
    refine pw_iload (q := 193) C dL_cuts_191 rfl rfl ?_
    refine pw_iconst_n (q := 194) C 1 dL_cuts_193 (by decide +kernel) rfl ?_
    refine pw_rd (q := 197) (cr_s (j := iL_stone) C dL_cuts_194 lL_182 mL_stone (ro_mk (by decide) (by decide))  (v_s1 (S := wA S (cutP (sP S) m c f)) hX9 hS9 hs9) rfl rfl (Nat.le_of_ble_eq_true rfl) ⟨by omega, by omega⟩) rfl ?_
    rw [show sP (wA S (cutP (sP S) m c f)) (50 + 6 * sP S 7 + 1) = m from t1]
    refine pw_iload (q := 199) C dL_cuts_197 rfl rfl ?_
    refine pw_icmp_ne_n (q := 202) 227 C dL_cuts_199 (by decide) rfl (by omega) (by omega) (fun g199 => absurd g199 (by omega)) (fun g199 => ?_)
    refine pw_aload_n (q := 203) (j := 0) C dL_cuts_202 rfl rfl rfl ?_
    refine pw_iload (q := 205) C dL_cuts_203 rfl rfl ?_
    refine pw_iconst_n (q := 206) C 2 dL_cuts_205 (by decide +kernel) rfl ?_
    refine pw_rd (q := 209) (cr_s (j := iL_stone) C dL_cuts_206 lL_182 mL_stone (ro_mk (by decide) (by decide))  (v_s2 (S := wA S (cutP (sP S) m c f)) hX9 hS9 hs9) rfl rfl (Nat.le_of_ble_eq_true rfl) ⟨by omega, by omega⟩) rfl ?_
    rw [show sP (wA S (cutP (sP S) m c f)) (50 + 6 * sP S 7 + 2) = f from t2]
    refine pw_iload_n (q := 210) (j := 2) C dL_cuts_209 rfl rfl rfl ?_
    refine pw_icmp_ne_n (q := 213) 227 C dL_cuts_210 (by decide) rfl (by omega) (by omega) (fun g210 => absurd g210 (by omega)) (fun g210 => ?_)
    refine pw_aload_n (q := 214) (j := 0) C dL_cuts_213 rfl rfl rfl ?_
    refine pw_iload (q := 216) C dL_cuts_214 rfl rfl ?_
    refine pw_iconst_n (q := 217) C 3 dL_cuts_216 (by decide +kernel) rfl ?_
    refine pw_rd (q := 220) (cr_s (j := iL_stone) C dL_cuts_217 lL_182 mL_stone (ro_mk (by decide) (by decide))  (v_s3 (S := wA S (cutP (sP S) m c f)) hX9 hS9 hs9) rfl rfl (Nat.le_of_ble_eq_true rfl) ⟨by omega, by omega⟩) rfl ?_
    rw [show sP (wA S (cutP (sP S) m c f)) (50 + 6 * sP S 7 + 3) = 0 from t3]
    refine pw_if_ne_n (q := 223) 227 C dL_cuts_220 (by decide) rfl (by omega) (fun g220 => absurd g220 (fun h => h rfl)) (fun g220 => ?_)
    refine pw_iconst_n (q := 224) C 1 dL_cuts_223 (by decide +kernel) rfl ?_
    refine pw_goto (q := 0) 228 C dL_cuts_224 (by decide) ?_
    refine pw_and11 (q := 229) C dL_cuts_228 rfl ?_
    refine pw_istore (q := 231) C dL_cuts_229 rfl (by decide) rfl ?_
    refine pw_iload (q := 233) C dL_cuts_231 rfl rfl ?_
    refine pw_if_eq_n (q := 236) 262 C dL_cuts_233 (by decide) rfl (by omega) (fun g233 => absurd g233 (by decide)) (fun g233 => ?_)
    refine pw_aload_n (q := 237) (j := 0) C dL_cuts_236 rfl rfl rfl ?_
    refine pw_bipush_n (q := 239) C 16 dL_cuts_237 (by decide +kernel) rfl ?_
    refine pw_iconst_n (q := 240) C 0 dL_cuts_239 (by decide +kernel) rfl ?_
    refine pw_iconst_n (q := 241) C 0 dL_cuts_240 (by decide +kernel) rfl ?_
    refine pw_iconst_n (q := 242) C 0 dL_cuts_241 (by decide +kernel) rfl ?_
    refine pw_iconst_n (q := 243) C 0 dL_cuts_242 (by decide +kernel) rfl ?_
    refine pw_val (q := 246) (cr_s (j := iL_call) C dL_cuts_243 lL_170 mL_call (ro_mk (by decide) (by decide))  (u_undo hU) rfl rfl (Nat.le_of_ble_eq_true rfl) ⟨by omega, by omega⟩) rfl (fun M243 e243 => ?_)
    have hU0 := hU.undo e243
    refine pw_if_lt (q := 249) 262 C dL_cuts_246 (by decide) rfl (fun g246 => absurd g246 (nI_pos (by omega))) (fun g246 => ?_)
    refine pw_aload_n (q := 250) (j := 0) C dL_cuts_249 rfl rfl rfl ?_
    refine pw_rd (q := 253) (cr_s (j := iL_sum) C dL_cuts_250 lL_184 mL_sum (ro_mk (by decide) (by decide))  (v_sum hU0.1 hU0.2.2.1.1) rfl rfl (Nat.le_of_ble_eq_true rfl) ⟨by omega, by omega⟩) rfl ?_
    refine pw_lload_n (q := 254) (j := 3) C dL_cuts_253 rfl rfl rfl ?_
    refine pw_lcmp0 (q := 255) C dL_cuts_254 (by rw [hU0.page]) rfl ?_
    refine pw_if_ne_n (q := 258) 262 C dL_cuts_255 (by decide) rfl (by omega) (fun g255 => absurd g255 (fun h => h rfl)) (fun g255 => ?_)
    refine pw_iconst_n (q := 259) C 1 dL_cuts_258 (by decide +kernel) rfl ?_
    refine pw_goto (q := 0) 263 C dL_cuts_259 (by decide) ?_
    exact pw_zret C dL_cuts_263 rfl (by first | decide +kernel | exact nar_bN _ | exact nar_01 (by omega)) ⟨by omega, by omega⟩ (RV.mk rfl (by unfold cutsS; rw [if_pos ⟨by rw [hn]; rfl, h24⟩]; exact hU0.end))
  · refine pw_aload_n (q := 120) (j := 0) C dL_cuts_119 rfl rfl rfl ?_
    refine pw_bipush_n (q := 122) C 11 dL_cuts_120 (by decide +kernel) rfl ?_
    refine pw_iload (q := 124) C dL_cuts_122 rfl rfl ?_
    refine pw_iload_n (q := 125) (j := 1) C dL_cuts_124 rfl rfl rfl ?_
    refine pw_iload_n (q := 126) (j := 2) C dL_cuts_125 rfl rfl rfl ?_
    refine pw_iconst_n (q := 127) C 0 dL_cuts_126 (by decide +kernel) rfl ?_
    refine pw_val (q := 130) (cr_s (j := iL_call) C dL_cuts_127 lL_170 mL_call (ro_mk (by decide) (by decide))  (a_ofx (g_cut hX hS) (e_cutN hI hm hc hf (fun q => h24 q.2)) cod_S) rfl rfl (Nat.le_of_ble_eq_true rfl) ⟨by omega, by omega⟩) rfl (fun M127 e127 => ?_)
    refine pw_istore (q := 132) C dL_cuts_130 rfl (by decide) rfl ?_
    refine pw_iload (q := 134) C dL_cuts_132 rfl rfl ?_
    refine pw_ldci (q := 136) C dL_cuts_134 cn_26 rfl ?_
    refine pw_icmp_ne (q := 139) 166 C dL_cuts_136 (by decide) rfl (fun g136 => absurd g136 (fun h => h rfl)) (fun g136 => ?_)
    refine pw_iload (q := 141) C dL_cuts_139 rfl rfl ?_
    refine pw_if_eq_n (q := 144) 164 C dL_cuts_141 (by decide) rfl (by omega) (fun g141 => absurd g141 (by decide)) (fun g141 => ?_)
    refine pw_iload (q := 146) C dL_cuts_144 rfl rfl ?_
    refine pw_bipush_n (q := 148) C 24 dL_cuts_146 (by decide +kernel) rfl ?_
    refine pw_icmp_ne_n (q := 151) 164 C dL_cuts_148 (by decide) rfl (by omega) (by omega) (fun g148 => absurd g148 (by omega)) (fun g148 => ?_)
    refine pw_aload_n (q := 152) (j := 0) C dL_cuts_151 rfl rfl rfl ?_
    refine pw_rd (q := 155) (cr_s (j := iL_sum) C dL_cuts_152 lL_184 mL_sum (ro_mk (by decide) (by decide))  (v_sum e127.1 hS) rfl rfl (Nat.le_of_ble_eq_true rfl) ⟨by omega, by omega⟩) rfl ?_
    refine pw_lload_n (q := 156) (j := 3) C dL_cuts_155 rfl rfl rfl ?_
    refine pw_lcmp0 (q := 157) C dL_cuts_156 rfl rfl ?_
    refine pw_if_ne_n (q := 160) 164 C dL_cuts_157 (by decide) rfl (by omega) (fun g157 => absurd g157 (fun h => h rfl)) (fun g157 => ?_)
    refine pw_iconst_n (q := 161) C 1 dL_cuts_160 (by decide +kernel) rfl ?_
    refine pw_goto (q := 0) 165 C dL_cuts_161 (by decide) ?_
    exact pw_zret C dL_cuts_165 rfl (by first | decide +kernel | exact nar_bN _ | exact nar_01 (by omega)) ⟨by omega, by omega⟩ (RV.mk rfl ⟨by unfold cutsS; rw [if_neg (fun q => h24 q.2)]; exact e127.1, e127.2⟩)
theorem v_cuts {M : PH} {x D c f : Nat} {S : St} (hX : RepX M x S) (hG : SG D S) (hc : c < sP S 5) (hf : f ≤ 9) : Run iL_cuts [.ref x, .int (nI c), .int (nI f)] M 64 800 (RV (.int (nI 1)) (fun M1 => RepX M1 x (cutsS c S) ∧ Fr M M1 x)) := by
  cases hn : cheapN (sP S) c (sP S 6) with
  | none => exact v_cutsN hX hG hc hf hn
  | some m => exact v_cutsS hX hG hc hf hn
