/-! runScript, simulate. -/
def idxL (w : Int64) : Nat := w.toInt.toNat
theorem idxL_n {v : Nat} (h : v < 2 ^ 63) : idxL (nL v) = v := by
  rw [idxL, nL_toInt h]
  rfl
theorem cmp_0 {v : Nat} (h : v < 2 ^ 63) : lg_cmp (nL v) 0 = 0 ↔ v = 0 := by
  rw [lg_cmp_eq]
  constructor
  · intro q
    have := congrArg Int64.toInt q
    rw [nL_toInt h] at this
    have h0 : (0 : Int64).toInt = 0 := by decide +kernel
    rw [h0] at this
    omega
  · intro q
    rw [q]
    decide +kernel
def runS (v n : Nat) : Nat → Nat → (Nat → Nat) → Int32
  | 0, _, _ => -9
  | d + 1, i, P => if (cmd P (grp v (n - 1 - i) % 100000)).isSome = true then runS v n d (i + 1) ((cmd P (grp v (n - 1 - i) % 100000)).getD P) else nI i
def spScript (S : St) (c : Int32) (w : Int64) : RS := if inW c 1 3 ∧ 0 ≤ w ∧ grp (idxL w) (idx c) = 0 then (0, runS (idxL w) (idx c) (idx c) 0 (sP S), S) else (1, 0, S)
theorem cmd_inv {P Q : Nat → Nat} {g : Nat} (hI : Inv P) (hd : P 1 + 1 < 100000) (h : cmd P g = some Q) : Inv Q ∧ Q 1 ≤ P 1 + 1 := by
  have key : ∀ {c : Prop} [Decidable c] {X : Nat → Nat}, (if c then some X else none) = some Q → c ∧ X = Q := by
    intro c _ X hx
    split at hx
    · rename_i hc
      exact ⟨hc, Option.some.inj hx⟩
    · cases hx
  unfold cmd at h
  split at h
  · obtain ⟨⟨_, h2, h3, h4⟩, rfl⟩ := key h
    exact ⟨hI.cut h2 h3 (by omega) h4, by unfold cutP newStoneP; simp only [updN]; grind⟩
  split at h
  · obtain ⟨⟨_, _, h3, h4⟩, rfl⟩ := key h
    exact ⟨hI.inspect h3 h4, by unfold inspectP stateP; split <;> (simp only [updN]; grind)⟩
  split at h
  · obtain ⟨⟨h1, h2, h3, h4⟩, rfl⟩ := key h
    exact ⟨hI.recut h1 h2 h3 h4, by unfold recutP; simp only [updN]; grind⟩
  split at h
  · obtain ⟨⟨_, _, h3, h4⟩, rfl⟩ := key h
    exact ⟨hI.set h3 h4, by unfold stateP; simp only [updN]; grind⟩
  split at h
  · obtain ⟨⟨_, _, _, h4⟩, rfl⟩ := key h
    exact ⟨hI.day h4 hd, Nat.le_refl _⟩
  split at h
  · obtain ⟨_, rfl⟩ := key h
    exact ⟨hI.bound (by omega), by simp only [updN]; grind⟩
  split at h
  · obtain ⟨⟨_, _, h3, h4⟩, rfl⟩ := key h
    exact ⟨hI.scrap h3 h4, by unfold stateP; simp only [updN]; grind⟩
  split at h
  · obtain ⟨_, rfl⟩ := key h
    exact ⟨hI, by omega⟩
  split at h
  · obtain ⟨_, rfl⟩ := key h
    exact ⟨hI, by omega⟩
  · cases h
theorem cmd_inv2 {P : Nat → Nat} {g : Nat} (hI : Inv P) (hd : P 1 + 1 < 100000) (h : (cmd P g).isSome = true) : Inv ((cmd P g).getD P) ∧ (cmd P g).getD P 1 ≤ P 1 + 1 := by
  rcases hc : cmd P g with _ | Q
  · rw [hc] at h; cases h
  · exact cmd_inv hI hd hc
set_option maxHeartbeats 200000 in
set_option maxRecDepth 100000 in
theorem p_runScript {M : PH} {x D : Nat} {S : St} (hX : RepX M x S) (hS : SInv D S) (hD : D < 90000) (c1 : Int32) (w : Int64) : Run iX10_runScript [.ref x, .int c1, .long w] M 2 12 (QX M x (EX xA xA xA) (spScript S c1 w)) := by
  obtain ⟨a0, ax, aT, hL, ⟨aQ, aq⟩, ⟨nx, aR⟩, aS, aL, aW, aF⟩ := id hX
  obtain ⟨fc, fm, fs, hG, hr⟩ := id hL
  have hI := hS.1.1
  have hb := hI.b
  refine Run.of (l0 := [some (.ref x), some (.int c1), some (.long w), none, none]) (by decide +kernel) (Nat.le_of_ble_eq_true rfl) (by rfl) (fun Γ G C => ?_)
  by_cases h1 : inW c1 1 3
  · refine pw_iload_n (q := 1) (j := 1) C dX10_runScript_0 rfl rfl rfl ?_
    refine pw_iconst_n (q := 2) C 1 dX10_runScript_1 (by decide +kernel) rfl ?_
    refine pw_iconst_n (q := 3) C 3 dX10_runScript_2 (by decide +kernel) rfl ?_
    refine pw_rd (q := 6) (cr_s (j := iX10_isWithin) C dX10_runScript_3 lX10_47 mX10_isWithin (ro_mk (by decide) (by decide))  (i_in h1) rfl rfl (Nat.le_of_ble_eq_true rfl) ⟨by omega, by omega⟩) rfl ?_
    refine pw_if_ne_n (q := 9) 20 C dX10_runScript_6 (by decide) rfl (by omega) (fun g6 => ?_) (fun g6 => absurd g6 (fun q => absurd q (by decide)))
    obtain ⟨k1, hl1, hk1, rfl⟩ := inW_n h1 (by omega) (by omega)
    by_cases h2 : (0 : Int64) ≤ w
    · obtain ⟨v, hv, rfl⟩ := nL_of h2
      refine pw_lload_n (q := 21) (j := 2) C dX10_runScript_20 rfl rfl rfl ?_
      refine pw_lconst (q := 22) (v := 0) C dX10_runScript_21 (by decide +kernel) rfl ?_
      refine pw_lcmp (q := 23) C dX10_runScript_22 rfl ?_
      refine pw_if_lt (q := 26) 36 C dX10_runScript_23 (by decide) rfl (fun g23 => absurd g23 (fun q => absurd ((lg_cmp_lt _ _).mp q) (Int64.not_lt.mpr h2))) (fun g23 => ?_)
      refine pw_lload_n (q := 27) (j := 2) C dX10_runScript_26 rfl rfl rfl ?_
      refine pw_iload_n (q := 28) (j := 1) C dX10_runScript_27 rfl rfl rfl ?_
      refine pw_rd (q := 31) (cr_s (j := iX5_withoutLastGroups) C dX10_runScript_28 lX10_281 mX5_withoutLastGroups (ro_mk (by decide) (by decide))  (x_groups hv (by omega)) rfl rfl (Nat.le_of_ble_eq_true rfl) ⟨by omega, by omega⟩) rfl ?_
      refine pw_lconst (q := 32) (v := 0) C dX10_runScript_31 (by decide +kernel) rfl ?_
      refine pw_lcmp (q := 33) C dX10_runScript_32 rfl ?_
      refine pw_if_eq (q := 36) 47 C dX10_runScript_33 (by decide) rfl (fun g33 => ?_) (fun g33 => ?_)
      · have hg0 := (cmp_0 (grp_lt k1 hv)).mp g33
        have hsp : spScript S (nI k1) (nL v) = (0, runS v k1 k1 0 (sP S), S) := by rw [spScript, if_pos ⟨h1, h2, by rw [idxL_n hv, idx_n (show k1 < 2147483648 by omega)]; exact hg0⟩, idxL_n hv, idx_n (show k1 < 2147483648 by omega)]
        refine pw_aload_n (q := 48) (j := 0) C dX10_runScript_47 rfl rfl rfl ?_
        refine pw_getf (q := 51) C dX10_runScript_48 fX10_19 a0 (by rfl) rfl ?_
        refine pw_aload_n (q := 52) (j := 0) C dX10_runScript_51 rfl rfl rfl ?_
        refine pw_getf (q := 55) C dX10_runScript_52 fX10_23 a0 (by rfl) rfl ?_
        refine pw_void (q := 58) (cr_s (j := iX10_copyLodge) C dX10_runScript_55 lX10_85 mX10_copyLodge (ro_mk (by decide) (by decide))  (w_copyLodge aq hL (by omega) hb.2.1) rfl rfl (Nat.le_of_ble_eq_true rfl) ⟨by omega, by omega⟩) rfl (fun M55 e55 => ?_)
        obtain ⟨hLt, sm⟩ := e55
        refine pw_iconst_n (q := 59) C 0 dX10_runScript_58 (by decide +kernel) rfl ?_
        refine pw_istore (q := 61) C dX10_runScript_59 rfl (by decide) rfl ?_
        have loop : ∀ (d i : Nat), i + d = k1 → ∀ (M2 : PH) (P2 : Nat → Nat), LodgeAt M2 (x + 10) P2 → Same M M2 (x + 10) (x + 10 + 7) → Inv P2 → P2 1 ≤ D + i → runS v k1 d i P2 = runS v k1 k1 0 (sP S) → PW Γ G (ZJ Γ G 2 12 (QX M x (EX xA xA xA) (spScript S (nI k1) (nL v)))) 61 [some (.ref x), some (.int (nI k1)), some (.long (nL v)), none, some (.int (nI i))] [] M2 0 0 := by
          intro d
          induction d with
          | zero =>
            intro i hd
            intro M2 P2 hLt sm hI2 hd2 hrun
            have a0 := (sm.2 x (by omega)).trans a0
            have t := hX.trial ⟨_, hLt⟩ sm
            refine pw_iload (q := 63) C dX10_runScript_61 rfl rfl ?_
            refine pw_iload_n (q := 64) (j := 1) C dX10_runScript_63 rfl rfl rfl ?_
            refine pw_icmp_ge_n (q := 67) 99 C dX10_runScript_64 (by decide) rfl (by omega) (by omega) (fun g64 => ?_) (fun g64 => absurd g64 (by omega))
            refine pw_bipush (q := 101) (v := (-9)) C dX10_runScript_99 (by decide +kernel) rfl ?_
            exact pw_iret C dX10_runScript_101 rfl ⟨by omega, by omega⟩ (QX.ok (by rw [hsp, ← hrun]; rfl) t.1 t.2)
          | succ d ih =>
            intro i hd
            intro M2 P2 hLt sm hI2 hd2 hrun
            have a0 := (sm.2 x (by omega)).trans a0
            have t := hX.trial ⟨_, hLt⟩ sm
            refine pw_iload (q := 63) C dX10_runScript_61 rfl rfl ?_
            refine pw_iload_n (q := 64) (j := 1) C dX10_runScript_63 rfl rfl rfl ?_
            refine pw_icmp_ge_n (q := 67) 99 C dX10_runScript_64 (by decide) rfl (by omega) (by omega) (fun g64 => absurd g64 (by omega)) (fun g64 => ?_)
            refine pw_aload_n (q := 68) (j := 0) C dX10_runScript_67 rfl rfl rfl ?_
            refine pw_getf (q := 71) C dX10_runScript_68 fX10_23 a0 (by rfl) rfl ?_
            refine pw_lload_n (q := 72) (j := 2) C dX10_runScript_71 rfl rfl rfl ?_
            refine pw_iload_n (q := 73) (j := 1) C dX10_runScript_72 rfl rfl rfl ?_
            refine pw_iconst_n (q := 74) C 1 dX10_runScript_73 (by decide +kernel) rfl ?_
            refine pw_isub_n (q := 75) C dX10_runScript_74 (by omega) rfl ?_
            refine pw_iload (q := 77) C dX10_runScript_75 rfl rfl ?_
            refine pw_isub_n (q := 78) C dX10_runScript_77 (by omega) rfl ?_
            refine pw_rd (q := 81) (cr_s (j := iX5_withoutLastGroups) C dX10_runScript_78 lX10_281 mX5_withoutLastGroups (ro_mk (by decide) (by decide))  (x_groups hv (by omega)) rfl rfl (Nat.le_of_ble_eq_true rfl) ⟨by omega, by omega⟩) rfl ?_
            refine pw_rd (q := 84) (cr_s (j := iX5_lastGroup) C dX10_runScript_81 lX10_289 mX5_lastGroup (ro_mk (by decide) (by decide))  (x_last (grp_lt _ hv)) rfl rfl (Nat.le_of_ble_eq_true rfl) ⟨by omega, by omega⟩) rfl ?_
            refine pw_val (q := 87) (cr_s (j := iX5_succeeds) C dX10_runScript_84 lX10_293 mX5_succeeds (ro_mk (by decide) (by decide))  (c_succeeds hLt hI2 (by omega) (by omega)) rfl rfl (Nat.le_of_ble_eq_true rfl) ⟨by omega, by omega⟩) rfl (fun M84 e84 => ?_)
            obtain ⟨hL9, sm9⟩ := e84
            have a0 := (sm9.2 x (by omega)).trans a0
            have t := hX.trial ⟨_, hL9⟩ (sm.tr sm9)
            refine pw_if_ne_b (q := 90) 93 C dX10_runScript_87 (by decide) rfl (fun g87 => ?_) (fun g87 => ?_)
            · refine pw_iinc_n (q := 96) C 1 dX10_runScript_93 rfl (by decide +kernel) rfl (by decide) rfl ?_
              refine pw_goto (q := 0) 61 C dX10_runScript_96 (by decide) ?_
              have u := cmd_inv2 hI2 (by omega) g87
              exact ih (i + 1) (by omega) _ _ hL9 (sm.tr sm9) u.1 (by omega) (by rw [← hrun, runS, if_pos g87])
            · refine pw_iload (q := 92) C dX10_runScript_90 rfl rfl ?_
              exact pw_iret C dX10_runScript_92 rfl ⟨by omega, by omega⟩ (QX.ok (by rw [hsp, ← hrun, runS, if_neg g87]) t.1 t.2)
        exact loop k1 0 (by omega) _ _ hLt sm hI hS.1.2 rfl
      · refine pw_throwW (T := []) C twX10_51_287_55 dX10_runScript_36 dX10_runScript_39 dX10_runScript_40 dX10_runScript_43 dX10_runScript_46 ⟨by decide, Nat.le_of_ble_eq_true rfl⟩ ⟨by omega, by omega⟩ (fun z hz => QX.no 0 (by rw [spScript, if_neg (fun q => g33 ((cmp_0 (grp_lt k1 hv)).mpr (by have t := q.2.2; rw [idxL_n hv, idx_n (show k1 < 2147483648 by omega)] at t; exact t)))]) rfl (hX.up hz) (Fr.up hz))
    · refine pw_lload_n (q := 21) (j := 2) C dX10_runScript_20 rfl rfl rfl ?_
      refine pw_lconst (q := 22) (v := 0) C dX10_runScript_21 (by decide +kernel) rfl ?_
      refine pw_lcmp (q := 23) C dX10_runScript_22 rfl ?_
      refine pw_if_lt (q := 26) 36 C dX10_runScript_23 (by decide) rfl (fun g23 => ?_) (fun g23 => absurd g23 (fun q => q ((lg_cmp_lt _ _).mpr (Int64.not_le.mp h2))))
      refine pw_throwW (T := []) C twX10_51_287_55 dX10_runScript_36 dX10_runScript_39 dX10_runScript_40 dX10_runScript_43 dX10_runScript_46 ⟨by decide, Nat.le_of_ble_eq_true rfl⟩ ⟨by omega, by omega⟩ (fun z hz => QX.no 0 (by rw [spScript, if_neg (fun q => h2 q.2.1)]) rfl (hX.up hz) (Fr.up hz))
  · refine pw_iload_n (q := 1) (j := 1) C dX10_runScript_0 rfl rfl rfl ?_
    refine pw_iconst_n (q := 2) C 1 dX10_runScript_1 (by decide +kernel) rfl ?_
    refine pw_iconst_n (q := 3) C 3 dX10_runScript_2 (by decide +kernel) rfl ?_
    refine pw_rd (q := 6) (cr_s (j := iX10_isWithin) C dX10_runScript_3 lX10_47 mX10_isWithin (ro_mk (by decide) (by decide))  (i_out h1) rfl rfl (Nat.le_of_ble_eq_true rfl) ⟨by omega, by omega⟩) rfl ?_
    refine pw_if_ne_n (q := 9) 20 C dX10_runScript_6 (by decide) rfl (by omega) (fun g6 => absurd g6 (by omega)) (fun g6 => ?_)
    refine pw_throwW (T := []) C twX10_51_279_55 dX10_runScript_9 dX10_runScript_12 dX10_runScript_13 dX10_runScript_16 dX10_runScript_19 ⟨by decide, Nat.le_of_ble_eq_true rfl⟩ ⟨by omega, by omega⟩ (fun z hz => QX.no 0 (by rw [spScript, if_neg (fun q => h1 q.1)]) rfl (hX.up hz) (Fr.up hz))
def rndI (x : Int64) : Int32 := ((x.toUInt64 >>> ((nI 33).toInt64.toUInt64 &&& Int64.toUInt64 63)).toInt64).toInt32
theorem rnd_n (x : Int64) : ∃ r, r < 2147483648 ∧ rndI x = nI r := by
  have h33 : ((nI 33).toInt64.toUInt64 &&& Int64.toUInt64 63) = 33 := by decide +kernel
  have hu : (x.toUInt64 >>> (33 : UInt64)).toNat < 2147483648 := by
    rw [UInt64.toNat_shiftRight]
    have := x.toUInt64.toNat_lt
    have h3 : ((33 : UInt64).toNat % 64) = 33 := by decide +kernel
    rw [h3, Nat.shiftRight_eq_div_pow]
    omega
  refine ⟨_, hu, ?_⟩
  unfold rndI
  rw [h33]
  generalize x.toUInt64 >>> (33 : UInt64) = u at hu
  have e : u.toInt64 = nL u.toNat := by
    unfold nL
    first
      | exact (by simpa using UInt64.toInt64_ofNat' (n := u.toNat))
      | (apply Int64.toBitVec_inj.mp; simp [Int64.ofNat])
  rw [e, nL_I]
def lcg (x : Int64) : Int64 := x * 6364136223846793005 + 1442695040888963407
def stepS (y : Int64) (P : Nat → Nat) : Nat → Nat := roundP P (idx (rndI y))
def itS (f : Int64 → Int64) (g : Int64 → (Nat → Nat) → (Nat → Nat)) : Nat → Int64 → (Nat → Nat) → (Nat → Nat)
  | 0, _, P => P
  | d + 1, x, P => itS f g d (f x) (g (f x) P)
def simV (P : Nat → Nat) : Int32 := nI (10000 * cntS P 3) + (if nI 9999 < nI (owedAll P) then nI 9999 else nI (owedAll P))
def spSim (S : St) (seed : Int64) (c : Int32) : RS := if inW c 1 99 then (0, simV (itS lcg stepS (idx c) seed (sP S)), S) else (1, 0, S)
theorem round_inv {P : Nat → Nat} {r : Nat} (hI : Inv P) (hd : P 1 + 1 < 100000) : Inv (roundP P r) ∧ roundP P r 1 ≤ P 1 + 1 := by
  have hno : Inv P ∧ P 1 ≤ P 1 + 1 := ⟨hI, by omega⟩
  have hsc : lowS P 2 < P 7 → Inv (stateP P (lowS P 2) 4) ∧ stateP P (lowS P 2) 4 1 ≤ P 1 + 1 := fun h => ⟨hI.scrap h (fst_yes (p := fun s => P (50 + 6 * s + 3) = 2) h), by unfold stateP; simp only [updN]; grind⟩
  unfold roundP
  split
  · split
    · rename_i h
      exact ⟨hI.cut (Nat.mod_lt _ h.1) (Nat.mod_lt _ h.2.1) (by omega) h.2.2, by unfold cutP newStoneP; simp only [updN]; grind⟩
    · exact hno
  · split
    · split
      · rename_i h
        exact ⟨hI.inspect h (fst_yes (p := fun s => P (50 + 6 * s + 3) = 0) h), by unfold inspectP stateP; split <;> (simp only [updN]; grind)⟩
      · exact hno
    · split
      · unfold setLowP
        split
        · rename_i h
          exact ⟨hI.set h (fst_yes (p := fun s => why P s = 0) h), by unfold stateP; simp only [updN]; grind⟩
        · exact hno
      · split
        · split
          · rename_i h6
            unfold recLowP
            split
            · rename_i h
              rcases hc : recutC P (lowS P 2) with _ | c
              · exact hsc h
              · dsimp only
                split
                · rename_i hw
                  exact ⟨hI.recut (Nat.mod_lt _ h6) h (recutC_lt hc) hw, by unfold recutP; simp only [updN]; grind⟩
                · exact hsc h
            · exact hno
          · unfold scrapLowP
            split
            · rename_i h
              exact hsc h
            · exact hno
        · exact ⟨hI.day (by split <;> omega) hd, Nat.le_refl _⟩
set_option maxHeartbeats 200000 in
set_option maxRecDepth 100000 in
theorem p_simulate {M : PH} {x D : Nat} {S : St} (hX : RepX M x S) (hS : SInv D S) (hD : D < 90000) (seed : Int64) (c1 : Int32) : Run iX10_simulate [.ref x, .long seed, .int c1] M 2 12 (QX M x (EX xA xA xA) (spSim S seed c1)) := by
  obtain ⟨a0, ax, aT, hL, ⟨aQ, aq⟩, ⟨nx, aR⟩, aS, aL, aW, aF⟩ := id hX
  obtain ⟨fc, fm, fs, hG, hr⟩ := id hL
  have hI := hS.1.1
  have hb := hI.b
  refine Run.of (l0 := [some (.ref x), some (.long seed), none, some (.int c1), none, none, none]) (by decide +kernel) (Nat.le_of_ble_eq_true rfl) (by rfl) (fun Γ G C => ?_)
  by_cases h1 : inW c1 1 99
  · refine pw_iload_n (q := 1) (j := 3) C dX10_simulate_0 rfl rfl rfl ?_
    refine pw_iconst_n (q := 2) C 1 dX10_simulate_1 (by decide +kernel) rfl ?_
    refine pw_bipush_n (q := 4) C 99 dX10_simulate_2 (by decide +kernel) rfl ?_
    refine pw_rd (q := 7) (cr_s (j := iX10_isWithin) C dX10_simulate_4 lX10_47 mX10_isWithin (ro_mk (by decide) (by decide))  (i_in h1) rfl rfl (Nat.le_of_ble_eq_true rfl) ⟨by omega, by omega⟩) rfl ?_
    refine pw_if_ne_n (q := 10) 21 C dX10_simulate_7 (by decide) rfl (by omega) (fun g7 => ?_) (fun g7 => absurd g7 (fun q => absurd q (by decide)))
    obtain ⟨k1, hl1, hk1, rfl⟩ := inW_n h1 (by omega) (by omega)
    have hsp : spSim S seed (nI k1) = (0, simV (itS lcg stepS k1 seed (sP S)), S) := by rw [spSim, if_pos h1, idx_n (show k1 < 2147483648 by omega)]
    refine pw_aload_n (q := 22) (j := 0) C dX10_simulate_21 rfl rfl rfl ?_
    refine pw_getf (q := 25) C dX10_simulate_22 fX10_19 a0 (by rfl) rfl ?_
    refine pw_aload_n (q := 26) (j := 0) C dX10_simulate_25 rfl rfl rfl ?_
    refine pw_getf (q := 29) C dX10_simulate_26 fX10_23 a0 (by rfl) rfl ?_
    refine pw_void (q := 32) (cr_s (j := iX10_copyLodge) C dX10_simulate_29 lX10_85 mX10_copyLodge (ro_mk (by decide) (by decide))  (w_copyLodge aq hL (by omega) hb.2.1) rfl rfl (Nat.le_of_ble_eq_true rfl) ⟨by omega, by omega⟩) rfl (fun M29 e29 => ?_)
    obtain ⟨hLt, sm⟩ := e29
    refine pw_lload_n (q := 33) (j := 1) C dX10_simulate_32 rfl rfl rfl ?_
    refine pw_lstore (q := 35) C dX10_simulate_33 rfl (by decide) rfl ?_
    refine pw_iconst_n (q := 36) C 0 dX10_simulate_35 (by decide +kernel) rfl ?_
    refine pw_istore (q := 38) C dX10_simulate_36 rfl (by decide) rfl ?_
    have loop : ∀ (d i : Nat), i + d = k1 → ∀ (M2 : PH) (P2 : Nat → Nat) (xs : Int64), LodgeAt M2 (x + 10) P2 → Same M M2 (x + 10) (x + 10 + 7) → Inv P2 → P2 1 ≤ D + i → itS lcg stepS d xs P2 = itS lcg stepS k1 seed (sP S) → PW Γ G (ZJ Γ G 2 12 (QX M x (EX xA xA xA) (spSim S seed (nI k1)))) 38 [some (.ref x), some (.long seed), none, some (.int (nI k1)), some (.long xs), none, some (.int (nI i))] [] M2 0 0 := by
      intro d
      induction d with
      | zero =>
        intro i hd
        intro M2 P2 xs hLt sm hI2 hd2 hrun
        have a0 := (sm.2 x (by omega)).trans a0
        have t := hX.trial ⟨_, hLt⟩ sm
        obtain ⟨fc, fm, fs, hG, hr⟩ := id hLt
        refine pw_iload (q := 40) C dX10_simulate_38 rfl rfl ?_
        refine pw_iload_n (q := 41) (j := 3) C dX10_simulate_40 rfl rfl rfl ?_
        refine pw_icmp_ge_n (q := 44) 75 C dX10_simulate_41 (by decide) rfl (by omega) (by omega) (fun g41 => ?_) (fun g41 => absurd g41 (by omega))
        refine pw_sipush_n (q := 78) C 10000 dX10_simulate_75 (by decide +kernel) rfl ?_
        refine pw_aload_n (q := 79) (j := 0) C dX10_simulate_78 rfl rfl rfl ?_
        refine pw_getf (q := 82) C dX10_simulate_79 fX10_23 a0 (by rfl) rfl ?_
        refine pw_getf (q := 85) C dX10_simulate_82 fX10_95 hG.1 (by rfl) rfl ?_
        refine pw_iconst_n (q := 86) C 3 dX10_simulate_85 (by decide +kernel) rfl ?_
        refine pw_iconst_n (q := 87) C 3 dX10_simulate_86 (by decide +kernel) rfl ?_
        refine pw_rd (q := 90) (cr_v (j := iX8_count) C dX10_simulate_87 lX10_124 mX8_count (ro_mk (by decide) (by decide)) hG.2.2.2.1 rfl (g_cS hG hr hI2 (by omega)) rfl rfl (Nat.le_of_ble_eq_true rfl) ⟨by omega, by omega⟩) rfl ?_
        refine pw_imul_n (q := 91) C dX10_simulate_90 rfl ?_
        refine pw_aload_n (q := 92) (j := 0) C dX10_simulate_91 rfl rfl rfl ?_
        refine pw_getf (q := 95) C dX10_simulate_92 fX10_23 a0 (by rfl) rfl ?_
        refine pw_getf (q := 98) C dX10_simulate_95 fX10_107 hG.1 (by rfl) rfl ?_
        refine pw_iconst_n (q := 99) C 3 dX10_simulate_98 (by decide +kernel) rfl ?_
        refine pw_rd (q := 102) (cr_v (j := iX8_sum) C dX10_simulate_99 lX10_128 mX8_sum (ro_mk (by decide) (by decide)) hG.2.2.1.1 rfl (g_owed hG hr) rfl rfl (Nat.le_of_ble_eq_true rfl) ⟨by omega, by omega⟩) rfl ?_
        refine pw_sipush_n (q := 105) C 9999 dX10_simulate_102 (by decide +kernel) rfl ?_
        refine pw_min (rest := [.int (nI (10000 * cntS P2 3))]) (q := 108) C dX10_simulate_105 lX10_309 mMmin.1 mMmin.2.1 mMmin.2.2 ⟨by decide, Nat.le_of_ble_eq_true rfl⟩ ⟨by omega, by omega⟩ rfl ?_
        refine pw_iadd (q := 109) C dX10_simulate_108 rfl ?_
        exact pw_iret C dX10_simulate_109 rfl ⟨by omega, by omega⟩ (QX.ok (by rw [hsp, ← hrun]; rfl) t.1 t.2)
      | succ d ih =>
        intro i hd
        intro M2 P2 xs hLt sm hI2 hd2 hrun
        have a0 := (sm.2 x (by omega)).trans a0
        have t := hX.trial ⟨_, hLt⟩ sm
        obtain ⟨fc, fm, fs, hG, hr⟩ := id hLt
        refine pw_iload (q := 40) C dX10_simulate_38 rfl rfl ?_
        refine pw_iload_n (q := 41) (j := 3) C dX10_simulate_40 rfl rfl rfl ?_
        refine pw_icmp_ge_n (q := 44) 75 C dX10_simulate_41 (by decide) rfl (by omega) (by omega) (fun g41 => absurd g41 (by omega)) (fun g41 => ?_)
        refine pw_lload (q := 46) C dX10_simulate_44 rfl rfl ?_
        refine pw_ldc2 (q := 49) C dX10_simulate_46 cgX10_299 rfl ?_
        refine pw_lmul (q := 50) C dX10_simulate_49 rfl ?_
        refine pw_ldc2 (q := 53) C dX10_simulate_50 cgX10_301 rfl ?_
        refine pw_ladd (q := 54) C dX10_simulate_53 rfl ?_
        refine pw_lstore (q := 56) C dX10_simulate_54 rfl (by decide) rfl ?_
        refine pw_aload_n (q := 57) (j := 0) C dX10_simulate_56 rfl rfl rfl ?_
        refine pw_getf (q := 60) C dX10_simulate_57 fX10_23 a0 (by rfl) rfl ?_
        refine pw_lload (q := 62) C dX10_simulate_60 rfl rfl ?_
        refine pw_bipush_n (q := 64) C 33 dX10_simulate_62 (by decide +kernel) rfl ?_
        refine pw_lushr (q := 65) C dX10_simulate_64 rfl ?_
        refine pw_l2i (q := 66) C dX10_simulate_65 rfl ?_
        obtain ⟨r, hr9, er⟩ := rnd_n (lcg xs)
        rw [show ((Int64.toUInt64 (xs * 6364136223846793005 + 1442695040888963407) >>> ((nI 33).toInt64.toUInt64 &&& Int64.toUInt64 63)).toInt64).toInt32 = nI r from er]
        refine pw_void (q := 69) (cr_s (j := iX7_playRound) C dX10_simulate_66 lX10_303 mX7_playRound (ro_mk (by decide) (by decide))  (u_playRound hLt hI2 hr9) rfl rfl (Nat.le_of_ble_eq_true rfl) ⟨by omega, by omega⟩) rfl (fun M66 e66 => ?_)
        obtain ⟨hL9, sm9⟩ := e66
        refine pw_iinc_n (q := 72) C 1 dX10_simulate_69 rfl (by decide +kernel) rfl (by decide) rfl ?_
        refine pw_goto (q := 0) 38 C dX10_simulate_72 (by decide) ?_
        have u := round_inv (r := r) hI2 (by omega)
        have hl : lcg xs = xs * 6364136223846793005 + 1442695040888963407 := rfl
        rw [← hl]
        exact ih (i + 1) (by omega) _ _ (lcg xs) hL9 (sm.tr sm9) u.1 (by omega) (by rw [← hrun, itS, stepS, er, idx_n hr9])
    exact loop k1 0 (by omega) _ _ _ hLt sm hI hS.1.2 rfl
  · refine pw_iload_n (q := 1) (j := 3) C dX10_simulate_0 rfl rfl rfl ?_
    refine pw_iconst_n (q := 2) C 1 dX10_simulate_1 (by decide +kernel) rfl ?_
    refine pw_bipush_n (q := 4) C 99 dX10_simulate_2 (by decide +kernel) rfl ?_
    refine pw_rd (q := 7) (cr_s (j := iX10_isWithin) C dX10_simulate_4 lX10_47 mX10_isWithin (ro_mk (by decide) (by decide))  (i_out h1) rfl rfl (Nat.le_of_ble_eq_true rfl) ⟨by omega, by omega⟩) rfl ?_
    refine pw_if_ne_n (q := 10) 21 C dX10_simulate_7 (by decide) rfl (by omega) (fun g7 => absurd g7 (by omega)) (fun g7 => ?_)
    refine pw_throwW (T := []) C twX10_51_297_55 dX10_simulate_10 dX10_simulate_13 dX10_simulate_14 dX10_simulate_17 dX10_simulate_20 ⟨by decide, Nat.le_of_ble_eq_true rfl⟩ ⟨by omega, by omega⟩ (fun z hz => QX.no 0 (by rw [spSim, if_neg h1]) rfl (hX.up hz) (Fr.up hz))
