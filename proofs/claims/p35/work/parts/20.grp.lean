/-! Script's groups of five digits. -/
def nL (n : Nat) : Int64 := Int64.ofNat n
theorem nL_toInt {n : Nat} (h : n < 2 ^ 63) : (nL n).toInt = n := by
  unfold nL
  exact Int64.toInt_ofNat_of_lt h
theorem nL_add (a b : Nat) : nL a + nL b = nL (a + b) := (Int64.ofNat_add a b).symm
theorem nL_mul (a b : Nat) : nL a * nL b = nL (a * b) := (Int64.ofNat_mul a b).symm
theorem nL_sub {a b : Nat} (h : b ≤ a) : nL a - nL b = nL (a - b) := by
  have : nL a = nL (a - b) + nL b := by rw [nL_add]; congr 1; omega
  rw [this, Int64.add_sub_cancel]
theorem nL_div {a b : Nat} (ha : a < 2 ^ 63) (hb : b < 2 ^ 63) : nL a / nL b = nL (a / b) := by
  have h1 : a / b < 2 ^ 63 := Nat.lt_of_le_of_lt (Nat.div_le_self a b) ha
  apply Int64.toInt_inj.mp
  rw [Int64.toInt_div, nL_toInt ha, nL_toInt hb, nL_toInt h1]
  have h2 : (a : Int).tdiv (b : Int) = ((a / b : Nat) : Int) := by rw [Int.ofNat_tdiv]
  rw [h2]
  generalize a / b = q9 at h1 ⊢
  rw [Int.bmod_eq_of_le (by omega) (by omega)]
theorem nL_rem {a b : Nat} (ha : a < 2 ^ 63) (hb : b < 2 ^ 63) : nL a - nL a / nL b * nL b = nL (a % b) := by
  rw [nL_div ha hb, nL_mul, nL_sub (by rw [Nat.mul_comm]; exact Nat.mul_div_le a b)]
  congr 1
  have := Nat.div_add_mod a b
  rw [Nat.mul_comm] at this
  omega
theorem nL_of {x : Int64} (h : 0 ≤ x) : ∃ n, n < 2 ^ 63 ∧ x = nL n := by
  have h1 : 0 ≤ x.toInt := Int64.le_iff_toInt_le.mp h
  have h2 := Int64.toInt_lt x
  refine ⟨x.toInt.toNat, by omega, ?_⟩
  apply Int64.toInt_inj.mp
  rw [nL_toInt (by omega)]
  omega
theorem nL_I {n : Nat} : (nL n).toInt32 = nI n := Int64.toInt32_ofNat
theorem nL_1 : (100000 : Int64) = nL 100000 := by decide +kernel
def grp (w k : Nat) : Nat := w / 100000 ^ k
theorem grp_0 (w : Nat) : grp w 0 = w := by rw [grp, Nat.pow_zero, Nat.div_one]
theorem grp_succ (w k : Nat) : grp w (k + 1) = grp w k / 100000 := by rw [grp, grp, Nat.pow_succ, Nat.div_div_eq_div_mul]
theorem grp_lt {w : Nat} (k : Nat) (h : w < 2 ^ 63) : grp w k < 2 ^ 63 := Nat.lt_of_le_of_lt (Nat.div_le_self w _) h
set_option maxHeartbeats 200000 in
set_option maxRecDepth 100000 in
theorem x_groups {M : PH} {w k : Nat} (hw : w < 2 ^ 63) (hk : k < 2147483648) : Run iX5_withoutLastGroups [.long (nL w), .int (nI k)] M 0 0 (RV (.long (nL (grp w k))) (fun M1 => M1 = M)) := by
  refine Run.of (l0 := [some (.long (nL w)), none, some (.int (nI k)), none, none, none]) (by decide +kernel) (Nat.le_of_ble_eq_true rfl) (by rfl) (fun Γ G C => ?_)
  have loop : ∀ (d i : Nat), i + d = k → PW Γ G (ZJ Γ G 0 0 (RV (.long (nL (grp w k))) (fun M1 => M1 = M))) 5 [some (.long (nL w)), none, some (.int (nI k)), some (.long (nL (grp w i))), none, some (.int (nI i))] [] M 0 0 := by
    intro d
    induction d with
    | zero =>
      intro i hd
      refine pw_iload (q := 7) C dX5_withoutLastGroups_5 rfl rfl ?_
      refine pw_iload_n (q := 8) (j := 2) C dX5_withoutLastGroups_7 rfl rfl rfl ?_
      refine pw_icmp_ge_n (q := 11) 23 C dX5_withoutLastGroups_8 (by decide) rfl (by omega) (by omega) (fun g8 => ?_) (fun g8 => absurd g8 (by omega))
      refine pw_lload_n (q := 24) (j := 3) C dX5_withoutLastGroups_23 rfl rfl rfl ?_
      exact pw_lret C dX5_withoutLastGroups_24 rfl ⟨by omega, by omega⟩ (RV.mk (by rw [show i = k by omega]) rfl)
    | succ d ih =>
      intro i hd
      refine pw_iload (q := 7) C dX5_withoutLastGroups_5 rfl rfl ?_
      refine pw_iload_n (q := 8) (j := 2) C dX5_withoutLastGroups_7 rfl rfl rfl ?_
      refine pw_icmp_ge_n (q := 11) 23 C dX5_withoutLastGroups_8 (by decide) rfl (by omega) (by omega) (fun g8 => absurd g8 (by omega)) (fun g8 => ?_)
      refine pw_lload_n (q := 12) (j := 3) C dX5_withoutLastGroups_11 rfl rfl rfl ?_
      refine pw_ldc2 (q := 15) C dX5_withoutLastGroups_12 cgX5_9 rfl ?_
      refine pw_ldiv (q := 16) C dX5_withoutLastGroups_15 (by decide) rfl ?_
      rw [nL_1, nL_div (grp_lt i hw) (by decide), ← grp_succ]
      refine pw_lstore_n (q := 17) (j := 3) C dX5_withoutLastGroups_16 rfl rfl (by decide) rfl ?_
      refine pw_iinc_n (q := 20) C 1 dX5_withoutLastGroups_17 rfl (by decide +kernel) rfl (by decide) rfl ?_
      refine pw_goto (q := 0) 5 C dX5_withoutLastGroups_20 (by decide) ?_
      exact ih (i + 1) (by omega)
  refine pw_lload_n (q := 1) (j := 0) C dX5_withoutLastGroups_0 rfl rfl rfl ?_
  refine pw_lstore_n (q := 2) (j := 3) C dX5_withoutLastGroups_1 rfl rfl (by decide) rfl ?_
  refine pw_iconst_n (q := 3) C 0 dX5_withoutLastGroups_2 (by decide +kernel) rfl ?_
  refine pw_istore (q := 5) C dX5_withoutLastGroups_3 rfl (by decide) rfl ?_
  have t := loop k 0 (by omega)
  rw [grp_0] at t
  exact t
set_option maxHeartbeats 200000 in
set_option maxRecDepth 100000 in
theorem x_last {M : PH} {w : Nat} (hw : w < 2 ^ 63) : Run iX5_lastGroup [.long (nL w)] M 0 0 (RV (.int (nI (w % 100000))) (fun M1 => M1 = M)) := by
  refine Run.of (l0 := [some (.long (nL w)), none]) (by decide +kernel) (Nat.le_of_ble_eq_true rfl) (by rfl) (fun Γ G C => ?_)
  refine pw_lload_n (q := 1) (j := 0) C dX5_lastGroup_0 rfl rfl rfl ?_
  refine pw_ldc2 (q := 4) C dX5_lastGroup_1 cgX5_9 rfl ?_
  refine pw_lrem (q := 5) C dX5_lastGroup_4 (by decide) rfl ?_
  refine pw_l2i (q := 6) C dX5_lastGroup_5 rfl ?_
  exact pw_iret C dX5_lastGroup_6 rfl ⟨by omega, by omega⟩ (RV.mk (by rw [nL_1, nL_rem hw (by decide), nL_I]) rfl)
