/-! Rows over numbers. -/
def bN (p : Prop) [Decidable p] : Nat := if p then 1 else 0
theorem bN_le (p : Prop) [Decidable p] : bN p ≤ 1 := by unfold bN; split <;> omega
theorem nI_z {p : Prop} [Decidable p] : nI (bN p) = 0 ↔ ¬ p := by
  unfold bN
  split
  · simp_all; decide +kernel
  · simp_all; decide +kernel
theorem nI_mul (a b : Nat) : nI a * nI b = nI (a * b) := (Int32.ofNat_mul a b).symm
theorem nI_sub {a b : Nat} (h : b ≤ a) : nI a - nI b = nI (a - b) := by
  have : nI a = nI (a - b) + nI b := by rw [nI_add]; congr 1; omega
  rw [this, Int32.add_sub_cancel]
theorem nI_div {a b : Nat} (ha : a < 2 ^ 31) (hb : b < 2 ^ 31) : nI a / nI b = nI (a / b) := by
  have h1 : a / b < 2 ^ 31 := Nat.lt_of_le_of_lt (Nat.div_le_self a b) ha
  apply Int32.toInt_inj.mp
  rw [Int32.toInt_div, nI_toInt ha, nI_toInt hb, nI_toInt h1]
  have h2 : (a : Int).tdiv (b : Int) = ((a / b : Nat) : Int) := by rw [Int.ofNat_tdiv]
  rw [h2]
  generalize a / b = q9 at h1 ⊢
  rw [Int.bmod_eq_of_le (by omega) (by omega)]
theorem nI_rem {a b : Nat} (ha : a < 2 ^ 31) (hb : b < 2 ^ 31) : nI a - nI a / nI b * nI b = nI (a % b) := by
  rw [nI_div ha hb, nI_mul, nI_sub (by rw [Nat.mul_comm]; exact Nat.mul_div_le a b)]
  congr 1
  have := Nat.div_add_mod a b
  rw [Nat.mul_comm] at this
  omega
theorem nI_eq0 {a : Nat} (ha : a < 2 ^ 31) : nI a = 0 ↔ a = 0 := by
  rw [← nI_0, nI_eq ha (by decide)]
theorem nI_le0 {a : Nat} (ha : a < 2 ^ 31) : nI a ≤ 0 ↔ a = 0 := by
  rw [← nI_0, nI_leI ha (by decide)]; omega
theorem nI_lt0 {a : Nat} (ha : a < 2 ^ 31) : 0 < nI a ↔ 0 < a := by
  rw [← nI_0, nI_ltI (by decide) ha]
theorem vp_in_n {a z : Nat} (h : a < z) (hz : z < 2 ^ 31) : vp_in (nI a) z := vp_in_nI h hz
theorem pw_iconst_n {Γ : CX} {G : GC} {Z : State → Prop} {i : MI} {T : List ExceptionTableEntry} {mc ms pc q k n : Nat} {ls : LL} {st : List Value} {M : PH} {z : Int} (C : Cx Γ G i T mc ms) (v : Nat) (d : decode i.2.1 pc = .ok (.iconst z, 1)) (hv : Int32.ofInt z = nI v) (hq : pc + 1 = q) (K : PW Γ G Z q ls (.int (nI v) :: st) M k n) : PW Γ G Z pc ls st M k n :=
  pw_iconst C d hv hq K
theorem pw_bipush_n {Γ : CX} {G : GC} {Z : State → Prop} {i : MI} {T : List ExceptionTableEntry} {mc ms pc q k n : Nat} {ls : LL} {st : List Value} {M : PH} {z : Int} (C : Cx Γ G i T mc ms) (v : Nat) (d : decode i.2.1 pc = .ok (.bipush z, 2)) (hv : (Int8.ofInt z).toInt32 = nI v) (hq : pc + 2 = q) (K : PW Γ G Z q ls (.int (nI v) :: st) M k n) : PW Γ G Z pc ls st M k n :=
  pw_bipush C d hv hq K
theorem pw_sipush_n {Γ : CX} {G : GC} {Z : State → Prop} {i : MI} {T : List ExceptionTableEntry} {mc ms pc q k n : Nat} {ls : LL} {st : List Value} {M : PH} {z : Int} (C : Cx Γ G i T mc ms) (v : Nat) (d : decode i.2.1 pc = .ok (.sipush z, 3)) (hv : (Int16.ofInt z).toInt32 = nI v) (hq : pc + 3 = q) (K : PW Γ G Z q ls (.int (nI v) :: st) M k n) : PW Γ G Z pc ls st M k n :=
  pw_sipush C d hv hq K
theorem pw_iadd_n {Γ : CX} {G : GC} {Z : State → Prop} {i : MI} {T : List ExceptionTableEntry} {mc ms pc q k n : Nat} {ls : LL} {st : List Value} {M : PH} {a b : Nat} (C : Cx Γ G i T mc ms) (d : decode i.2.1 pc = .ok (.iadd, 1))  (hq : pc + 1 = q) (K : PW Γ G Z q ls (.int (nI (a + b)) :: st) M k n) : PW Γ G Z pc ls (.int (nI b) :: .int (nI a) :: st) M k n :=
  pw_iadd C d hq (by rw [nI_add a b]; exact K)
theorem pw_imul_n {Γ : CX} {G : GC} {Z : State → Prop} {i : MI} {T : List ExceptionTableEntry} {mc ms pc q k n : Nat} {ls : LL} {st : List Value} {M : PH} {a b : Nat} (C : Cx Γ G i T mc ms) (d : decode i.2.1 pc = .ok (.imul, 1))  (hq : pc + 1 = q) (K : PW Γ G Z q ls (.int (nI (a * b)) :: st) M k n) : PW Γ G Z pc ls (.int (nI b) :: .int (nI a) :: st) M k n :=
  pw_imul C d hq (by rw [nI_mul a b]; exact K)
theorem pw_isub_n {Γ : CX} {G : GC} {Z : State → Prop} {i : MI} {T : List ExceptionTableEntry} {mc ms pc q k n : Nat} {ls : LL} {st : List Value} {M : PH} {a b : Nat} (C : Cx Γ G i T mc ms) (d : decode i.2.1 pc = .ok (.isub, 1)) (h : b ≤ a) (hq : pc + 1 = q) (K : PW Γ G Z q ls (.int (nI (a - b)) :: st) M k n) : PW Γ G Z pc ls (.int (nI b) :: .int (nI a) :: st) M k n :=
  pw_isub C d hq (by rw [nI_sub h]; exact K)
theorem pw_idiv_n {Γ : CX} {G : GC} {Z : State → Prop} {i : MI} {T : List ExceptionTableEntry} {mc ms pc q k n : Nat} {ls : LL} {st : List Value} {M : PH} {a b : Nat} (C : Cx Γ G i T mc ms) (d : decode i.2.1 pc = .ok (.idiv, 1)) (h0 : 0 < b) (ha : a < 2147483648) (hb : b < 2147483648) (hq : pc + 1 = q) (K : PW Γ G Z q ls (.int (nI (a / b)) :: st) M k n) : PW Γ G Z pc ls (.int (nI b) :: .int (nI a) :: st) M k n :=
  pw_idiv C d (nI_ne0 h0 hb) hq (by rw [nI_div ha hb]; exact K)
theorem pw_irem_n {Γ : CX} {G : GC} {Z : State → Prop} {i : MI} {T : List ExceptionTableEntry} {mc ms pc q k n : Nat} {ls : LL} {st : List Value} {M : PH} {a b : Nat} (C : Cx Γ G i T mc ms) (d : decode i.2.1 pc = .ok (.irem, 1)) (h0 : 0 < b) (ha : a < 2147483648) (hb : b < 2147483648) (hq : pc + 1 = q) (K : PW Γ G Z q ls (.int (nI (a % b)) :: st) M k n) : PW Γ G Z pc ls (.int (nI b) :: .int (nI a) :: st) M k n :=
  pw_irem C d (nI_ne0 h0 hb) hq (by rw [nI_rem ha hb]; exact K)
theorem pw_iinc_n {Γ : CX} {G : GC} {Z : State → Prop} {i : MI} {T : List ExceptionTableEntry} {mc ms pc q k n : Nat} {ls : LL} {st : List Value} {M : PH} {j : Nat} {z : Int} {a : Nat} (C : Cx Γ G i T mc ms) (v : Nat) (d : decode i.2.1 pc = .ok (.iinc j z, 3)) (hk : lk ls j = some (.int (nI a))) (hv : Int32.ofInt z = nI v) (hok : okst ls j = true) (hi : j < i.2.2.1) (hq : pc + 3 = q) (K : PW Γ G Z q (lset ls j (some (.int (nI (a + v))))) st M k n) : PW Γ G Z pc ls st M k n :=
  pw_iinc C d hk (by rw [hv, nI_add]) hok hi hq K
theorem pw_if_eq_n {Γ : CX} {G : GC} {Z : State → Prop} {i : MI} {T : List ExceptionTableEntry} {mc ms pc q k n : Nat} {ls : LL} {st : List Value} {M : PH} {a : Nat} {off : Int} (tgt : Nat) (C : Cx Γ G i T mc ms) (d : decode i.2.1 pc = .ok (.ifCond .eq off, 3)) (ht : (pc : Int) + off = (tgt : Int)) (hq : pc + 3 = q) (ha : a < 2147483648) (Kt : a = 0 → PW Γ G Z tgt ls st M k n) (Kf : ¬ a = 0 → PW Γ G Z q ls st M k n) : PW Γ G Z pc ls (.int (nI a) :: st) M k n :=
  pw_if_eq tgt C d ht hq (fun h => Kt ((nI_eq0 ha).mp h)) (fun h => Kf ((not_congr (nI_eq0 ha)).mp h))
theorem pw_icmp_eq_n {Γ : CX} {G : GC} {Z : State → Prop} {i : MI} {T : List ExceptionTableEntry} {mc ms pc q k n : Nat} {ls : LL} {st : List Value} {M : PH} {a b : Nat} {off : Int} (tgt : Nat) (C : Cx Γ G i T mc ms) (d : decode i.2.1 pc = .ok (.if_icmp .eq off, 3)) (ht : (pc : Int) + off = (tgt : Int)) (hq : pc + 3 = q) (ha : a < 2147483648) (hb : b < 2147483648) (Kt : a = b → PW Γ G Z tgt ls st M k n) (Kf : ¬ a = b → PW Γ G Z q ls st M k n) : PW Γ G Z pc ls (.int (nI b) :: .int (nI a) :: st) M k n :=
  pw_icmp_eq tgt C d ht hq (fun h => Kt ((nI_eq ha hb).mp h)) (fun h => Kf ((not_congr (nI_eq ha hb)).mp h))
theorem pw_if_ne_n {Γ : CX} {G : GC} {Z : State → Prop} {i : MI} {T : List ExceptionTableEntry} {mc ms pc q k n : Nat} {ls : LL} {st : List Value} {M : PH} {a : Nat} {off : Int} (tgt : Nat) (C : Cx Γ G i T mc ms) (d : decode i.2.1 pc = .ok (.ifCond .ne off, 3)) (ht : (pc : Int) + off = (tgt : Int)) (hq : pc + 3 = q) (ha : a < 2147483648) (Kt : ¬ a = 0 → PW Γ G Z tgt ls st M k n) (Kf : a = 0 → PW Γ G Z q ls st M k n) : PW Γ G Z pc ls (.int (nI a) :: st) M k n :=
  pw_if_ne tgt C d ht hq (fun h => Kt ((not_congr (nI_eq0 ha)).mp h)) (fun h => Kf ((nI_eq0 ha).mp h))
theorem pw_icmp_ne_n {Γ : CX} {G : GC} {Z : State → Prop} {i : MI} {T : List ExceptionTableEntry} {mc ms pc q k n : Nat} {ls : LL} {st : List Value} {M : PH} {a b : Nat} {off : Int} (tgt : Nat) (C : Cx Γ G i T mc ms) (d : decode i.2.1 pc = .ok (.if_icmp .ne off, 3)) (ht : (pc : Int) + off = (tgt : Int)) (hq : pc + 3 = q) (ha : a < 2147483648) (hb : b < 2147483648) (Kt : ¬ a = b → PW Γ G Z tgt ls st M k n) (Kf : a = b → PW Γ G Z q ls st M k n) : PW Γ G Z pc ls (.int (nI b) :: .int (nI a) :: st) M k n :=
  pw_icmp_ne tgt C d ht hq (fun h => Kt ((not_congr (nI_eq ha hb)).mp h)) (fun h => Kf ((nI_eq ha hb).mp h))
theorem pw_icmp_lt_n {Γ : CX} {G : GC} {Z : State → Prop} {i : MI} {T : List ExceptionTableEntry} {mc ms pc q k n : Nat} {ls : LL} {st : List Value} {M : PH} {a b : Nat} {off : Int} (tgt : Nat) (C : Cx Γ G i T mc ms) (d : decode i.2.1 pc = .ok (.if_icmp .lt off, 3)) (ht : (pc : Int) + off = (tgt : Int)) (hq : pc + 3 = q) (ha : a < 2147483648) (hb : b < 2147483648) (Kt : a < b → PW Γ G Z tgt ls st M k n) (Kf : ¬ a < b → PW Γ G Z q ls st M k n) : PW Γ G Z pc ls (.int (nI b) :: .int (nI a) :: st) M k n :=
  pw_icmp_lt tgt C d ht hq (fun h => Kt ((nI_ltI ha hb).mp h)) (fun h => Kf ((not_congr (nI_ltI ha hb)).mp h))
theorem pw_icmp_ge_n {Γ : CX} {G : GC} {Z : State → Prop} {i : MI} {T : List ExceptionTableEntry} {mc ms pc q k n : Nat} {ls : LL} {st : List Value} {M : PH} {a b : Nat} {off : Int} (tgt : Nat) (C : Cx Γ G i T mc ms) (d : decode i.2.1 pc = .ok (.if_icmp .ge off, 3)) (ht : (pc : Int) + off = (tgt : Int)) (hq : pc + 3 = q) (ha : a < 2147483648) (hb : b < 2147483648) (Kt : b ≤ a → PW Γ G Z tgt ls st M k n) (Kf : ¬ b ≤ a → PW Γ G Z q ls st M k n) : PW Γ G Z pc ls (.int (nI b) :: .int (nI a) :: st) M k n :=
  pw_icmp_ge tgt C d ht hq (fun h => Kt ((nI_leI hb ha).mp h)) (fun h => Kf ((not_congr (nI_leI hb ha)).mp h))
theorem pw_if_gt_n {Γ : CX} {G : GC} {Z : State → Prop} {i : MI} {T : List ExceptionTableEntry} {mc ms pc q k n : Nat} {ls : LL} {st : List Value} {M : PH} {a : Nat} {off : Int} (tgt : Nat) (C : Cx Γ G i T mc ms) (d : decode i.2.1 pc = .ok (.ifCond .gt off, 3)) (ht : (pc : Int) + off = (tgt : Int)) (hq : pc + 3 = q) (ha : a < 2147483648) (Kt : 0 < a → PW Γ G Z tgt ls st M k n) (Kf : ¬ 0 < a → PW Γ G Z q ls st M k n) : PW Γ G Z pc ls (.int (nI a) :: st) M k n :=
  pw_if_gt tgt C d ht hq (fun h => Kt ((nI_lt0 ha).mp h)) (fun h => Kf ((not_congr (nI_lt0 ha)).mp h))
theorem pw_icmp_gt_n {Γ : CX} {G : GC} {Z : State → Prop} {i : MI} {T : List ExceptionTableEntry} {mc ms pc q k n : Nat} {ls : LL} {st : List Value} {M : PH} {a b : Nat} {off : Int} (tgt : Nat) (C : Cx Γ G i T mc ms) (d : decode i.2.1 pc = .ok (.if_icmp .gt off, 3)) (ht : (pc : Int) + off = (tgt : Int)) (hq : pc + 3 = q) (ha : a < 2147483648) (hb : b < 2147483648) (Kt : b < a → PW Γ G Z tgt ls st M k n) (Kf : ¬ b < a → PW Γ G Z q ls st M k n) : PW Γ G Z pc ls (.int (nI b) :: .int (nI a) :: st) M k n :=
  pw_icmp_gt tgt C d ht hq (fun h => Kt ((nI_ltI hb ha).mp h)) (fun h => Kf ((not_congr (nI_ltI hb ha)).mp h))
theorem pw_if_le_n {Γ : CX} {G : GC} {Z : State → Prop} {i : MI} {T : List ExceptionTableEntry} {mc ms pc q k n : Nat} {ls : LL} {st : List Value} {M : PH} {a : Nat} {off : Int} (tgt : Nat) (C : Cx Γ G i T mc ms) (d : decode i.2.1 pc = .ok (.ifCond .le off, 3)) (ht : (pc : Int) + off = (tgt : Int)) (hq : pc + 3 = q) (ha : a < 2147483648) (Kt : a = 0 → PW Γ G Z tgt ls st M k n) (Kf : ¬ a = 0 → PW Γ G Z q ls st M k n) : PW Γ G Z pc ls (.int (nI a) :: st) M k n :=
  pw_if_le tgt C d ht hq (fun h => Kt ((nI_le0 ha).mp h)) (fun h => Kf ((not_congr (nI_le0 ha)).mp h))
theorem pw_icmp_le_n {Γ : CX} {G : GC} {Z : State → Prop} {i : MI} {T : List ExceptionTableEntry} {mc ms pc q k n : Nat} {ls : LL} {st : List Value} {M : PH} {a b : Nat} {off : Int} (tgt : Nat) (C : Cx Γ G i T mc ms) (d : decode i.2.1 pc = .ok (.if_icmp .le off, 3)) (ht : (pc : Int) + off = (tgt : Int)) (hq : pc + 3 = q) (ha : a < 2147483648) (hb : b < 2147483648) (Kt : a ≤ b → PW Γ G Z tgt ls st M k n) (Kf : ¬ a ≤ b → PW Γ G Z q ls st M k n) : PW Γ G Z pc ls (.int (nI b) :: .int (nI a) :: st) M k n :=
  pw_icmp_le tgt C d ht hq (fun h => Kt ((nI_leI ha hb).mp h)) (fun h => Kf ((not_congr (nI_leI ha hb)).mp h))
theorem pw_if_eq_b {Γ : CX} {G : GC} {Z : State → Prop} {i : MI} {T : List ExceptionTableEntry} {mc ms pc q k n : Nat} {ls : LL} {st : List Value} {M : PH} {p : Prop} [Decidable p] {off : Int} (tgt : Nat) (C : Cx Γ G i T mc ms) (d : decode i.2.1 pc = .ok (.ifCond .eq off, 3)) (ht : (pc : Int) + off = (tgt : Int)) (hq : pc + 3 = q) (Kt : ¬ p → PW Γ G Z tgt ls st M k n) (Kf : p → PW Γ G Z q ls st M k n) : PW Γ G Z pc ls (.int (nI (bN p)) :: st) M k n :=
  pw_if_eq tgt C d ht hq (fun h => Kt (nI_z.mp h)) (fun h => Kf (Decidable.not_not.mp (mt nI_z.mpr h)))
theorem pw_if_ne_b {Γ : CX} {G : GC} {Z : State → Prop} {i : MI} {T : List ExceptionTableEntry} {mc ms pc q k n : Nat} {ls : LL} {st : List Value} {M : PH} {p : Prop} [Decidable p] {off : Int} (tgt : Nat) (C : Cx Γ G i T mc ms) (d : decode i.2.1 pc = .ok (.ifCond .ne off, 3)) (ht : (pc : Int) + off = (tgt : Int)) (hq : pc + 3 = q) (Kt : p → PW Γ G Z tgt ls st M k n) (Kf : ¬ p → PW Γ G Z q ls st M k n) : PW Γ G Z pc ls (.int (nI (bN p)) :: st) M k n :=
  pw_if_ne tgt C d ht hq (fun h => Kt (Decidable.not_not.mp (mt nI_z.mpr h))) (fun h => Kf (nI_z.mp h))
/-- a row of numbers as an array of ints -/
def pg (P : Nat → Nat) : Nat → Int32 := fun k => nI (P k)
def updN (P : Nat → Nat) (k v : Nat) : Nat → Nat := fun j => if j = k then v else P j
theorem updN_at (P : Nat → Nat) (k v : Nat) : updN P k v k = v := if_pos rfl
theorem updN_ne {P : Nat → Nat} {k v j : Nat} (h : j ≠ k) : updN P k v j = P j := if_neg h
theorem upd_pg (P : Nat → Nat) (k v : Nat) : upd (pg P) k (nI v) = pg (updN P k v) := by
  funext j
  by_cases h : j = k
  · simp [upd, pg, updN, h]
  · simp [upd, pg, updN, h]
theorem hput_at (M : PH) (a : Nat) (x : va_E) : (hput M a x).2 a = some x := if_pos rfl
theorem hput_ne {M : PH} {a b : Nat} {x : va_E} (h : b ≠ a) : (hput M a x).2 b = M.2 b := if_neg h
theorem hput_sz (M : PH) (a : Nat) (x : va_E) : (hput M a x).1 = M.1 := rfl
theorem hput2 (M : PH) (a : Nat) (x y : va_E) : hput (hput M a x) a y = hput M a y := by
  unfold hput
  congr 1
  funext q
  by_cases h : q = a
  · simp [h]
  · simp [h]
theorem hput_same {M : PH} {a : Nat} {x : va_E} (h : M.2 a = some x) : hput M a x = M := by
  unfold hput
  refine Prod.ext rfl (funext fun q => ?_)
  by_cases hq : q = a
  · simp [hq, h]
  · simp [hq]
theorem pw_ipg {Γ : CX} {G : GC} {Z : State → Prop} {i : MI} {T : List ExceptionTableEntry} {mc ms pc q k n : Nat} {ls : LL} {st : List Value} {M : PH} {a z : Nat} {P : Nat → Nat} {j : Nat} (C : Cx Γ G i T mc ms) (d : decode i.2.1 pc = .ok (.iaload, 1)) (hM0 : M.2 a = some (.inl (0, z, .inl (pg P)))) (hj : j < z) (hz : z < 2147483648) (hq : pc + 1 = q) (K : PW Γ G Z q ls (.int (nI (P j)) :: st) M k n) : PW Γ G Z pc ls (.int (nI j) :: .ref a :: st) M k n :=
  pw_iald C d hM0 (vp_in_n hj hz) hq (by rw [nI_clamp (Nat.lt_trans hj hz)]; exact K)
theorem pw_iald_n {Γ : CX} {G : GC} {Z : State → Prop} {i : MI} {T : List ExceptionTableEntry} {mc ms pc q k n : Nat} {ls : LL} {st : List Value} {M : PH} {a z : Nat} {f : Nat → Int32} {j : Nat} (C : Cx Γ G i T mc ms) (d : decode i.2.1 pc = .ok (.iaload, 1)) (hM0 : M.2 a = some (.inl (0, z, .inl f))) (hj : j < z) (hz : z < 2147483648) (hq : pc + 1 = q) (K : PW Γ G Z q ls (.int (f j) :: st) M k n) : PW Γ G Z pc ls (.int (nI j) :: .ref a :: st) M k n :=
  pw_iald C d hM0 (vp_in_n hj hz) hq (by rw [nI_clamp (Nat.lt_trans hj hz)]; exact K)
theorem pw_ipgst {Γ : CX} {G : GC} {Z : State → Prop} {i : MI} {T : List ExceptionTableEntry} {mc ms pc q k n : Nat} {ls : LL} {st : List Value} {M : PH} {a z : Nat} {P : Nat → Nat} {j v : Nat} (C : Cx Γ G i T mc ms) (d : decode i.2.1 pc = .ok (.iastore, 1)) (hM0 : M.2 a = some (.inl (0, z, .inl (pg P)))) (hj : j < z) (hz : z < 2147483648) (hq : pc + 1 = q) (K : PW Γ G Z q ls st (hput M a (.inl (0, z, .inl (pg (updN P j v))))) k n) : PW Γ G Z pc ls (.int (nI v) :: .int (nI j) :: .ref a :: st) M k n :=
  pw_iast C d hM0 (vp_in_n hj hz) hq (by rw [nI_clamp (Nat.lt_trans hj hz), upd_pg]; exact K)
theorem pw_iast_n {Γ : CX} {G : GC} {Z : State → Prop} {i : MI} {T : List ExceptionTableEntry} {mc ms pc q k n : Nat} {ls : LL} {st : List Value} {M : PH} {a z : Nat} {f : Nat → Int32} {j : Nat} {v : Int32} (C : Cx Γ G i T mc ms) (d : decode i.2.1 pc = .ok (.iastore, 1)) (hM0 : M.2 a = some (.inl (0, z, .inl f))) (hj : j < z) (hz : z < 2147483648) (hq : pc + 1 = q) (K : PW Γ G Z q ls st (hput M a (.inl (0, z, .inl (upd f j v)))) k n) : PW Γ G Z pc ls (.int v :: .int (nI j) :: .ref a :: st) M k n :=
  pw_iast C d hM0 (vp_in_n hj hz) hq (by rw [nI_clamp (Nat.lt_trans hj hz)]; exact K)
theorem pw_zald_n {Γ : CX} {G : GC} {Z : State → Prop} {i : MI} {T : List ExceptionTableEntry} {mc ms pc q k n : Nat} {ls : LL} {st : List Value} {M : PH} {a z : Nat} {f : Nat → Int32} {j : Nat} (C : Cx Γ G i T mc ms) (d : decode i.2.1 pc = .ok (.baload, 1)) (hM0 : M.2 a = some (.inl (2, z, .inl f))) (hj : j < z) (hz : z < 2147483648) (hq : pc + 1 = q) (K : PW Γ G Z q ls (.int (f j) :: st) M k n) : PW Γ G Z pc ls (.int (nI j) :: .ref a :: st) M k n :=
  pw_zald C d hM0 (vp_in_n hj hz) hq (by rw [nI_clamp (Nat.lt_trans hj hz)]; exact K)
theorem pw_cald_n {Γ : CX} {G : GC} {Z : State → Prop} {i : MI} {T : List ExceptionTableEntry} {mc ms pc q k n : Nat} {ls : LL} {st : List Value} {M : PH} {a z : Nat} {f : Nat → Int32} {j : Nat} (C : Cx Γ G i T mc ms) (d : decode i.2.1 pc = .ok (.caload, 1)) (hM0 : M.2 a = some (.inl (1, z, .inl f))) (hj : j < z) (hz : z < 2147483648) (hq : pc + 1 = q) (K : PW Γ G Z q ls (.int (f j) :: st) M k n) : PW Γ G Z pc ls (.int (nI j) :: .ref a :: st) M k n :=
  pw_cald C d hM0 (vp_in_n hj hz) hq (by rw [nI_clamp (Nat.lt_trans hj hz)]; exact K)
theorem pw_aald_n {Γ : CX} {G : GC} {Z : State → Prop} {i : MI} {T : List ExceptionTableEntry} {mc ms pc q k n : Nat} {ls : LL} {st : List Value} {M : PH} {a z b : Nat} {f : Nat → Option Nat} {j : Nat} (C : Cx Γ G i T mc ms) (d : decode i.2.1 pc = .ok (.aaload, 1)) (hM0 : M.2 a = some (.inl (4, z, .inr (.inr (.inr (.inr f)))))) (hj : j < z) (hz : z < 2147483648) (hv : f j = some b) (hq : pc + 1 = q) (K : PW Γ G Z q ls (.ref b :: st) M k n) : PW Γ G Z pc ls (.int (nI j) :: .ref a :: st) M k n :=
  pw_aald C d hM0 (vp_in_n hj hz) (by rw [nI_clamp (Nat.lt_trans hj hz)]; exact hv) hq K
theorem pw_alen_n {Γ : CX} {G : GC} {Z : State → Prop} {i : MI} {T : List ExceptionTableEntry} {mc ms pc q k n : Nat} {ls : LL} {st : List Value} {M : PH} {a z t : Nat} {y : (Nat → Int32) ⊕ (Nat → Int64) ⊕ (Nat → UInt32) ⊕ (Nat → UInt64) ⊕ (Nat → Option Nat)} {ty : FieldType} (C : Cx Γ G i T mc ms) (d : decode i.2.1 pc = .ok (.arraylength, 1)) (hM0 : M.2 a = some (.inl (t, z, y))) (ht : tyL[t]? = some ty) (hq : pc + 1 = q) (K : PW Γ G Z q ls (.int (nI z) :: st) M k n) : PW Γ G Z pc ls (.ref a :: st) M k n :=
  pw_alen (z := z) C d hM0 ht rfl hq K
theorem nar_bN (p : Prop) [Decidable p] : narrow .boolean (.int (nI (bN p))) = .int (nI (bN p)) := by
  unfold bN
  split <;> decide +kernel
theorem nar_01 {a : Nat} (h : a ≤ 1) : narrow .boolean (.int (nI a)) = .int (nI a) := by
  have : a = 0 ∨ a = 1 := by omega
  rcases this with rfl | rfl <;> decide +kernel
/-- f below i, else g -/
def fill (f g : Nat → Int32) (i : Nat) : Nat → Int32 := fun k => if k < i then f k else g k
theorem fill_0 (f g : Nat → Int32) : fill f g 0 = g := funext fun k => if_neg (Nat.not_lt_zero k)
theorem fill_in {f g : Nat → Int32} {i k : Nat} (h : k < i) : fill f g i k = f k := if_pos h
theorem fill_succ (f g : Nat → Int32) (i : Nat) : upd (fill f g i) i (f i) = fill f g (i + 1) := by
  funext k
  unfold upd fill
  by_cases h : k = i
  · subst h; simp
  · by_cases h2 : k < i
    · simp [h, h2, Nat.lt_succ_of_lt h2]
    · have h3 : ¬ k < i + 1 := by omega
      simp [h, h2, h3]
/-- how many below n -/
def cnt (p : Nat → Prop) [DecidablePred p] : Nat → Nat
  | 0 => 0
  | n + 1 => cnt p n + (if p n then 1 else 0)
theorem cnt_le (p : Nat → Prop) [DecidablePred p] : ∀ n, cnt p n ≤ n
  | 0 => Nat.le_refl 0
  | n + 1 => by
    have := cnt_le p n
    unfold cnt
    split <;> omega
theorem cnt_yes {p : Nat → Prop} [DecidablePred p] {n : Nat} (h : p n) : cnt p (n + 1) = cnt p n + 1 := by rw [cnt, if_pos h]
theorem cnt_no {p : Nat → Prop} [DecidablePred p] {n : Nat} (h : ¬ p n) : cnt p (n + 1) = cnt p n := by rw [cnt, if_neg h]; rfl
theorem cnt_cong {p q : Nat → Prop} [DecidablePred p] [DecidablePred q] : ∀ {n : Nat}, (∀ k, k < n → (p k ↔ q k)) → cnt p n = cnt q n
  | 0, _ => rfl
  | n + 1, h => by
    rw [cnt, cnt, cnt_cong (fun k hk => h k (Nat.lt_succ_of_lt hk))]
    have := h n (Nat.lt_succ_self n)
    by_cases hp : p n
    · rw [if_pos hp, if_pos (this.mp hp)]
    · rw [if_neg hp, if_neg (mt this.mpr hp)]
theorem cnt_pos {p : Nat → Prop} [DecidablePred p] : ∀ {n : Nat}, 0 < cnt p n → ∃ k, k < n ∧ p k
  | 0, h => absurd h (Nat.lt_irrefl 0)
  | n + 1, h => by
    by_cases hp : p n
    · exact ⟨n, Nat.lt_succ_self n, hp⟩
    · rw [cnt_no hp] at h
      obtain ⟨k, h1, h2⟩ := cnt_pos h
      exact ⟨k, Nat.lt_succ_of_lt h1, h2⟩
/-- the sum below n -/
def sumN (f : Nat → Nat) : Nat → Nat
  | 0 => 0
  | n + 1 => sumN f n + f n
theorem sumN_cong {f g : Nat → Nat} : ∀ {n : Nat}, (∀ k, k < n → f k = g k) → sumN f n = sumN g n
  | 0, _ => rfl
  | n + 1, h => by rw [sumN, sumN, sumN_cong (fun k hk => h k (Nat.lt_succ_of_lt hk)), h n (Nat.lt_succ_self n)]
theorem ro_mk {j i : MI} (h1 : j.2.2.2.2.1 + 1 ≤ i.2.2.2.2.1) (h2 : 8 + (j.2.2.1 + 11) + j.2.2.2.2.2 ≤ i.2.2.2.2.2) : RO j i := ⟨h1, h2⟩
theorem RV.mk {v x : Value} {P : PH → Prop} {M : PH} (h : x = v) (hp : P M) : RV v P (.inl (some x)) M := ⟨by rw [h], hp⟩
theorem RN.mk {P : PH → Prop} {M : PH} (hp : P M) : RN P (.inl none) M := ⟨rfl, hp⟩
theorem RX.mk {E F : String} {P : PH → Prop} {M : PH} (h : E = F) (hp : P M) : RX F P (.inr E) M := ⟨by rw [h], hp⟩
theorem vint {a b : Int32} (h : a = b) : Value.int a = Value.int b := by rw [h]
theorem vnI {a b : Nat} (h : a = b) : Value.int (nI a) = Value.int (nI b) := by rw [h]
theorem vbN {p q : Prop} [Decidable p] [Decidable q] (h : p ↔ q) : Value.int (nI (bN p)) = Value.int (nI (bN q)) := by
  have : bN p = bN q := by
    unfold bN
    by_cases hp : p
    · rw [if_pos hp, if_pos (h.mp hp)]
    · rw [if_neg hp, if_neg (mt h.mpr hp)]
  rw [this]
theorem v0 {p : Prop} [Decidable p] (h : ¬ p) : Value.int (nI 0) = Value.int (nI (bN p)) := by rw [bN, if_neg h]
theorem v1 {p : Prop} [Decidable p] (h : p) : Value.int (nI 1) = Value.int (nI (bN p)) := by rw [bN, if_pos h]
theorem pw_max_n {Γ : CX} {G : GC} {Z : State → Prop} {i : MI} {T : List ExceptionTableEntry} {mc ms pc q k n : Nat} {ls : LL} {st : List Value} {M : PH} {idx a b : Nat} (C : Cx Γ G i T mc ms) (d : decode i.2.1 pc = .ok (.invokestatic idx, 3)) (hl0 : Cond.methodLink i.1.cls idx Lib.Math.max.name ∈ GW) (hs0 : Cond.static Lib.Math.max.name ∈ GW) (hi0 : Cond.initialized "java/lang/Math" ∈ GW) (hc0 : Cond.code Lib.Math.max.name Lib.Math.max.code 2 (some .int) ∈ GW)
    (hfr : 1 ≤ i.2.2.2.2.1 ∧ (st.map fun v => v.category).sum + 13 ≤ i.2.2.2.2.2) (hkn : k ≤ mc ∧ n ≤ ms) (ha : a < 2147483648) (hb : b < 2147483648) (hq : pc + 3 = q) (K : PW Γ G Z q ls (.int (nI (max a b)) :: st) M k n) : PW Γ G Z pc ls (.int (nI b) :: .int (nI a) :: st) M k n := by
  refine pw_max (rest := st) C d hl0 hs0 hi0 hc0 hfr hkn hq ?_
  have h : (if nI a < nI b then nI b else nI a) = nI (max a b) := by
    split
    · rename_i h9
      have h8 := (nI_ltI ha hb).mp h9
      congr 1; omega
    · rename_i h9
      have h8 := (not_congr (nI_ltI ha hb)).mp h9
      congr 1; omega
  rw [h]
  exact K
theorem pw_min_n {Γ : CX} {G : GC} {Z : State → Prop} {i : MI} {T : List ExceptionTableEntry} {mc ms pc q k n : Nat} {ls : LL} {st : List Value} {M : PH} {idx a b : Nat} (C : Cx Γ G i T mc ms) (d : decode i.2.1 pc = .ok (.invokestatic idx, 3)) (hl0 : Cond.methodLink i.1.cls idx Lib.Math.min.name ∈ GW) (hs0 : Cond.static Lib.Math.min.name ∈ GW) (hi0 : Cond.initialized "java/lang/Math" ∈ GW) (hc0 : Cond.code Lib.Math.min.name Lib.Math.min.code 2 (some .int) ∈ GW)
    (hfr : 1 ≤ i.2.2.2.2.1 ∧ (st.map fun v => v.category).sum + 13 ≤ i.2.2.2.2.2) (hkn : k ≤ mc ∧ n ≤ ms) (ha : a < 2147483648) (hb : b < 2147483648) (hq : pc + 3 = q) (K : PW Γ G Z q ls (.int (nI (min a b)) :: st) M k n) : PW Γ G Z pc ls (.int (nI b) :: .int (nI a) :: st) M k n := by
  refine pw_min (rest := st) C d hl0 hs0 hi0 hc0 hfr hkn hq ?_
  have h : (if nI b < nI a then nI b else nI a) = nI (min a b) := by
    split
    · rename_i h9
      have h8 := (nI_ltI hb ha).mp h9
      congr 1; omega
    · rename_i h9
      have h8 := (not_congr (nI_ltI hb ha)).mp h9
      congr 1; omega
  rw [h]
  exact K
