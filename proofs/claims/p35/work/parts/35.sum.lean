/-! The law's sum: a number of the page alone. -/
def foldL (f : Nat → Int32) : Nat → Int64 → Int64
  | 0, s => s
  | n + 1, s => 131 * foldL f n s + (f n).toInt64
def fold2 (g : Nat → Nat → Int32) (w : Nat) : Nat → Int64 → Int64
  | 0, s => s
  | c + 1, s => foldL (g c) w (fold2 g w c s)
def sumA (P : Nat → Nat) : Int64 := foldL (fun k => nI (aboutV P k)) 12 0
def sumC (P : Nat → Nat) (c : Nat) : Int64 := fold2 (fun c k => nI (courseV P c k)) 7 c (sumA P)
def sumM (P : Nat → Nat) (c : Nat) : Int64 := fold2 (fun c k => nI (masonV P c k)) 6 c (sumC P (P 5))
def sumS (P : Nat → Nat) (c : Nat) : Int64 := fold2 (fun c k => nI (P (50 + 6 * c + k))) 6 c (sumM P (P 6))
def sumL (P : Nat → Nat) : Int64 := sumS P (P 7)
theorem fold2_0 (g : Nat → Nat → Int32) (w : Nat) (s : Int64) : fold2 g w 0 s = s := by rw [fold2]
theorem sumC_0 (P : Nat → Nat) : sumC P 0 = foldL (fun k => nI (aboutV P k)) 12 0 := fold2_0 _ _ _
theorem sumM_0 (P : Nat → Nat) : sumM P 0 = sumC P (P 5) := fold2_0 _ _ _
theorem sumS_0 (P : Nat → Nat) : sumS P 0 = sumM P (P 6) := fold2_0 _ _ _
set_option maxHeartbeats 200000 in
set_option maxRecDepth 100000 in
theorem sum_c1 {Γ : CX} {G : GC} {Z : State → Prop} {mc ms k n : Nat} {M : PH} {x D : Nat} {S : St} (hX : RepX M x S) (hS : SInv D S) (C : Cx Γ G iL_sum [] mc ms) (hkn : k ≤ mc ∧ n ≤ ms) {c : Nat} (hc : c < sP S 5) (s0 : Int64) (K : PW Γ G Z 71 [some (.ref x), some (.long (foldL (fun j => nI (courseV (sP S) c j)) 7 s0)), none, some (.int (nI (c))), some (.int (nI (7)))] [] M k n) : ∀ (d r : Nat), r + d = 7 → PW Γ G Z 43 [some (.ref x), some (.long (foldL (fun j => nI (courseV (sP S) c j)) r s0)), none, some (.int (nI (c))), some (.int (nI (r)))] [] M k n := by
  have hb := hS.1.1.b
  intro d
  induction d with
  | zero =>
    intro r hr
    obtain rfl : r = 7 := by omega
    refine pw_iload (q := 45) C dL_sum_43 rfl rfl ?_
    refine pw_bipush_n (q := 47) C 7 dL_sum_45 (by decide +kernel) rfl ?_
    refine pw_icmp_ge_n (q := 50) 71 C dL_sum_47 (by decide) rfl (by omega) (by omega) (fun g47 => ?_) (fun g47 => absurd g47 (by omega))
    exact K
  | succ d ih =>
    intro r hr
    refine pw_iload (q := 45) C dL_sum_43 rfl rfl ?_
    refine pw_bipush_n (q := 47) C 7 dL_sum_45 (by decide +kernel) rfl ?_
    refine pw_icmp_ge_n (q := 50) 71 C dL_sum_47 (by decide) rfl (by omega) (by omega) (fun g47 => absurd g47 (by omega)) (fun g47 => ?_)
    refine pw_ldc2 (q := 53) C dL_sum_50 cgL_174 rfl ?_
    refine pw_lload_n (q := 54) (j := 1) C dL_sum_53 rfl rfl rfl ?_
    refine pw_lmul (q := 55) C dL_sum_54 rfl ?_
    refine pw_aload_n (q := 56) (j := 0) C dL_sum_55 rfl rfl rfl ?_
    refine pw_iload_n (q := 57) (j := 3) C dL_sum_56 rfl rfl rfl ?_
    refine pw_iload (q := 59) C dL_sum_57 rfl rfl ?_
    refine pw_rd (q := 62) (cr_s (j := iL_course) C dL_sum_59 lL_178 mL_course (ro_mk (by decide) (by decide))  (v_course hX hS hc (by omega)) rfl rfl (Nat.le_of_ble_eq_true rfl) ⟨by omega, by omega⟩) rfl ?_
    refine pw_i2l (q := 63) C dL_sum_62 rfl ?_
    refine pw_ladd (q := 64) C dL_sum_63 rfl ?_
    refine pw_lstore_n (q := 65) (j := 1) C dL_sum_64 rfl rfl (by decide) rfl ?_
    refine pw_iinc_n (q := 68) C 1 dL_sum_65 rfl (by decide +kernel) rfl (by decide) rfl ?_
    refine pw_goto (q := 0) 43 C dL_sum_68 (by decide) ?_
    exact ih (r + 1) (by omega)
set_option maxHeartbeats 200000 in
set_option maxRecDepth 100000 in
theorem sum_c2 {Γ : CX} {G : GC} {Z : State → Prop} {mc ms k n : Nat} {M : PH} {x D : Nat} {S : St} (hX : RepX M x S) (hS : SInv D S) (C : Cx Γ G iL_sum [] mc ms) (hkn : k ≤ mc ∧ n ≤ ms) (K : ∀ v4 : Option Value, PW Γ G Z 77 [some (.ref x), some (.long (sumC (sP S) (sP S 5))), none, some (.int (nI (sP S 5))), v4] [] M k n) : ∀ (d c : Nat), c + d = sP S 5 → ∀ v4 : Option Value, PW Γ G Z 31 [some (.ref x), some (.long (sumC (sP S) c)), none, some (.int (nI (c))), v4] [] M k n := by
  have hb := hS.1.1.b
  intro d
  induction d with
  | zero =>
    intro c hc v4
    obtain rfl : c = sP S 5 := by omega
    refine pw_iload_n (q := 32) (j := 3) C dL_sum_31 rfl rfl rfl ?_
    refine pw_aload_n (q := 33) (j := 0) C dL_sum_32 rfl rfl rfl ?_
    refine pw_iconst_n (q := 34) C 0 dL_sum_33 (by decide +kernel) rfl ?_
    refine pw_rd (q := 37) (cr_s (j := iL_about) C dL_sum_34 lL_176 mL_about (ro_mk (by decide) (by decide))  (v_a0 hX hS) rfl rfl (Nat.le_of_ble_eq_true rfl) ⟨by omega, by omega⟩) rfl ?_
    refine pw_icmp_ge_n (q := 40) 77 C dL_sum_37 (by decide) rfl (by omega) (by omega) (fun g37 => ?_) (fun g37 => absurd g37 (by omega))
    exact K _
  | succ d ih =>
    intro c hc v4
    refine pw_iload_n (q := 32) (j := 3) C dL_sum_31 rfl rfl rfl ?_
    refine pw_aload_n (q := 33) (j := 0) C dL_sum_32 rfl rfl rfl ?_
    refine pw_iconst_n (q := 34) C 0 dL_sum_33 (by decide +kernel) rfl ?_
    refine pw_rd (q := 37) (cr_s (j := iL_about) C dL_sum_34 lL_176 mL_about (ro_mk (by decide) (by decide))  (v_a0 hX hS) rfl rfl (Nat.le_of_ble_eq_true rfl) ⟨by omega, by omega⟩) rfl ?_
    refine pw_icmp_ge_n (q := 40) 77 C dL_sum_37 (by decide) rfl (by omega) (by omega) (fun g37 => absurd g37 (by omega)) (fun g37 => ?_)
    refine pw_iconst_n (q := 41) C 0 dL_sum_40 (by decide +kernel) rfl ?_
    refine pw_istore (q := 43) C dL_sum_41 rfl (by decide) rfl ?_
    refine sum_c1 hX hS C hkn (c := c) (by omega) (sumC (sP S) c) ?_ 7 0 (by omega)
    refine pw_iinc_n (q := 74) C 1 dL_sum_71 rfl (by decide +kernel) rfl (by decide) rfl ?_
    refine pw_goto (q := 0) 31 C dL_sum_74 (by decide) ?_
    exact ih (c + 1) (by omega) _
set_option maxHeartbeats 200000 in
set_option maxRecDepth 100000 in
theorem sum_m1 {Γ : CX} {G : GC} {Z : State → Prop} {mc ms k n : Nat} {M : PH} {x D : Nat} {S : St} (hX : RepX M x S) (hS : SInv D S) (C : Cx Γ G iL_sum [] mc ms) (hkn : k ≤ mc ∧ n ≤ ms) {c : Nat} (hc : c < sP S 6) (s0 : Int64) (K : PW Γ G Z 119 [some (.ref x), some (.long (foldL (fun j => nI (masonV (sP S) c j)) 6 s0)), none, some (.int (nI (c))), some (.int (nI (6)))] [] M k n) : ∀ (d r : Nat), r + d = 6 → PW Γ G Z 91 [some (.ref x), some (.long (foldL (fun j => nI (masonV (sP S) c j)) r s0)), none, some (.int (nI (c))), some (.int (nI (r)))] [] M k n := by
  have hb := hS.1.1.b
  intro d
  induction d with
  | zero =>
    intro r hr
    obtain rfl : r = 6 := by omega
    refine pw_iload (q := 93) C dL_sum_91 rfl rfl ?_
    refine pw_bipush_n (q := 95) C 6 dL_sum_93 (by decide +kernel) rfl ?_
    refine pw_icmp_ge_n (q := 98) 119 C dL_sum_95 (by decide) rfl (by omega) (by omega) (fun g95 => ?_) (fun g95 => absurd g95 (by omega))
    exact K
  | succ d ih =>
    intro r hr
    refine pw_iload (q := 93) C dL_sum_91 rfl rfl ?_
    refine pw_bipush_n (q := 95) C 6 dL_sum_93 (by decide +kernel) rfl ?_
    refine pw_icmp_ge_n (q := 98) 119 C dL_sum_95 (by decide) rfl (by omega) (by omega) (fun g95 => absurd g95 (by omega)) (fun g95 => ?_)
    refine pw_ldc2 (q := 101) C dL_sum_98 cgL_174 rfl ?_
    refine pw_lload_n (q := 102) (j := 1) C dL_sum_101 rfl rfl rfl ?_
    refine pw_lmul (q := 103) C dL_sum_102 rfl ?_
    refine pw_aload_n (q := 104) (j := 0) C dL_sum_103 rfl rfl rfl ?_
    refine pw_iload_n (q := 105) (j := 3) C dL_sum_104 rfl rfl rfl ?_
    refine pw_iload (q := 107) C dL_sum_105 rfl rfl ?_
    refine pw_rd (q := 110) (cr_s (j := iL_mason) C dL_sum_107 lL_180 mL_mason (ro_mk (by decide) (by decide))  (v_mason hX hS hc (by omega)) rfl rfl (Nat.le_of_ble_eq_true rfl) ⟨by omega, by omega⟩) rfl ?_
    refine pw_i2l (q := 111) C dL_sum_110 rfl ?_
    refine pw_ladd (q := 112) C dL_sum_111 rfl ?_
    refine pw_lstore_n (q := 113) (j := 1) C dL_sum_112 rfl rfl (by decide) rfl ?_
    refine pw_iinc_n (q := 116) C 1 dL_sum_113 rfl (by decide +kernel) rfl (by decide) rfl ?_
    refine pw_goto (q := 0) 91 C dL_sum_116 (by decide) ?_
    exact ih (r + 1) (by omega)
set_option maxHeartbeats 200000 in
set_option maxRecDepth 100000 in
theorem sum_m2 {Γ : CX} {G : GC} {Z : State → Prop} {mc ms k n : Nat} {M : PH} {x D : Nat} {S : St} (hX : RepX M x S) (hS : SInv D S) (C : Cx Γ G iL_sum [] mc ms) (hkn : k ≤ mc ∧ n ≤ ms) (K : ∀ v4 : Option Value, PW Γ G Z 125 [some (.ref x), some (.long (sumM (sP S) (sP S 6))), none, some (.int (nI (sP S 6))), v4] [] M k n) : ∀ (d c : Nat), c + d = sP S 6 → ∀ v4 : Option Value, PW Γ G Z 79 [some (.ref x), some (.long (sumM (sP S) c)), none, some (.int (nI (c))), v4] [] M k n := by
  have hb := hS.1.1.b
  intro d
  induction d with
  | zero =>
    intro c hc v4
    obtain rfl : c = sP S 6 := by omega
    refine pw_iload_n (q := 80) (j := 3) C dL_sum_79 rfl rfl rfl ?_
    refine pw_aload_n (q := 81) (j := 0) C dL_sum_80 rfl rfl rfl ?_
    refine pw_iconst_n (q := 82) C 1 dL_sum_81 (by decide +kernel) rfl ?_
    refine pw_rd (q := 85) (cr_s (j := iL_about) C dL_sum_82 lL_176 mL_about (ro_mk (by decide) (by decide))  (v_a1 hX hS) rfl rfl (Nat.le_of_ble_eq_true rfl) ⟨by omega, by omega⟩) rfl ?_
    refine pw_icmp_ge_n (q := 88) 125 C dL_sum_85 (by decide) rfl (by omega) (by omega) (fun g85 => ?_) (fun g85 => absurd g85 (by omega))
    exact K _
  | succ d ih =>
    intro c hc v4
    refine pw_iload_n (q := 80) (j := 3) C dL_sum_79 rfl rfl rfl ?_
    refine pw_aload_n (q := 81) (j := 0) C dL_sum_80 rfl rfl rfl ?_
    refine pw_iconst_n (q := 82) C 1 dL_sum_81 (by decide +kernel) rfl ?_
    refine pw_rd (q := 85) (cr_s (j := iL_about) C dL_sum_82 lL_176 mL_about (ro_mk (by decide) (by decide))  (v_a1 hX hS) rfl rfl (Nat.le_of_ble_eq_true rfl) ⟨by omega, by omega⟩) rfl ?_
    refine pw_icmp_ge_n (q := 88) 125 C dL_sum_85 (by decide) rfl (by omega) (by omega) (fun g85 => absurd g85 (by omega)) (fun g85 => ?_)
    refine pw_iconst_n (q := 89) C 0 dL_sum_88 (by decide +kernel) rfl ?_
    refine pw_istore (q := 91) C dL_sum_89 rfl (by decide) rfl ?_
    refine sum_m1 hX hS C hkn (c := c) (by omega) (sumM (sP S) c) ?_ 6 0 (by omega)
    refine pw_iinc_n (q := 122) C 1 dL_sum_119 rfl (by decide +kernel) rfl (by decide) rfl ?_
    refine pw_goto (q := 0) 79 C dL_sum_122 (by decide) ?_
    exact ih (c + 1) (by omega) _
set_option maxHeartbeats 200000 in
set_option maxRecDepth 100000 in
theorem sum_s1 {Γ : CX} {G : GC} {Z : State → Prop} {mc ms k n : Nat} {M : PH} {x D : Nat} {S : St} (hX : RepX M x S) (hS : SInv D S) (C : Cx Γ G iL_sum [] mc ms) (hkn : k ≤ mc ∧ n ≤ ms) {c : Nat} (hc : c < sP S 7) (s0 : Int64) (K : PW Γ G Z 167 [some (.ref x), some (.long (foldL (fun j => nI (sP S (50 + 6 * c + j))) 6 s0)), none, some (.int (nI (c))), some (.int (nI (6)))] [] M k n) : ∀ (d r : Nat), r + d = 6 → PW Γ G Z 139 [some (.ref x), some (.long (foldL (fun j => nI (sP S (50 + 6 * c + j))) r s0)), none, some (.int (nI (c))), some (.int (nI (r)))] [] M k n := by
  have hb := hS.1.1.b
  intro d
  induction d with
  | zero =>
    intro r hr
    obtain rfl : r = 6 := by omega
    refine pw_iload (q := 141) C dL_sum_139 rfl rfl ?_
    refine pw_bipush_n (q := 143) C 6 dL_sum_141 (by decide +kernel) rfl ?_
    refine pw_icmp_ge_n (q := 146) 167 C dL_sum_143 (by decide) rfl (by omega) (by omega) (fun g143 => ?_) (fun g143 => absurd g143 (by omega))
    exact K
  | succ d ih =>
    intro r hr
    refine pw_iload (q := 141) C dL_sum_139 rfl rfl ?_
    refine pw_bipush_n (q := 143) C 6 dL_sum_141 (by decide +kernel) rfl ?_
    refine pw_icmp_ge_n (q := 146) 167 C dL_sum_143 (by decide) rfl (by omega) (by omega) (fun g143 => absurd g143 (by omega)) (fun g143 => ?_)
    refine pw_ldc2 (q := 149) C dL_sum_146 cgL_174 rfl ?_
    refine pw_lload_n (q := 150) (j := 1) C dL_sum_149 rfl rfl rfl ?_
    refine pw_lmul (q := 151) C dL_sum_150 rfl ?_
    refine pw_aload_n (q := 152) (j := 0) C dL_sum_151 rfl rfl rfl ?_
    refine pw_iload_n (q := 153) (j := 3) C dL_sum_152 rfl rfl rfl ?_
    refine pw_iload (q := 155) C dL_sum_153 rfl rfl ?_
    refine pw_rd (q := 158) (cr_s (j := iL_stone) C dL_sum_155 lL_182 mL_stone (ro_mk (by decide) (by decide))  (v_stone hX hS hc (by omega)) rfl rfl (Nat.le_of_ble_eq_true rfl) ⟨by omega, by omega⟩) rfl ?_
    refine pw_i2l (q := 159) C dL_sum_158 rfl ?_
    refine pw_ladd (q := 160) C dL_sum_159 rfl ?_
    refine pw_lstore_n (q := 161) (j := 1) C dL_sum_160 rfl rfl (by decide) rfl ?_
    refine pw_iinc_n (q := 164) C 1 dL_sum_161 rfl (by decide +kernel) rfl (by decide) rfl ?_
    refine pw_goto (q := 0) 139 C dL_sum_164 (by decide) ?_
    exact ih (r + 1) (by omega)
set_option maxHeartbeats 200000 in
set_option maxRecDepth 100000 in
theorem sum_s2 {Γ : CX} {G : GC} {Z : State → Prop} {mc ms k n : Nat} {M : PH} {x D : Nat} {S : St} (hX : RepX M x S) (hS : SInv D S) (C : Cx Γ G iL_sum [] mc ms) (hkn : k ≤ mc ∧ n ≤ ms) (K : ∀ v4 : Option Value, PW Γ G Z 173 [some (.ref x), some (.long (sumS (sP S) (sP S 7))), none, some (.int (nI (sP S 7))), v4] [] M k n) : ∀ (d c : Nat), c + d = sP S 7 → ∀ v4 : Option Value, PW Γ G Z 127 [some (.ref x), some (.long (sumS (sP S) c)), none, some (.int (nI (c))), v4] [] M k n := by
  have hb := hS.1.1.b
  intro d
  induction d with
  | zero =>
    intro c hc v4
    obtain rfl : c = sP S 7 := by omega
    refine pw_iload_n (q := 128) (j := 3) C dL_sum_127 rfl rfl rfl ?_
    refine pw_aload_n (q := 129) (j := 0) C dL_sum_128 rfl rfl rfl ?_
    refine pw_iconst_n (q := 130) C 2 dL_sum_129 (by decide +kernel) rfl ?_
    refine pw_rd (q := 133) (cr_s (j := iL_about) C dL_sum_130 lL_176 mL_about (ro_mk (by decide) (by decide))  (v_a2 hX hS) rfl rfl (Nat.le_of_ble_eq_true rfl) ⟨by omega, by omega⟩) rfl ?_
    refine pw_icmp_ge_n (q := 136) 173 C dL_sum_133 (by decide) rfl (by omega) (by omega) (fun g133 => ?_) (fun g133 => absurd g133 (by omega))
    exact K _
  | succ d ih =>
    intro c hc v4
    refine pw_iload_n (q := 128) (j := 3) C dL_sum_127 rfl rfl rfl ?_
    refine pw_aload_n (q := 129) (j := 0) C dL_sum_128 rfl rfl rfl ?_
    refine pw_iconst_n (q := 130) C 2 dL_sum_129 (by decide +kernel) rfl ?_
    refine pw_rd (q := 133) (cr_s (j := iL_about) C dL_sum_130 lL_176 mL_about (ro_mk (by decide) (by decide))  (v_a2 hX hS) rfl rfl (Nat.le_of_ble_eq_true rfl) ⟨by omega, by omega⟩) rfl ?_
    refine pw_icmp_ge_n (q := 136) 173 C dL_sum_133 (by decide) rfl (by omega) (by omega) (fun g133 => absurd g133 (by omega)) (fun g133 => ?_)
    refine pw_iconst_n (q := 137) C 0 dL_sum_136 (by decide +kernel) rfl ?_
    refine pw_istore (q := 139) C dL_sum_137 rfl (by decide) rfl ?_
    refine sum_s1 hX hS C hkn (c := c) (by omega) (sumS (sP S) c) ?_ 6 0 (by omega)
    refine pw_iinc_n (q := 170) C 1 dL_sum_167 rfl (by decide +kernel) rfl (by decide) rfl ?_
    refine pw_goto (q := 0) 127 C dL_sum_170 (by decide) ?_
    exact ih (c + 1) (by omega) _
set_option maxHeartbeats 200000 in
set_option maxRecDepth 100000 in
theorem v_sum {M : PH} {x D : Nat} {S : St} (hX : RepX M x S) (hS : SInv D S) : Run iL_sum [.ref x] M 0 0 (RV (.long (sumL (sP S))) (fun M1 => M1 = M)) := by
  have hb := hS.1.1.b
  refine Run.of (l0 := [some (.ref x), none, none, none, none]) (by decide +kernel) (Nat.le_of_ble_eq_true rfl) (by rfl) (fun Γ G C => ?_)
  have loop : ∀ (d r : Nat), r + d = 12 → PW Γ G (ZJ Γ G 0 0 (RV (.long (sumL (sP S))) (fun M1 => M1 = M))) 4 [some (.ref x), some (.long (foldL (fun j => nI (aboutV (sP S) j)) r 0)), none, some (.int (nI (r))), none] [] M 0 0 := by
    intro d
    induction d with
    | zero =>
      intro r hd
      obtain rfl : r = 12 := by omega
      refine pw_iload_n (q := 5) (j := 3) C dL_sum_4 rfl rfl rfl ?_
      refine pw_bipush_n (q := 7) C 12 dL_sum_5 (by decide +kernel) rfl ?_
      refine pw_icmp_ge_n (q := 10) 29 C dL_sum_7 (by decide) rfl (by omega) (by omega) (fun g7 => ?_) (fun g7 => absurd g7 (by omega))
      refine pw_iconst_n (q := 30) C 0 dL_sum_29 (by decide +kernel) rfl ?_
      refine pw_istore_n (q := 31) (j := 3) C dL_sum_30 rfl rfl (by decide) rfl ?_
      rw [← sumC_0]
      refine sum_c2 hX hS C ⟨Nat.le_refl 0, Nat.le_refl 0⟩ (fun v4 => ?_) (sP S 5) 0 (by omega) none
      refine pw_iconst_n (q := 78) C 0 dL_sum_77 (by decide +kernel) rfl ?_
      refine pw_istore_n (q := 79) (j := 3) C dL_sum_78 rfl rfl (by decide) rfl ?_
      rw [← sumM_0]
      refine sum_m2 hX hS C ⟨Nat.le_refl 0, Nat.le_refl 0⟩ (fun v4 => ?_) (sP S 6) 0 (by omega) _
      refine pw_iconst_n (q := 126) C 0 dL_sum_125 (by decide +kernel) rfl ?_
      refine pw_istore_n (q := 127) (j := 3) C dL_sum_126 rfl rfl (by decide) rfl ?_
      rw [← sumS_0]
      refine sum_s2 hX hS C ⟨Nat.le_refl 0, Nat.le_refl 0⟩ (fun v4 => ?_) (sP S 7) 0 (by omega) _
      refine pw_lload_n (q := 174) (j := 1) C dL_sum_173 rfl rfl rfl ?_
      exact pw_lret C dL_sum_174 rfl ⟨by omega, by omega⟩ (RV.mk rfl rfl)
    | succ d ih =>
      intro r hd
      refine pw_iload_n (q := 5) (j := 3) C dL_sum_4 rfl rfl rfl ?_
      refine pw_bipush_n (q := 7) C 12 dL_sum_5 (by decide +kernel) rfl ?_
      refine pw_icmp_ge_n (q := 10) 29 C dL_sum_7 (by decide) rfl (by omega) (by omega) (fun g7 => absurd g7 (by omega)) (fun g7 => ?_)
      refine pw_ldc2 (q := 13) C dL_sum_10 cgL_174 rfl ?_
      refine pw_lload_n (q := 14) (j := 1) C dL_sum_13 rfl rfl rfl ?_
      refine pw_lmul (q := 15) C dL_sum_14 rfl ?_
      refine pw_aload_n (q := 16) (j := 0) C dL_sum_15 rfl rfl rfl ?_
      refine pw_iload_n (q := 17) (j := 3) C dL_sum_16 rfl rfl rfl ?_
      refine pw_rd (q := 20) (cr_s (j := iL_about) C dL_sum_17 lL_176 mL_about (ro_mk (by decide) (by decide))  (v_about hX hS (by omega)) rfl rfl (Nat.le_of_ble_eq_true rfl) ⟨by omega, by omega⟩) rfl ?_
      refine pw_i2l (q := 21) C dL_sum_20 rfl ?_
      refine pw_ladd (q := 22) C dL_sum_21 rfl ?_
      refine pw_lstore_n (q := 23) (j := 1) C dL_sum_22 rfl rfl (by decide) rfl ?_
      refine pw_iinc_n (q := 26) C 1 dL_sum_23 rfl (by decide +kernel) rfl (by decide) rfl ?_
      refine pw_goto (q := 0) 4 C dL_sum_26 (by decide) ?_
      exact ih (r + 1) (by omega)
  refine pw_lconst (q := 1) (v := 0) C dL_sum_0 (by decide +kernel) rfl ?_
  refine pw_lstore_n (q := 2) (j := 1) C dL_sum_1 rfl rfl (by decide) rfl ?_
  refine pw_iconst_n (q := 3) C 0 dL_sum_2 (by decide +kernel) rfl ?_
  refine pw_istore_n (q := 4) (j := 3) C dL_sum_3 rfl rfl (by decide) rfl ?_
  exact loop 12 0 (by omega)
