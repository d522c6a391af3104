/-! The law's lacks. -/
def dayN (P : Nat → Nat) : Nat := fst (fun d => ∀ c, c < P 5 → dayL P (lackL P) d c = 0) 100
theorem daysP_n {P : Nat → Nat} (h : dayN P < 100) : daysP P = nI (dayN P) := by
  unfold daysP orNone
  exact if_pos h
theorem daysP_u {P : Nat → Nat} (h : ¬ dayN P < 100) : daysP P = -9 := by
  unfold daysP orNone
  exact if_neg h
theorem dayN_le (P : Nat → Nat) : dayN P ≤ 100 := fst_le _ _
theorem dayN_0 (P : Nat → Nat) : dayN P = 0 ↔ ∀ c, c < P 5 → lacks P c = 0 := by
  have e : ∀ c, c < P 5 → dayL P (lackL P) 0 c = lacks P c := fun c hc => by
    rw [dayL]
    unfold lackL
    rw [if_pos hc]
  constructor
  · intro h c hc
    have h1 : fst (fun d => ∀ c, c < P 5 → dayL P (lackL P) d c = 0) 100 < 100 := by
      show dayN P < 100
      omega
    have h2 := fst_yes h1
    rw [show fst (fun d => ∀ c, c < P 5 → dayL P (lackL P) d c = 0) 100 = 0 from h] at h2
    rw [← e c hc]
    exact h2 c hc
  · intro h
    exact fst_eq (p := fun d => ∀ c, c < P 5 → dayL P (lackL P) d c = 0) (by omega) (fun c hc => (e c hc).trans (h c hc)) (fun j hj => absurd hj (Nat.not_lt_zero j))
theorem sumN_z {f : Nat → Nat} {n : Nat} : sumN f n = 0 ↔ ∀ k, k < n → f k = 0 := by
  constructor
  · intro h k hk
    have := sumN_ge (f := f) hk
    omega
  · intro h
    rw [sumN_cong h]
    exact sumN_0 n
theorem minR_pos {P : Nat → Nat} (hI : Inv P) : ∀ {n : Nat}, n ≤ P 6 → 1 ≤ minR P n
  | 0, _ => by
    rw [minR]
    omega
  | n + 1, h => by
    have h1 := minR_pos hI (n := n) (by omega)
    have h2 := (hI.m (m := n) (by omega)).1
    rw [minR]
    omega
theorem cost_n {P : Nat → Nat} (h : P 6 ≠ 0) : cost P = nI (lackF P * minR P (P 6)) := by
  unfold cost
  rw [if_neg (fun q => h q.2)]
theorem lackF_0 {P : Nat → Nat} (hI : Inv P) : lackF P = 0 ↔ sumN (lacks P) (P 5) = 0 := by
  unfold lackF
  rw [sumN_z, sumN_z]
  constructor
  · intro h k hk
    have h1 := h k hk
    have h2 := hI.c hk
    rcases Nat.mul_eq_zero.mp h1 with h3 | h3
    · exact h3
    · omega
  · intro h k hk
    rw [h k hk, Nat.zero_mul]
theorem cost_0 {P : Nat → Nat} (hI : Inv P) : lackF P * minR P (P 6) = 0 ↔ sumN (lacks P) (P 5) = 0 := by
  rw [← lackF_0 hI, Nat.mul_eq_zero]
  have := minR_pos hI (Nat.le_refl (P 6))
  omega
theorem cost_le {P : Nat → Nat} (hI : Inv P) : lackF P * minR P (P 6) ≤ 324 * 9 := Nat.mul_le_mul (lackF_le hI (Nat.le_refl _)) (minR_le P _)
theorem lackS_le {P : Nat → Nat} (hI : Inv P) {n : Nat} (h : n ≤ P 5) : sumN (lacks P) n ≤ 54 := by
  have hb := hI.b
  refine Nat.le_trans (sumN_le (b := 9) (fun c hc => ?_)) ?_
  · have := lacks_le (P := P) c
    have := hI.c (show c < P 5 by omega)
    omega
  · omega
theorem dayN_S (P : Nat → Nat) : dayN P = 0 ↔ sumN (lacks P) (P 5) = 0 := (dayN_0 P).trans sumN_z.symm
-- the next day
section
variable {P : Nat → Nat}
theorem day_5 (hI : Inv P) {fr : Nat} : dayP P fr 5 = P 5 ∧ dayP P fr 6 = P 6 ∧ dayP P fr 7 = P 7 := ⟨dayP_ne (by omega) (by omega), dayP_ne (by omega) (by omega), dayP_ne (by omega) (by omega)⟩
theorem day_lacks (hI : Inv P) {fr c : Nat} (hc : c < P 5) : lacks (dayP P fr) c = lacks P c := by
  have hb := hI.b
  have e : ∀ st, cntC (dayP P fr) c st = cntC P c st := fun st => cntC_cong (day_5 hI).2.2 (fun s hs => by rw [dayP_ne (k := 50 + 6 * s) (by omega) (by omega), dayP_ne (k := 50 + 6 * s + 3) (by omega) (by omega)])
  unfold lacks
  rw [e, e, dayP_ne (k := 8 + 3 * c + 2) (by omega) (by omega)]
theorem day_sum (hI : Inv P) {fr : Nat} : sumN (lacks (dayP P fr)) (dayP P fr 5) = sumN (lacks P) (P 5) := by
  rw [(day_5 hI).1]
  exact sumN_cong (fun k hk => day_lacks hI hk)
theorem nextC_F {F F1 L : Nat → Nat} {C w : Nat} (h : ∀ c, c < C → F c = F1 c) : nextC F C L w = nextC F1 C L w := fst_cong (fun k hk => by rw [h k hk])
theorem runL_F {F F1 : Nat → Nat} {C : Nat} (h : ∀ c, c < C → F c = F1 c) : ∀ {n : Nat} {L : Nat → Nat} {w : Nat}, runL F C n L w = runL F1 C n L w
  | 0, L, w => rfl
  | n + 1, L, w => by
    rw [runL, runL, nextC_F h]
    split
    · rename_i h9
      rw [h _ h9]
      exact runL_F h
    · rfl
theorem masL_F {F F1 W : Nat → Nat} {C : Nat} (h : ∀ c, c < C → F c = F1 c) : ∀ {m : Nat} {L : Nat → Nat}, masL F C W m L = masL F1 C W m L
  | 0, L => rfl
  | m + 1, L => by rw [masL, masL, masL_F h, runL_F h]
theorem day_full (hI : Inv P) (hf : ∀ m, m < P 6 → P (26 + 4 * m + 2) = P (26 + 4 * m + 1)) : dayN (dayP P 0) = dayN P := by
  have hb := hI.b
  obtain ⟨d5, d6, d7⟩ := day_5 hI (fr := 0)
  have hL : lackL (dayP P 0) = lackL P := by
    funext c
    unfold lackL
    rw [d5]
    by_cases hc : c < P 5
    · rw [if_pos hc, if_pos hc, day_lacks hI hc]
    · rw [if_neg hc, if_neg hc]
  have hW : ∀ d, wkW (dayP P 0) (if d = 0 then 2 else 1) = wkW P (if d = 0 then 2 else 1) := fun d => by
    funext m
    unfold wkW
    rw [d6]
    by_cases hm : m < P 6
    · rw [if_pos hm, if_pos hm]
      by_cases h0 : d = 0
      · rw [if_pos h0, dayP_work hm, if_neg (by omega), hf m hm]
      · rw [if_neg h0, dayP_ne (k := 26 + 4 * m + 1) (by omega) (by omega)]
    · rw [if_neg hm, if_neg hm]
  have hF : ∀ c, c < P 5 → facF (dayP P 0) c = facF P c := fun c hc => dayP_ne (k := 8 + 3 * c + 1) (by omega) (by omega)
  have hd : ∀ (L : Nat → Nat) (d : Nat), dayL (dayP P 0) L d = dayL P L d := by
    intro L d
    induction d with
    | zero => rfl
    | succ d ih => rw [dayL, dayL, ih, d5, hW, masL_F hF]
  unfold dayN
  rw [hL, d5]
  refine fst_cong (fun d _ => ?_)
  rw [hd]
end
theorem days_nz {P : Nat → Nat} (h : dayN P ≠ 0) : ¬ daysP P = 0 := by
  by_cases h1 : dayN P < 100
  · rw [daysP_n h1, nI_eq0 (by omega)]
    exact h
  · rw [daysP_u h1]
    decide +kernel
def lacksS (S : St) : St := if 1 < dayN (sP S) ∧ dayN (sP S) < 100 ∧ sP S 2 = 0 then trim 1 S else S
theorem SG.lacks {D : Nat} {S : St} (h : SG D S) : SG D (lacksS S) := by
  unfold lacksS
  split
  · exact h.trim
  · exact h
theorem UI.heap {M0 M M1 : PH} {x D k K : Nat} {S U : St} (h : UI M0 x D K S U k M) (e : RepX M1 x U ∧ Fr M M1 x) : UI M0 x D K S U k M1 := ⟨e.1, h.2.1.tr e.2, h.2.2.1, h.2.2.2⟩
theorem a_days {M : PH} {x D : Nat} {S : St} (hX : RepX M x S) (hS : SInv D S) : Run iX10_daysLeft [.ref x] M 2 12 (AQ M x (daysP (sP S)) S) := QX.aq (p_daysLeft hX hS)
theorem a_daysN {M : PH} {x D : Nat} {S : St} (hX : RepX M x S) (hS : SInv D S) {d : Nat} (h : dayN (sP S) < 100) (hd : dayN (sP S) = d) : Run iX10_daysLeft [.ref x] M 2 12 (AQ M x (nI d) S) := by
  have t := a_days hX hS
  rw [daysP_n h, hd] at t
  exact t
theorem a_daysU {M : PH} {x D : Nat} {S : St} (hX : RepX M x S) (hS : SInv D S) (h : ¬ dayN (sP S) < 100) : Run iX10_daysLeft [.ref x] M 2 12 (AQ M x (-9) S) := by
  have t := a_days hX hS
  rw [daysP_u h] at t
  exact t
set_option maxHeartbeats 200000 in
set_option maxRecDepth 100000 in
theorem lacks1 {Γ : CX} {G : GC} {Z : State → Prop} {mc ms k n : Nat} {M : PH} {x D : Nat} {S : St} (hX : RepX M x S) (hG : SG D S) (hD : D < 80000) (C : Cx Γ G iL_lacks [] mc ms) (hkn : k ≤ mc ∧ n ≤ ms) (K : PW Γ G Z 28 [some (.ref x), some (.int (nI (sumN (lacks (sP S)) (sP S 5)))), some (.int (nI (sP S 5))), none, none, none, none] [] M k n) : ∀ (d r : Nat), r + d = sP S 5 → ∀ a, a = sumN (lacks (sP S)) r → PW Γ G Z 4 [some (.ref x), some (.int (nI (a))), some (.int (nI (r))), none, none, none, none] [] M k n := by
  have hS := hG.1
  have hI := hS.1.1
  have hb := hI.b
  have h14 := hX.m14
  have hF := hG.2.1
  intro d
  induction d with
  | zero =>
    intro r hr a ha
    obtain rfl : r = sP S 5 := by omega
    subst ha
    refine pw_iload_n (q := 5) (j := 2) C dL_lacks_4 rfl rfl rfl ?_
    refine pw_aload_n (q := 6) (j := 0) C dL_lacks_5 rfl rfl rfl ?_
    refine pw_iconst_n (q := 7) C 0 dL_lacks_6 (by decide +kernel) rfl ?_
    refine pw_rd (q := 10) (cr_s (j := iL_about) C dL_lacks_7 lL_176 mL_about (ro_mk (by decide) (by decide))  (v_a0 hX hS) rfl rfl (Nat.le_of_ble_eq_true rfl) ⟨by omega, by omega⟩) rfl ?_
    refine pw_icmp_ge_n (q := 13) 28 C dL_lacks_10 (by decide) rfl (by omega) (by omega) (fun g10 => ?_) (fun g10 => absurd g10 (by omega))
    exact K
  | succ d ih =>
    intro r hr a ha
    have q := lackS_le hI (n := r) (by omega)
    refine pw_iload_n (q := 5) (j := 2) C dL_lacks_4 rfl rfl rfl ?_
    refine pw_aload_n (q := 6) (j := 0) C dL_lacks_5 rfl rfl rfl ?_
    refine pw_iconst_n (q := 7) C 0 dL_lacks_6 (by decide +kernel) rfl ?_
    refine pw_rd (q := 10) (cr_s (j := iL_about) C dL_lacks_7 lL_176 mL_about (ro_mk (by decide) (by decide))  (v_a0 hX hS) rfl rfl (Nat.le_of_ble_eq_true rfl) ⟨by omega, by omega⟩) rfl ?_
    refine pw_icmp_ge_n (q := 13) 28 C dL_lacks_10 (by decide) rfl (by omega) (by omega) (fun g10 => absurd g10 (by omega)) (fun g10 => ?_)
    refine pw_iload_n (q := 14) (j := 1) C dL_lacks_13 rfl rfl rfl ?_
    refine pw_aload_n (q := 15) (j := 0) C dL_lacks_14 rfl rfl rfl ?_
    refine pw_iload_n (q := 16) (j := 2) C dL_lacks_15 rfl rfl rfl ?_
    refine pw_iconst_n (q := 17) C 4 dL_lacks_16 (by decide +kernel) rfl ?_
    refine pw_rd (q := 20) (cr_s (j := iL_course) C dL_lacks_17 lL_178 mL_course (ro_mk (by decide) (by decide))  (v_c4 hX hS (by omega)) rfl rfl (Nat.le_of_ble_eq_true rfl) ⟨by omega, by omega⟩) rfl ?_
    refine pw_iadd_n (q := 21) C dL_lacks_20 rfl ?_
    refine pw_istore_n (q := 22) (j := 1) C dL_lacks_21 rfl rfl (by decide) rfl ?_
    refine pw_iinc_n (q := 25) C 1 dL_lacks_22 rfl (by decide +kernel) rfl (by decide) rfl ?_
    refine pw_goto (q := 0) 4 C dL_lacks_25 (by decide) ?_
    exact ih (r + 1) (by omega) _ (by rw [ha, sumN])
set_option maxHeartbeats 200000 in
set_option maxRecDepth 100000 in
theorem lacks2 {Γ : CX} {G : GC} {Z : State → Prop} {mc ms k n : Nat} {M : PH} {x D : Nat} {S : St} (hX : RepX M x S) (hG : SG D S) (hD : D < 80000) (C : Cx Γ G iL_lacks [] mc ms) (hkn : k ≤ mc ∧ n ≤ ms) {a1 a2 a3 : Nat} (K : ∀ v : Int32, ((v = -1 ∧ ∀ m, m < sP S 6 → sP S (26 + 4 * m + 2) = sP S (26 + 4 * m + 1)) ∨ ∃ j, j < 6 ∧ v = nI j) → PW Γ G Z 164 [some (.ref x), some (.int (nI (a1))), some (.int (nI (a2))), some (.int (nI (a3))), some (.int (nI (1))), some (.int v), some (.int (nI (sP S 6)))] [] M k n) : ∀ (d r : Nat), r + d = sP S 6 → ∀ v : Int32, ((v = -1 ∧ ∀ m, m < r → sP S (26 + 4 * m + 2) = sP S (26 + 4 * m + 1)) ∨ ∃ j, j < 6 ∧ v = nI j) → PW Γ G Z 122 [some (.ref x), some (.int (nI (a1))), some (.int (nI (a2))), some (.int (nI (a3))), some (.int (nI (1))), some (.int v), some (.int (nI (r)))] [] M k n := by
  have hS := hG.1
  have hI := hS.1.1
  have hb := hI.b
  have h14 := hX.m14
  have hF := hG.2.1
  intro d
  induction d with
  | zero =>
    intro r hr v hv
    obtain rfl : r = sP S 6 := by omega
    refine pw_iload (q := 124) C dL_lacks_122 rfl rfl ?_
    refine pw_aload_n (q := 125) (j := 0) C dL_lacks_124 rfl rfl rfl ?_
    refine pw_iconst_n (q := 126) C 1 dL_lacks_125 (by decide +kernel) rfl ?_
    refine pw_rd (q := 129) (cr_s (j := iL_about) C dL_lacks_126 lL_176 mL_about (ro_mk (by decide) (by decide))  (v_a1 hX hS) rfl rfl (Nat.le_of_ble_eq_true rfl) ⟨by omega, by omega⟩) rfl ?_
    refine pw_icmp_ge_n (q := 132) 164 C dL_lacks_129 (by decide) rfl (by omega) (by omega) (fun g129 => ?_) (fun g129 => absurd g129 (by omega))
    exact K v hv
  | succ d ih =>
    intro r hr v hv
    have q := hI.m (m := r) (by omega)
    have qf := (hF.2.2.1 r (by omega)).1
    refine pw_iload (q := 124) C dL_lacks_122 rfl rfl ?_
    refine pw_aload_n (q := 125) (j := 0) C dL_lacks_124 rfl rfl rfl ?_
    refine pw_iconst_n (q := 126) C 1 dL_lacks_125 (by decide +kernel) rfl ?_
    refine pw_rd (q := 129) (cr_s (j := iL_about) C dL_lacks_126 lL_176 mL_about (ro_mk (by decide) (by decide))  (v_a1 hX hS) rfl rfl (Nat.le_of_ble_eq_true rfl) ⟨by omega, by omega⟩) rfl ?_
    refine pw_icmp_ge_n (q := 132) 164 C dL_lacks_129 (by decide) rfl (by omega) (by omega) (fun g129 => absurd g129 (by omega)) (fun g129 => ?_)
    refine pw_aload_n (q := 133) (j := 0) C dL_lacks_132 rfl rfl rfl ?_
    refine pw_iload (q := 135) C dL_lacks_133 rfl rfl ?_
    refine pw_iconst_n (q := 136) C 2 dL_lacks_135 (by decide +kernel) rfl ?_
    refine pw_rd (q := 139) (cr_s (j := iL_mason) C dL_lacks_136 lL_180 mL_mason (ro_mk (by decide) (by decide))  (v_m2 hX hS (by omega)) rfl rfl (Nat.le_of_ble_eq_true rfl) ⟨by omega, by omega⟩) rfl ?_
    refine pw_aload_n (q := 140) (j := 0) C dL_lacks_139 rfl rfl rfl ?_
    refine pw_iload (q := 142) C dL_lacks_140 rfl rfl ?_
    refine pw_iconst_n (q := 143) C 1 dL_lacks_142 (by decide +kernel) rfl ?_
    refine pw_rd (q := 146) (cr_s (j := iL_mason) C dL_lacks_143 lL_180 mL_mason (ro_mk (by decide) (by decide))  (v_m1 hX hS (by omega)) rfl rfl (Nat.le_of_ble_eq_true rfl) ⟨by omega, by omega⟩) rfl ?_
    refine pw_icmp_ge_n (q := 149) 154 C dL_lacks_146 (by decide) rfl (by omega) (by omega) (fun g146 => ?_) (fun g146 => ?_)
    · refine pw_iload (q := 156) C dL_lacks_154 rfl rfl ?_
      refine pw_istore (q := 158) C dL_lacks_156 rfl (by decide) rfl ?_
      refine pw_iinc_n (q := 161) C 1 dL_lacks_158 rfl (by decide +kernel) rfl (by decide) rfl ?_
      refine pw_goto (q := 0) 122 C dL_lacks_161 (by decide) ?_
      refine ih (r + 1) (by omega) v ?_
      rcases hv with ⟨h1, h2⟩ | h1
      · refine Or.inl ⟨h1, fun m hm => ?_⟩
        by_cases e : m = r
        · subst e; omega
        · exact h2 m (by omega)
      · exact Or.inr h1
    · refine pw_iload (q := 151) C dL_lacks_149 rfl rfl ?_
      refine pw_goto (q := 0) 156 C dL_lacks_151 (by decide) ?_
      refine pw_istore (q := 158) C dL_lacks_156 rfl (by decide) rfl ?_
      refine pw_iinc_n (q := 161) C 1 dL_lacks_158 rfl (by decide +kernel) rfl (by decide) rfl ?_
      refine pw_goto (q := 0) 122 C dL_lacks_161 (by decide) ?_
      exact ih (r + 1) (by omega) (nI r) (Or.inr ⟨r, by omega, rfl⟩)
set_option maxHeartbeats 200000 in
set_option maxRecDepth 100000 in
theorem v_lacks {M : PH} {x D : Nat} {S : St} (hX : RepX M x S) (hG : SG D S) (hD : D < 80000) : Run iL_lacks [.ref x] M 64 800 (RV (.int (nI 1)) (fun M1 => RepX M1 x (lacksS S) ∧ Fr M M1 x)) := by
  have hS := hG.1
  have hI := hS.1.1
  have hb := hI.b
  have h14 := hX.m14
  have hF := hG.2.1
  have q1 := cost_0 hI
  have q2 := cost_le hI
  have q3 := lackS_le hI (Nat.le_refl (sP S 5))
  have q4 := dayN_S (sP S)
  have q5 := dayN_le (sP S)
  have q6 := cost_n (P := sP S) (by have := hF.2.1; omega)
  have h00 : 0 ≤ 64 ∧ 0 ≤ 800 := ⟨Nat.zero_le _, Nat.zero_le _⟩
  refine Run.of (l0 := [some (.ref x), none, none, none, none, none, none]) (by decide +kernel) (Nat.le_of_ble_eq_true rfl) (by rfl) (fun Γ G C => ?_)
  refine pw_iconst_n (q := 1) C 0 dL_lacks_0 (by decide +kernel) rfl ?_
  refine pw_istore_n (q := 2) (j := 1) C dL_lacks_1 rfl rfl (by decide) rfl ?_
  refine pw_iconst_n (q := 3) C 0 dL_lacks_2 (by decide +kernel) rfl ?_
  refine pw_istore_n (q := 4) (j := 2) C dL_lacks_3 rfl rfl (by decide) rfl ?_
  refine lacks1 hX hG hD C h00 ?_ (sP S 5) 0 (by omega) 0 rfl
  rcases (show sumN (lacks (sP S)) (sP S 5) = 0 ∨ (0 < sumN (lacks (sP S)) (sP S 5) ∧ dayN (sP S) < 100) ∨ (0 < sumN (lacks (sP S)) (sP S 5) ∧ ¬ dayN (sP S) < 100) by omega) with hz | hz | hz
  · refine pw_aload_n (q := 29) (j := 0) C dL_lacks_28 rfl rfl rfl ?_
    refine pw_rd (q := 32) (cr_v (j := iX10_costLeft) C dL_lacks_29 lL_191 mX10_costLeft (ro_mk (by decide) (by decide)) hX.1 rfl (r_costLeft hX hS) rfl rfl (Nat.le_of_ble_eq_true rfl) ⟨by omega, by omega⟩) rfl ?_
    rw [q6]
    refine pw_istore_n (q := 33) (j := 2) C dL_lacks_32 rfl rfl (by decide) rfl ?_
    refine pw_aload_n (q := 34) (j := 0) C dL_lacks_33 rfl rfl rfl ?_
    refine pw_val (q := 37) (cr_v (j := iX10_daysLeft) C dL_lacks_34 lL_194 mX10_daysLeft (ro_mk (by decide) (by decide)) hX.1 rfl (a_daysN hX hS (d := 0) (by omega) (by omega)) rfl rfl (Nat.le_of_ble_eq_true rfl) ⟨by omega, by omega⟩) rfl (fun M34 e34 => ?_)
    refine pw_istore_n (q := 38) (j := 3) C dL_lacks_37 rfl rfl (by decide) rfl ?_
    refine pw_iload_n (q := 39) (j := 1) C dL_lacks_38 rfl rfl rfl ?_
    refine pw_if_ne_n (q := 42) 46 C dL_lacks_39 (by decide) rfl (by omega) (fun g39 => absurd g39 (by omega)) (fun g39 => ?_)
    refine pw_iconst_n (q := 43) C 1 dL_lacks_42 (by decide +kernel) rfl ?_
    refine pw_goto (q := 0) 47 C dL_lacks_43 (by decide) ?_
    refine pw_iload_n (q := 48) (j := 2) C dL_lacks_47 rfl rfl rfl ?_
    refine pw_if_ne_n (q := 51) 55 C dL_lacks_48 (by decide) rfl (by omega) (fun g48 => absurd g48 (by omega)) (fun g48 => ?_)
    refine pw_iconst_n (q := 52) C 1 dL_lacks_51 (by decide +kernel) rfl ?_
    refine pw_goto (q := 0) 56 C dL_lacks_52 (by decide) ?_
    refine pw_icmp_ne_n (q := 59) 100 C dL_lacks_56 (by decide) rfl (by omega) (by omega) (fun g56 => absurd g56 (by omega)) (fun g56 => ?_)
    refine pw_iload_n (q := 60) (j := 1) C dL_lacks_59 rfl rfl rfl ?_
    refine pw_if_ne_n (q := 63) 67 C dL_lacks_60 (by decide) rfl (by omega) (fun g60 => absurd g60 (by omega)) (fun g60 => ?_)
    refine pw_iconst_n (q := 64) C 1 dL_lacks_63 (by decide +kernel) rfl ?_
    refine pw_goto (q := 0) 68 C dL_lacks_64 (by decide) ?_
    refine pw_iload_n (q := 69) (j := 3) C dL_lacks_68 rfl rfl rfl ?_
    refine pw_if_ne_n (q := 72) 76 C dL_lacks_69 (by decide) rfl (by omega) (fun g69 => absurd g69 (fun h => h rfl)) (fun g69 => ?_)
    refine pw_iconst_n (q := 73) C 1 dL_lacks_72 (by decide +kernel) rfl ?_
    refine pw_goto (q := 0) 77 C dL_lacks_73 (by decide) ?_
    refine pw_icmp_ne_n (q := 80) 100 C dL_lacks_77 (by decide) rfl (by omega) (by omega) (fun g77 => absurd g77 (by omega)) (fun g77 => ?_)
    refine pw_iload_n (q := 81) (j := 3) C dL_lacks_80 rfl rfl rfl ?_
    refine pw_bipush (q := 83) (v := (-9)) C dL_lacks_81 (by decide +kernel) rfl ?_
    refine pw_icmp_eq (q := 86) 96 C dL_lacks_83 (by decide) rfl (fun g83 => absurd g83 (nI_ne9 (by omega))) (fun g83 => ?_)
    refine pw_iload_n (q := 87) (j := 3) C dL_lacks_86 rfl rfl rfl ?_
    refine pw_if_lt (q := 90) 100 C dL_lacks_87 (by decide) rfl (fun g87 => absurd g87 (nI_pos (by omega))) (fun g87 => ?_)
    refine pw_iload_n (q := 91) (j := 3) C dL_lacks_90 rfl rfl rfl ?_
    refine pw_bipush_n (q := 93) C 99 dL_lacks_91 (by decide +kernel) rfl ?_
    refine pw_icmp_gt_n (q := 96) 100 C dL_lacks_93 (by decide) rfl (by omega) (by omega) (fun g93 => absurd g93 (by omega)) (fun g93 => ?_)
    refine pw_iconst_n (q := 97) C 1 dL_lacks_96 (by decide +kernel) rfl ?_
    refine pw_goto (q := 0) 101 C dL_lacks_97 (by decide) ?_
    refine pw_istore (q := 103) C dL_lacks_101 rfl (by decide) rfl ?_
    refine pw_iload_n (q := 104) (j := 3) C dL_lacks_103 rfl rfl rfl ?_
    refine pw_iconst_n (q := 105) C 1 dL_lacks_104 (by decide +kernel) rfl ?_
    refine pw_icmp_le_n (q := 108) 215 C dL_lacks_105 (by decide) rfl (by omega) (by omega) (fun g105 => ?_) (fun g105 => absurd g105 (by omega))
    refine pw_iload (q := 217) C dL_lacks_215 rfl rfl ?_
    exact pw_zret C dL_lacks_217 rfl (by first | decide +kernel | exact nar_bN _ | exact nar_01 (by omega)) ⟨by omega, by omega⟩ (RV.mk rfl ⟨by unfold lacksS; rw [if_neg (by omega)]; exact e34.1, e34.2⟩)
  · refine pw_aload_n (q := 29) (j := 0) C dL_lacks_28 rfl rfl rfl ?_
    refine pw_rd (q := 32) (cr_v (j := iX10_costLeft) C dL_lacks_29 lL_191 mX10_costLeft (ro_mk (by decide) (by decide)) hX.1 rfl (r_costLeft hX hS) rfl rfl (Nat.le_of_ble_eq_true rfl) ⟨by omega, by omega⟩) rfl ?_
    rw [q6]
    refine pw_istore_n (q := 33) (j := 2) C dL_lacks_32 rfl rfl (by decide) rfl ?_
    refine pw_aload_n (q := 34) (j := 0) C dL_lacks_33 rfl rfl rfl ?_
    refine pw_val (q := 37) (cr_v (j := iX10_daysLeft) C dL_lacks_34 lL_194 mX10_daysLeft (ro_mk (by decide) (by decide)) hX.1 rfl (a_daysN hX hS (by omega) rfl) rfl rfl (Nat.le_of_ble_eq_true rfl) ⟨by omega, by omega⟩) rfl (fun M34 e34 => ?_)
    refine pw_istore_n (q := 38) (j := 3) C dL_lacks_37 rfl rfl (by decide) rfl ?_
    refine pw_iload_n (q := 39) (j := 1) C dL_lacks_38 rfl rfl rfl ?_
    refine pw_if_ne_n (q := 42) 46 C dL_lacks_39 (by decide) rfl (by omega) (fun g39 => ?_) (fun g39 => absurd g39 (by omega))
    refine pw_iconst_n (q := 47) C 0 dL_lacks_46 (by decide +kernel) rfl ?_
    refine pw_iload_n (q := 48) (j := 2) C dL_lacks_47 rfl rfl rfl ?_
    refine pw_if_ne_n (q := 51) 55 C dL_lacks_48 (by decide) rfl (by omega) (fun g48 => ?_) (fun g48 => absurd g48 (by omega))
    refine pw_iconst_n (q := 56) C 0 dL_lacks_55 (by decide +kernel) rfl ?_
    refine pw_icmp_ne_n (q := 59) 100 C dL_lacks_56 (by decide) rfl (by omega) (by omega) (fun g56 => absurd g56 (by omega)) (fun g56 => ?_)
    refine pw_iload_n (q := 60) (j := 1) C dL_lacks_59 rfl rfl rfl ?_
    refine pw_if_ne_n (q := 63) 67 C dL_lacks_60 (by decide) rfl (by omega) (fun g60 => ?_) (fun g60 => absurd g60 (by omega))
    refine pw_iconst_n (q := 68) C 0 dL_lacks_67 (by decide +kernel) rfl ?_
    refine pw_iload_n (q := 69) (j := 3) C dL_lacks_68 rfl rfl rfl ?_
    refine pw_if_ne_n (q := 72) 76 C dL_lacks_69 (by decide) rfl (by omega) (fun g69 => ?_) (fun g69 => absurd g69 (by omega))
    refine pw_iconst_n (q := 77) C 0 dL_lacks_76 (by decide +kernel) rfl ?_
    refine pw_icmp_ne_n (q := 80) 100 C dL_lacks_77 (by decide) rfl (by omega) (by omega) (fun g77 => absurd g77 (by omega)) (fun g77 => ?_)
    refine pw_iload_n (q := 81) (j := 3) C dL_lacks_80 rfl rfl rfl ?_
    refine pw_bipush (q := 83) (v := (-9)) C dL_lacks_81 (by decide +kernel) rfl ?_
    refine pw_icmp_eq (q := 86) 96 C dL_lacks_83 (by decide) rfl (fun g83 => absurd g83 (nI_ne9 (by omega))) (fun g83 => ?_)
    refine pw_iload_n (q := 87) (j := 3) C dL_lacks_86 rfl rfl rfl ?_
    refine pw_if_lt (q := 90) 100 C dL_lacks_87 (by decide) rfl (fun g87 => absurd g87 (nI_pos (by omega))) (fun g87 => ?_)
    refine pw_iload_n (q := 91) (j := 3) C dL_lacks_90 rfl rfl rfl ?_
    refine pw_bipush_n (q := 93) C 99 dL_lacks_91 (by decide +kernel) rfl ?_
    refine pw_icmp_gt_n (q := 96) 100 C dL_lacks_93 (by decide) rfl (by omega) (by omega) (fun g93 => absurd g93 (by omega)) (fun g93 => ?_)
    refine pw_iconst_n (q := 97) C 1 dL_lacks_96 (by decide +kernel) rfl ?_
    refine pw_goto (q := 0) 101 C dL_lacks_97 (by decide) ?_
    refine pw_istore (q := 103) C dL_lacks_101 rfl (by decide) rfl ?_
    refine pw_iload_n (q := 104) (j := 3) C dL_lacks_103 rfl rfl rfl ?_
    refine pw_iconst_n (q := 105) C 1 dL_lacks_104 (by decide +kernel) rfl ?_
    refine pw_icmp_le_n (q := 108) 215 C dL_lacks_105 (by decide) rfl (by omega) (by omega) (fun g105 => ?_) (fun g105 => ?_)
    · refine pw_iload (q := 217) C dL_lacks_215 rfl rfl ?_
      exact pw_zret C dL_lacks_217 rfl (by first | decide +kernel | exact nar_bN _ | exact nar_01 (by omega)) ⟨by omega, by omega⟩ (RV.mk rfl ⟨by unfold lacksS; rw [if_neg (by omega)]; exact e34.1, e34.2⟩)
    · refine pw_aload_n (q := 109) (j := 0) C dL_lacks_108 rfl rfl rfl ?_
      refine pw_iconst_n (q := 110) C 4 dL_lacks_109 (by decide +kernel) rfl ?_
      refine pw_rd (q := 113) (cr_s (j := iL_about) C dL_lacks_110 lL_176 mL_about (ro_mk (by decide) (by decide))  (v_a4 e34.1 hS) rfl rfl (Nat.le_of_ble_eq_true rfl) ⟨by omega, by omega⟩) rfl ?_
      refine pw_if_ne_n (q := 116) 215 C dL_lacks_113 (by decide) rfl (by omega) (fun g113 => ?_) (fun g113 => ?_)
      · refine pw_iload (q := 217) C dL_lacks_215 rfl rfl ?_
        exact pw_zret C dL_lacks_217 rfl (by first | decide +kernel | exact nar_bN _ | exact nar_01 (by omega)) ⟨by omega, by omega⟩ (RV.mk rfl ⟨by unfold lacksS; rw [if_neg (by omega)]; exact e34.1, e34.2⟩)
      · refine pw_iconst (q := 117) (v := (-1)) C dL_lacks_116 (by decide +kernel) rfl ?_
        refine pw_istore (q := 119) C dL_lacks_117 rfl (by decide) rfl ?_
        refine pw_iconst_n (q := 120) C 0 dL_lacks_119 (by decide +kernel) rfl ?_
        refine pw_istore (q := 122) C dL_lacks_120 rfl (by decide) rfl ?_
        have h1d : dayN (sP S) < 100 := by omega
        refine lacks2 e34.1 hG hD C ⟨by omega, by omega⟩ (fun v hv => ?_) (sP S 6) 0 (by omega) (-1) (Or.inl ⟨rfl, fun m hm => absurd hm (Nat.not_lt_zero m)⟩)
        rcases hv with hv | ⟨j, hj, rfl⟩
        · obtain ⟨rfl, hv2⟩ := hv
          have hv : True ∧ ∀ m, m < sP S 6 → sP S (26 + 4 * m + 2) = sP S (26 + 4 * m + 1) := ⟨trivial, hv2⟩
          refine pw_iload (q := 166) C dL_lacks_164 rfl rfl ?_
          refine pw_aload_n (q := 167) (j := 0) C dL_lacks_166 rfl rfl rfl ?_
          refine pw_iconst_n (q := 168) C 0 dL_lacks_167 (by decide +kernel) rfl ?_
          refine pw_val (q := 171) (cr_v (j := iX10_nextDay) C dL_lacks_168 lL_197 mX10_nextDay (ro_mk (by decide) (by decide)) e34.1.1 rfl (a_day e34.1 hS (Nat.zero_le 1)) rfl rfl (Nat.le_of_ble_eq_true rfl) ⟨by omega, by omega⟩) rfl (fun M168 e168 => ?_)
          have hU := UI.start ((show SI M x D S S 0 M34 from ⟨e34.1, e34.2, hG, Back.start h14⟩).act h14 (by omega) e168 (sg_day hG (by omega) (Nat.zero_le 1)))
          obtain ⟨hX9, -, hG9, -⟩ := id hU
          have hS9 := hG9.1
          have dz : dayN (dayP (sP S) 0) ≠ 0 := by
            rw [Ne, dayN_S, day_sum hI]
            omega
          refine pw_if_le_n (q := 174) 211 C dL_lacks_171 (by decide) rfl (by omega) (fun g171 => absurd g171 (by omega)) (fun g171 => ?_)
          refine pw_aload_n (q := 175) (j := 0) C dL_lacks_174 rfl rfl rfl ?_
          refine pw_val (q := 178) (cr_v (j := iX10_daysLeft) C dL_lacks_175 lL_194 mX10_daysLeft (ro_mk (by decide) (by decide)) hX9.1 rfl (a_days (S := wA S (dayP (sP S) 0)) hX9 hS9) rfl rfl (Nat.le_of_ble_eq_true rfl) ⟨by omega, by omega⟩) rfl (fun M175 e175 => ?_)
          have hU1 := hU.heap e175
          have h149 := e175.1.m14
          refine pw_if_eq (q := 181) 211 C dL_lacks_178 (by decide) rfl (fun g178 => absurd g178 (days_nz dz)) (fun g178 => ?_)
          refine pw_iload (q := 183) C dL_lacks_181 rfl rfl ?_
          refine pw_if_ge (q := 186) 194 C dL_lacks_183 (by decide) rfl (fun g183 => absurd g183 (by decide +kernel)) (fun g183 => ?_)
          refine pw_aload_n (q := 187) (j := 0) C dL_lacks_186 rfl rfl rfl ?_
          refine pw_val (q := 190) (cr_v (j := iX10_daysLeft) C dL_lacks_187 lL_194 mX10_daysLeft (ro_mk (by decide) (by decide)) e175.1.1 rfl (a_daysN (S := wA S (dayP (sP S) 0)) e175.1 hS9 (show dayN (dayP (sP S) 0) < 100 by rw [day_full hI hv.2]; exact h1d) (day_full hI hv.2)) rfl rfl (Nat.le_of_ble_eq_true rfl) ⟨by omega, by omega⟩) rfl (fun M187 e187 => ?_)
          have hU2 := hU1.heap e187
          refine pw_iload_n (q := 191) (j := 3) C dL_lacks_190 rfl rfl rfl ?_
          refine pw_icmp_ne_n (q := 194) 211 C dL_lacks_191 (by decide) rfl (by omega) (by omega) (fun g191 => absurd g191 (by omega)) (fun g191 => ?_)
          refine pw_aload_n (q := 195) (j := 0) C dL_lacks_194 rfl rfl rfl ?_
          refine pw_bipush_n (q := 197) C 16 dL_lacks_195 (by decide +kernel) rfl ?_
          refine pw_iconst_n (q := 198) C 0 dL_lacks_197 (by decide +kernel) rfl ?_
          refine pw_iconst_n (q := 199) C 0 dL_lacks_198 (by decide +kernel) rfl ?_
          refine pw_iconst_n (q := 200) C 0 dL_lacks_199 (by decide +kernel) rfl ?_
          refine pw_iconst_n (q := 201) C 0 dL_lacks_200 (by decide +kernel) rfl ?_
          refine pw_val (q := 204) (cr_s (j := iL_call) C dL_lacks_201 lL_170 mL_call (ro_mk (by decide) (by decide))  (u_undo hU2) rfl rfl (Nat.le_of_ble_eq_true rfl) ⟨by omega, by omega⟩) rfl (fun M201 e201 => ?_)
          have hU0 := hU2.undo e201
          refine pw_if_lt (q := 207) 211 C dL_lacks_204 (by decide) rfl (fun g204 => absurd g204 (nI_pos (by omega))) (fun g204 => ?_)
          refine pw_iconst_n (q := 208) C 1 dL_lacks_207 (by decide +kernel) rfl ?_
          refine pw_goto (q := 0) 212 C dL_lacks_208 (by decide) ?_
          refine pw_and11 (q := 213) C dL_lacks_212 rfl ?_
          refine pw_istore (q := 215) C dL_lacks_213 rfl (by decide) rfl ?_
          refine pw_iload (q := 217) C dL_lacks_215 rfl rfl ?_
          exact pw_zret C dL_lacks_217 rfl (by first | decide +kernel | exact nar_bN _ | exact nar_01 (by omega)) ⟨by omega, by omega⟩ (RV.mk rfl (by unfold lacksS; rw [if_pos ⟨by omega, by omega, by omega⟩]; exact hU0.end))
        · refine pw_iload (q := 166) C dL_lacks_164 rfl rfl ?_
          refine pw_aload_n (q := 167) (j := 0) C dL_lacks_166 rfl rfl rfl ?_
          refine pw_iconst_n (q := 168) C 0 dL_lacks_167 (by decide +kernel) rfl ?_
          refine pw_val (q := 171) (cr_v (j := iX10_nextDay) C dL_lacks_168 lL_197 mX10_nextDay (ro_mk (by decide) (by decide)) e34.1.1 rfl (a_day e34.1 hS (Nat.zero_le 1)) rfl rfl (Nat.le_of_ble_eq_true rfl) ⟨by omega, by omega⟩) rfl (fun M168 e168 => ?_)
          have hU := UI.start ((show SI M x D S S 0 M34 from ⟨e34.1, e34.2, hG, Back.start h14⟩).act h14 (by omega) e168 (sg_day hG (by omega) (Nat.zero_le 1)))
          obtain ⟨hX9, -, hG9, -⟩ := id hU
          have hS9 := hG9.1
          have dz : dayN (dayP (sP S) 0) ≠ 0 := by
            rw [Ne, dayN_S, day_sum hI]
            omega
          refine pw_if_le_n (q := 174) 211 C dL_lacks_171 (by decide) rfl (by omega) (fun g171 => absurd g171 (by omega)) (fun g171 => ?_)
          refine pw_aload_n (q := 175) (j := 0) C dL_lacks_174 rfl rfl rfl ?_
          refine pw_val (q := 178) (cr_v (j := iX10_daysLeft) C dL_lacks_175 lL_194 mX10_daysLeft (ro_mk (by decide) (by decide)) hX9.1 rfl (a_days (S := wA S (dayP (sP S) 0)) hX9 hS9) rfl rfl (Nat.le_of_ble_eq_true rfl) ⟨by omega, by omega⟩) rfl (fun M175 e175 => ?_)
          have hU1 := hU.heap e175
          have h149 := e175.1.m14
          refine pw_if_eq (q := 181) 211 C dL_lacks_178 (by decide) rfl (fun g178 => absurd g178 (days_nz dz)) (fun g178 => ?_)
          refine pw_iload (q := 183) C dL_lacks_181 rfl rfl ?_
          refine pw_if_ge (q := 186) 194 C dL_lacks_183 (by decide) rfl (fun g183 => ?_) (fun g183 => absurd (nI_pos' (by omega)) g183)
          refine pw_aload_n (q := 195) (j := 0) C dL_lacks_194 rfl rfl rfl ?_
          refine pw_bipush_n (q := 197) C 16 dL_lacks_195 (by decide +kernel) rfl ?_
          refine pw_iconst_n (q := 198) C 0 dL_lacks_197 (by decide +kernel) rfl ?_
          refine pw_iconst_n (q := 199) C 0 dL_lacks_198 (by decide +kernel) rfl ?_
          refine pw_iconst_n (q := 200) C 0 dL_lacks_199 (by decide +kernel) rfl ?_
          refine pw_iconst_n (q := 201) C 0 dL_lacks_200 (by decide +kernel) rfl ?_
          refine pw_val (q := 204) (cr_s (j := iL_call) C dL_lacks_201 lL_170 mL_call (ro_mk (by decide) (by decide))  (u_undo hU1) rfl rfl (Nat.le_of_ble_eq_true rfl) ⟨by omega, by omega⟩) rfl (fun M201 e201 => ?_)
          have hU0 := hU1.undo e201
          refine pw_if_lt (q := 207) 211 C dL_lacks_204 (by decide) rfl (fun g204 => absurd g204 (nI_pos (by omega))) (fun g204 => ?_)
          refine pw_iconst_n (q := 208) C 1 dL_lacks_207 (by decide +kernel) rfl ?_
          refine pw_goto (q := 0) 212 C dL_lacks_208 (by decide) ?_
          refine pw_and11 (q := 213) C dL_lacks_212 rfl ?_
          refine pw_istore (q := 215) C dL_lacks_213 rfl (by decide) rfl ?_
          refine pw_iload (q := 217) C dL_lacks_215 rfl rfl ?_
          exact pw_zret C dL_lacks_217 rfl (by first | decide +kernel | exact nar_bN _ | exact nar_01 (by omega)) ⟨by omega, by omega⟩ (RV.mk rfl (by unfold lacksS; rw [if_pos ⟨by omega, by omega, by omega⟩]; exact hU0.end))
  · refine pw_aload_n (q := 29) (j := 0) C dL_lacks_28 rfl rfl rfl ?_
    refine pw_rd (q := 32) (cr_v (j := iX10_costLeft) C dL_lacks_29 lL_191 mX10_costLeft (ro_mk (by decide) (by decide)) hX.1 rfl (r_costLeft hX hS) rfl rfl (Nat.le_of_ble_eq_true rfl) ⟨by omega, by omega⟩) rfl ?_
    rw [q6]
    refine pw_istore_n (q := 33) (j := 2) C dL_lacks_32 rfl rfl (by decide) rfl ?_
    refine pw_aload_n (q := 34) (j := 0) C dL_lacks_33 rfl rfl rfl ?_
    refine pw_val (q := 37) (cr_v (j := iX10_daysLeft) C dL_lacks_34 lL_194 mX10_daysLeft (ro_mk (by decide) (by decide)) hX.1 rfl (a_daysU hX hS (by omega)) rfl rfl (Nat.le_of_ble_eq_true rfl) ⟨by omega, by omega⟩) rfl (fun M34 e34 => ?_)
    refine pw_istore_n (q := 38) (j := 3) C dL_lacks_37 rfl rfl (by decide) rfl ?_
    refine pw_iload_n (q := 39) (j := 1) C dL_lacks_38 rfl rfl rfl ?_
    refine pw_if_ne_n (q := 42) 46 C dL_lacks_39 (by decide) rfl (by omega) (fun g39 => ?_) (fun g39 => absurd g39 (by omega))
    refine pw_iconst_n (q := 47) C 0 dL_lacks_46 (by decide +kernel) rfl ?_
    refine pw_iload_n (q := 48) (j := 2) C dL_lacks_47 rfl rfl rfl ?_
    refine pw_if_ne_n (q := 51) 55 C dL_lacks_48 (by decide) rfl (by omega) (fun g48 => ?_) (fun g48 => absurd g48 (by omega))
    refine pw_iconst_n (q := 56) C 0 dL_lacks_55 (by decide +kernel) rfl ?_
    refine pw_icmp_ne_n (q := 59) 100 C dL_lacks_56 (by decide) rfl (by omega) (by omega) (fun g56 => absurd g56 (by omega)) (fun g56 => ?_)
    refine pw_iload_n (q := 60) (j := 1) C dL_lacks_59 rfl rfl rfl ?_
    refine pw_if_ne_n (q := 63) 67 C dL_lacks_60 (by decide) rfl (by omega) (fun g60 => ?_) (fun g60 => absurd g60 (by omega))
    refine pw_iconst_n (q := 68) C 0 dL_lacks_67 (by decide +kernel) rfl ?_
    refine pw_iload_n (q := 69) (j := 3) C dL_lacks_68 rfl rfl rfl ?_
    refine pw_if_ne (q := 72) 76 C dL_lacks_69 (by decide) rfl (fun g69 => ?_) (fun g69 => absurd g69 (by decide +kernel))
    refine pw_iconst_n (q := 77) C 0 dL_lacks_76 (by decide +kernel) rfl ?_
    refine pw_icmp_ne_n (q := 80) 100 C dL_lacks_77 (by decide) rfl (by omega) (by omega) (fun g77 => absurd g77 (by omega)) (fun g77 => ?_)
    refine pw_iload_n (q := 81) (j := 3) C dL_lacks_80 rfl rfl rfl ?_
    refine pw_bipush (q := 83) (v := (-9)) C dL_lacks_81 (by decide +kernel) rfl ?_
    refine pw_icmp_eq (q := 86) 96 C dL_lacks_83 (by decide) rfl (fun g83 => ?_) (fun g83 => absurd g83 (fun h => h rfl))
    refine pw_iconst_n (q := 97) C 1 dL_lacks_96 (by decide +kernel) rfl ?_
    refine pw_goto (q := 0) 101 C dL_lacks_97 (by decide) ?_
    refine pw_istore (q := 103) C dL_lacks_101 rfl (by decide) rfl ?_
    refine pw_iload_n (q := 104) (j := 3) C dL_lacks_103 rfl rfl rfl ?_
    refine pw_iconst_n (q := 105) C 1 dL_lacks_104 (by decide +kernel) rfl ?_
    refine pw_icmp_le (q := 108) 215 C dL_lacks_105 (by decide) rfl (fun g105 => ?_) (fun g105 => absurd g105 (fun h => h (by decide +kernel)))
    refine pw_iload (q := 217) C dL_lacks_215 rfl rfl ?_
    exact pw_zret C dL_lacks_217 rfl (by first | decide +kernel | exact nar_bN _ | exact nar_01 (by omega)) ⟨by omega, by omega⟩ (RV.mk rfl ⟨by unfold lacksS; rw [if_neg (by omega)]; exact e34.1, e34.2⟩)
