/-! What the numbers of a lodge add up to. -/
theorem cnt_st5 {f : Nat → Nat} : ∀ {n : Nat}, (∀ s, s < n → f s ≤ 4) → cnt (fun s => f s = 0) n + cnt (fun s => f s = 1) n + cnt (fun s => f s = 2) n + cnt (fun s => f s = 3) n + cnt (fun s => f s = 4) n = n
  | 0, _ => rfl
  | n + 1, h => by
    have h1 := cnt_st5 (n := n) (fun s hs => h s (by omega))
    have h2 := h n (by omega)
    rcases (show f n = 0 ∨ f n = 1 ∨ f n = 2 ∨ f n = 3 ∨ f n = 4 by omega) with e | e | e | e | e <;> simp [cnt, e] <;> omega
theorem sumN_add (f g : Nat → Nat) : ∀ n, sumN (fun k => f k + g k) n = sumN f n + sumN g n
  | 0 => rfl
  | n + 1 => by
    simp only [sumN]
    rw [sumN_add f g n]
    omega
theorem sumN_0 : ∀ n, sumN (fun _ => 0) n = 0
  | 0 => rfl
  | n + 1 => by rw [sumN, sumN_0 n]
theorem sumN_one (a v : Nat) : ∀ C, sumN (fun c => if a = c then v else 0) C = if a < C then v else 0
  | 0 => by simp [sumN]
  | C + 1 => by
    rw [sumN, sumN_one a v C]
    by_cases h : a < C
    · rw [if_pos h, if_neg (by omega), if_pos (by omega)]; omega
    · rw [if_neg h]
      by_cases e : a = C
      · rw [if_pos e, if_pos (by omega)]; omega
      · rw [if_neg e, if_neg (by omega)]
theorem sumN_cnt {f : Nat → Nat} {q : Nat → Prop} [DecidablePred q] {C : Nat} : ∀ {n : Nat}, (∀ s, s < n → f s < C) → sumN (fun c => cnt (fun s => f s = c ∧ q s) n) C = cnt q n
  | 0, _ => by
    simp only [cnt]
    exact sumN_0 C
  | n + 1, h => by
    have h1 := sumN_cnt (q := q) (n := n) (fun s hs => h s (by omega))
    have h2 := h n (by omega)
    have e : ∀ c, cnt (fun s => f s = c ∧ q s) (n + 1) = cnt (fun s => f s = c ∧ q s) n + (if f n = c then (if q n then 1 else 0) else 0) := fun c => by
      rw [cnt]
      congr 1
      by_cases a : f n = c <;> by_cases b : q n <;> simp [a, b]
    rw [sumN_cong (fun c _ => e c), sumN_add, h1, sumN_one, if_pos h2, cnt]
/-- one term less by one -/
theorem sumN_dec {f g : Nat → Nat} {a : Nat} (hne : ∀ k, k ≠ a → f k = g k) (ha : f a = g a + 1) : ∀ {n : Nat}, a < n → sumN f n = sumN g n + 1
  | 0, h => absurd h (Nat.not_lt_zero a)
  | n + 1, h => by
    by_cases e : a = n
    · subst e
      rw [sumN, sumN, ha, sumN_cong (fun k hk => hne k (by omega))]
      omega
    · have h1 := sumN_dec hne ha (n := n) (by omega)
      rw [sumN, sumN, h1, hne n (by omega)]
      omega
theorem sumN_pos {f : Nat → Nat} : ∀ {n : Nat}, 0 < sumN f n → ∃ k, k < n ∧ 0 < f k
  | 0, h => absurd h (Nat.lt_irrefl 0)
  | n + 1, h => by
    rw [sumN] at h
    by_cases e : 0 < f n
    · exact ⟨n, by omega, e⟩
    · obtain ⟨k, hk, hf⟩ := sumN_pos (n := n) (f := f) (by omega)
      exact ⟨k, by omega, hf⟩
theorem sumN_ge {f : Nat → Nat} {k : Nat} : ∀ {n : Nat}, k < n → f k ≤ sumN f n
  | 0, h => absurd h (Nat.not_lt_zero k)
  | n + 1, h => by
    rw [sumN]
    by_cases e : k = n
    · subst e; omega
    · have := sumN_ge (f := f) (k := k) (n := n) (by omega)
      omega
theorem cnt_some {p : Nat → Prop} [DecidablePred p] {k : Nat} (hp : p k) : ∀ {n : Nat}, k < n → 0 < cnt p n
  | 0, h => absurd h (Nat.not_lt_zero k)
  | n + 1, h => by
    rw [cnt]
    by_cases e : k = n
    · subst e; rw [if_pos hp]; omega
    · have := cnt_some hp (n := n) (by omega)
      omega
theorem cnt_none {p : Nat → Prop} [DecidablePred p] : ∀ {n : Nat}, (∀ k, k < n → ¬ p k) → cnt p n = 0
  | 0, _ => rfl
  | n + 1, h => by
    rw [cnt_no (h n (by omega)), cnt_none (fun k hk => h k (by omega))]
section
variable {P : Nat → Nat}
theorem num_c (hI : Inv P) (st : Nat) : sumN (fun c => cntC P c st) (P 5) = cntS P st := by
  unfold cntC cntS
  exact sumN_cnt (fun s hs => (hI.s hs).1)
theorem num_m (hI : Inv P) (st : Nat) : sumN (fun m => cntM P m st) (P 6) = cntS P st := by
  unfold cntM cntS
  exact sumN_cnt (fun s hs => (hI.s hs).2.1)
theorem num_all (hI : Inv P) : cntS P 0 + cntS P 1 + cntS P 2 + cntS P 3 + cntS P 4 = P 7 := cnt_st5 (f := fun s => P (50 + 6 * s + 3)) (fun s hs => (hI.s hs).2.2.2.1)
theorem num_bad (hI : Inv P) : sumN (fun m => cntM P m 2 + cntM P m 4) (P 6) = cntS P 2 + cntS P 4 := by rw [sumN_add, num_m hI, num_m hI]
theorem num_by (hI : Inv P) : sumN (fun c => cntC P c 3 + cntC P c 0 + cntC P c 2) (P 5) = cntS P 3 + cntS P 0 + cntS P 2 := by rw [sumN_add (fun c => cntC P c 3 + cntC P c 0), sumN_add, num_c hI, num_c hI, num_c hI]
theorem compl_lt (hI : Inv P) {c : Nat} (h : c < compl P) : cntC P c 3 = P (8 + 3 * c + 2) := by
  have h1 := compl_le P
  have h2 := (hI.w c (by omega)).1
  have h3 := Decidable.not_not.mp (fst_no (p := fun c => ¬ P (8 + 3 * c + 2) ≤ cntC P c 3) (n := P 5) (k := c) h)
  omega
theorem compl_at (h : compl P < P 5) : cntC P (compl P) 3 < P (8 + 3 * compl P + 2) := Nat.lt_of_not_le (fst_yes h)
theorem compl_gt (hI : Inv P) {c : Nat} (h : compl P < c) (hc : c < P 5) : cntC P c 3 = 0 := (hI.w (compl P) (by omega)).2 (compl_at (by omega)) c h hc
theorem compl_iff (hI : Inv P) {c : Nat} (hc : c < P 5) : cntC P c 3 = P (8 + 3 * c + 2) ↔ c < compl P := by
  constructor
  · intro h
    by_cases h1 : c < compl P
    · exact h1
    · by_cases h2 : c = compl P
      · subst h2
        have := compl_at hc
        omega
      · have h3 := compl_gt hI (c := c) (by omega) hc
        have h4 := hI.c hc
        omega
  · exact compl_lt hI
theorem why_z {s : Nat} : why P s = 0 ↔ P (50 + 6 * s + 3) = 1 ∧ P 2 = 0 ∧ P (50 + 6 * s) = compl P := by
  constructor
  · exact why_0
  · rintro ⟨h1, h2, h3⟩
    unfold why
    rw [if_neg (by omega), if_neg (by omega), if_neg (by omega), if_neg (by omega)]
/-- to set a stone: one less can be set -/
theorem set_cnt3 {s : Nat} (hI : Inv P) (hs : s < P 7) (hy : why P s = 0) : cntC (stateP P s 3) (P (50 + 6 * s)) 3 = cntC P (P (50 + 6 * s)) 3 + 1 ∧ cntC P (P (50 + 6 * s)) 1 = cntC (stateP P s 3) (P (50 + 6 * s)) 1 + 1 ∧ ∀ c, c ≠ P (50 + 6 * s) → ∀ st, cntC (stateP P s 3) c st = cntC P c st := by
  have hb := hI.b
  obtain ⟨y1, y2, y3⟩ := why_0 hy
  have e : ∀ k, k ≠ 50 + 6 * s + 3 → stateP P s 3 k = P k := fun k h => updN_ne h
  have e3 : stateP P s 3 (50 + 6 * s + 3) = 3 := updN_at _ _ _
  refine ⟨?_, ?_, fun c hc st => ?_⟩
  · unfold cntC
    rw [e 7 (by omega)]
    refine cnt_one (s := s) (fun q => by omega) ⟨by rw [e _ (by omega)], e3⟩ (fun k hk => ?_) hs
    rw [e (50 + 6 * k) (by omega), e (50 + 6 * k + 3) (by omega)]
  · unfold cntC
    rw [e 7 (by omega)]
    refine cnt_one (s := s) (fun q => by omega) ⟨rfl, y1⟩ (fun k hk => ?_) hs
    rw [e (50 + 6 * k) (by omega), e (50 + 6 * k + 3) (by omega)]
  · refine cntC_cong (e 7 (by omega)) (fun k hk => ?_)
    by_cases h : k = s
    · subst h
      rw [e (50 + 6 * k) (by omega)]
      exact ⟨fun q => absurd q.1.symm hc, fun q => absurd q.1.symm hc⟩
    · rw [e _ (by omega), e _ (by omega)]
theorem set_can {s : Nat} (hI : Inv P) (hs : s < P 7) (hy : why P s = 0) : canSetN P = canSetN (stateP P s 3) + 1 := by
  have hb := hI.b
  obtain ⟨y1, y2, y3⟩ := why_0 hy
  obtain ⟨c1, c2, c3⟩ := set_cnt3 hI hs hy
  have g := hI.s hs
  have e : ∀ k, k ≠ 50 + 6 * s + 3 → stateP P s 3 k = P k := fun k h => updN_ne h
  have hk : compl P < P 5 := by rw [← y3]; exact g.1
  have ho := compl_at hk
  rw [← y3] at ho
  have o1 : openC P (P (50 + 6 * s)) = openC (stateP P s 3) (P (50 + 6 * s)) + 1 := by
    unfold openC
    rw [e _ (by omega), c1]
    omega
  have o2 : ∀ c, c < P 5 → c ≠ P (50 + 6 * s) → openC P c = openC (stateP P s 3) c := fun c hc h => by
    unfold openC
    rw [e _ (by omega), c3 c h]
  have hf : fst (fun c => cntC (stateP P s 3) c 1 < openC (stateP P s 3) c) (P 5) = fst (fun c => cntC P c 1 < openC P c) (P 5) := fst_cong (fun c hc => by
    by_cases h : c = P (50 + 6 * s)
    · subst h
      omega
    · rw [c3 c h, o2 c hc h])
  have hle : P (50 + 6 * s) ≤ fst (fun c => cntC P c 1 < openC P c) (P 5) := by
    refine Nat.not_lt.mp (fun h => ?_)
    have h1 := fst_yes (p := fun c => cntC P c 1 < openC P c) (n := P 5) (by omega)
    have h2 := compl_lt hI (c := fst (fun c => cntC P c 1 < openC P c) (P 5)) (by omega)
    unfold openC at h1
    unfold openC at h2
    omega
  unfold canSetN
  rw [if_neg (by omega), if_neg (by rw [e 2 (by omega)]; omega), e 5 (by omega), hf]
  have hn : min (fst (fun c => cntC P c 1 < openC P c) (P 5) + 1) (P 5) ≤ P 5 := Nat.min_le_right _ _
  have ha : P (50 + 6 * s) < min (fst (fun c => cntC P c 1 < openC P c) (P 5) + 1) (P 5) := by omega
  generalize min (fst (fun c => cntC P c 1 < openC P c) (P 5) + 1) (P 5) = n at hn ha ⊢
  have hx : sumN (fun c => min (openC P c) (cntC P c 1)) n = sumN (fun c => if c < n then min (openC P c) (cntC P c 1) else 0) n := sumN_cong (fun k hk => by rw [if_pos hk])
  have hy9 : sumN (fun c => min (openC (stateP P s 3) c) (cntC (stateP P s 3) c 1)) n = sumN (fun c => if c < n then min (openC (stateP P s 3) c) (cntC (stateP P s 3) c 1) else 0) n := sumN_cong (fun k hk => by rw [if_pos hk])
  rw [hx, hy9]
  refine sumN_dec (a := P (50 + 6 * s)) (fun k hk => ?_) ?_ ha
  · by_cases h : k < n
    · rw [if_pos h, if_pos h, c3 k hk, o2 k (by omega) hk]
    · rw [if_neg h, if_neg h]
  · rw [if_pos ha, if_pos ha]
    omega
theorem can_pos (hI : Inv P) (h : 0 < canSetN P) : ∃ s, s < P 7 ∧ why P s = 0 := by
  unfold canSetN at h
  split at h
  · exact absurd h (Nat.lt_irrefl 0)
  · rename_i h2
    obtain ⟨c, hc, h0⟩ := sumN_pos h
    have hc5 : c < P 5 := by omega
    have hj : c ≤ fst (fun c => cntC P c 1 < openC P c) (P 5) := by omega
    have ho : 0 < openC P c := by omega
    have hle : compl P ≤ c := Nat.not_lt.mp (fun h => by
      have h9 := compl_lt hI h
      unfold openC at ho
      omega)
    have h1 : 0 < cntC P (compl P) 1 := by
      by_cases e : c = compl P
      · rw [← e]; omega
      · have h4 := fst_no (p := fun c => cntC P c 1 < openC P c) (n := P 5) (k := compl P) (by omega)
        have h5 := compl_at (P := P) (by omega)
        unfold openC at h4
        omega
    obtain ⟨s, hs, h6, h7⟩ := cnt_pos h1
    exact ⟨s, hs, why_z.mpr ⟨h7, by omega, h6⟩⟩
theorem can_0 (hI : Inv P) (h : ∀ s, s < P 7 → why P s ≠ 0) : canSetN P = 0 := by
  refine Nat.eq_zero_of_not_pos (fun h1 => ?_)
  obtain ⟨s, hs, hy⟩ := can_pos hI h1
  exact h s hs hy
end
