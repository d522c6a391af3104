/-! What a lodge of the law keeps beside Inv: work within its bounds, pence bounded by the actions, first marks. -/
def Fine (T : Nat) (P : Nat → Nat) : Prop := 2 ≤ P 5 ∧ 2 ≤ P 6 ∧ (∀ m, m < P 6 → P (26 + 4 * m + 2) ≤ P (26 + 4 * m + 1) ∧ (P 2 ≠ 0 → P (26 + 4 * m + 2) = 0) ∧ P (26 + 4 * m + 3) ≤ 100 * T) ∧ ∀ s, s < P 7 → P (50 + 6 * s + 4) = 0 → P (50 + 6 * s + 1) = P (50 + 6 * s + 5)
section
variable {P : Nat → Nat} {T : Nat}
theorem Fine.mono {T1 : Nat} (h : Fine T P) (ht : T ≤ T1) : Fine T1 P := ⟨h.1, h.2.1, fun m hm => ⟨(h.2.2.1 m hm).1, (h.2.2.1 m hm).2.1, Nat.le_trans (h.2.2.1 m hm).2.2 (Nat.mul_le_mul_left 100 ht)⟩, h.2.2.2⟩
theorem Fine.like {Q : Nat → Nat} (h : Fine T P) (h5 : Q 5 = P 5) (h6 : Q 6 = P 6) (h7 : Q 7 = P 7) (hM : ∀ m, m < P 6 → Q (26 + 4 * m + 2) ≤ Q (26 + 4 * m + 1) ∧ (Q 2 ≠ 0 → Q (26 + 4 * m + 2) = 0) ∧ Q (26 + 4 * m + 3) ≤ 100 * (T + 1)) (hS : ∀ s, s < P 7 → Q (50 + 6 * s + 4) = 0 → Q (50 + 6 * s + 1) = Q (50 + 6 * s + 5)) : Fine (T + 1) Q := ⟨by rw [h5]; exact h.1, by rw [h6]; exact h.2.1, fun m hm => hM m (by rw [h6] at hm; exact hm), fun s hs => hS s (by rw [h7] at hs; exact hs)⟩
theorem Fine.same {Q : Nat → Nat} (h : Fine T P) (h2 : Q 2 = P 2) (h5 : Q 5 = P 5) (h6 : Q 6 = P 6) (h7 : Q 7 = P 7) (hM : ∀ m j, m < P 6 → 1 ≤ j → j < 4 → Q (26 + 4 * m + j) = P (26 + 4 * m + j)) (hS : ∀ s j, s < P 7 → j < 6 → j ≠ 3 → Q (50 + 6 * s + j) = P (50 + 6 * s + j)) : Fine (T + 1) Q := by
  refine h.like h5 h6 h7 (fun m hm => ?_) (fun s hs => ?_)
  · rw [hM m 1 hm (by omega) (by omega), hM m 2 hm (by omega) (by omega), hM m 3 hm (by omega) (by omega), h2]
    have := h.2.2.1 m hm
    exact ⟨this.1, this.2.1, by omega⟩
  · rw [hS s 1 hs (by omega) (by omega), hS s 4 hs (by omega) (by omega), hS s 5 hs (by omega) (by omega)]
    exact h.2.2.2 s hs
theorem Fine.rate (hI : Inv P) (h : Fine T P) {m v : Nat} (hm : m < P 6) : Fine (T + 1) (updN P (26 + 4 * m) v) := by
  have hb := hI.b
  exact h.same (updN_ne (by omega)) (updN_ne (by omega)) (updN_ne (by omega)) (updN_ne (by omega)) (fun m1 j h1 h2 h3 => updN_ne (by omega)) (fun s j h1 h2 h3 => updN_ne (by omega))
theorem Fine.bound (h : Fine T P) {v : Nat} : Fine (T + 1) (updN P 0 v) := h.same (updN_ne (by omega)) (updN_ne (by omega)) (updN_ne (by omega)) (updN_ne (by omega)) (fun m1 j h1 h2 h3 => updN_ne (by omega)) (fun s j h1 h2 h3 => updN_ne (by omega))
theorem Fine.state (h : Fine T P) (hb : P 6 ≤ 6) {s st : Nat} : Fine (T + 1) (stateP P s st) := h.same (updN_ne (by omega)) (updN_ne (by omega)) (updN_ne (by omega)) (updN_ne (by omega)) (fun m1 j h1 h2 h3 => updN_ne (by omega)) (fun s j h1 h2 h3 => updN_ne (by omega))
theorem Fine.course (hI : Inv P) (h : Fine T P) {x y z : Nat} (h6 : P 5 < 6) : Fine (T + 1) (newCourseP P x y z) := by
  have hb := hI.b
  have e : ∀ k, k ≠ 5 → (k < 8 ∨ 26 ≤ k) → newCourseP P x y z k = P k := fun k h1 h2 => newCourse_out h1 (by omega)
  refine ⟨?_, by rw [e 6 (by omega) (by omega)]; exact h.2.1, fun m hm => ?_, fun s hs => ?_⟩
  · rw [newCourse_lo (by omega), updN_at]
    have := h.1
    omega
  · rw [e 6 (by omega) (by omega)] at hm
    rw [e 2 (by omega) (by omega), e (26 + 4 * m + 1) (by omega) (by omega), e (26 + 4 * m + 2) (by omega) (by omega), e (26 + 4 * m + 3) (by omega) (by omega)]
    have := h.2.2.1 m hm
    exact ⟨this.1, this.2.1, by omega⟩
  · rw [e 7 (by omega) (by omega)] at hs
    rw [e (50 + 6 * s + 1) (by omega) (by omega), e (50 + 6 * s + 4) (by omega) (by omega), e (50 + 6 * s + 5) (by omega) (by omega)]
    exact h.2.2.2 s hs
theorem Fine.mason (hI : Inv P) (h : Fine T P) {x y : Nat} (h6 : P 6 < 6) : Fine (T + 1) (newMasonP P x y) := by
  have hb := hI.b
  have e : ∀ k, k ≠ 6 → (k < 26 + 4 * P 6 ∨ 50 ≤ k) → newMasonP P x y k = P k := fun k h1 h2 => newMason_out h1 (by omega)
  obtain ⟨a0, a1, a2, a3⟩ := newMason_at (P := P) (x := x) (y := y)
  refine ⟨by rw [e 5 (by omega) (by omega)]; exact h.1, ?_, fun m hm => ?_, fun s hs => ?_⟩
  · rw [newMason_lo (by omega), updN_at]
    have := h.2.1
    omega
  · rw [newMason_lo (by omega), updN_at] at hm
    by_cases h1 : m = P 6
    · subst h1
      rw [a1, a2, a3]
      exact ⟨Nat.zero_le _, fun _ => rfl, Nat.zero_le _⟩
    · rw [e 2 (by omega) (by omega), e (26 + 4 * m + 1) (by omega) (by omega), e (26 + 4 * m + 2) (by omega) (by omega), e (26 + 4 * m + 3) (by omega) (by omega)]
      have := h.2.2.1 m (by omega)
      exact ⟨this.1, this.2.1, by omega⟩
  · rw [e 7 (by omega) (by omega)] at hs
    rw [e (50 + 6 * s + 1) (by omega) (by omega), e (50 + 6 * s + 4) (by omega) (by omega), e (50 + 6 * s + 5) (by omega) (by omega)]
    exact h.2.2.2 s hs
/-- a mason's work becomes less -/
theorem Fine.work (hI : Inv P) (h : Fine T P) {m v : Nat} (hm : m < P 6) : Fine T (updN P (26 + 4 * m + 2) (P (26 + 4 * m + 2) - v)) := by
  have hb := hI.b
  have e : ∀ k, k ≠ 26 + 4 * m + 2 → updN P (26 + 4 * m + 2) (P (26 + 4 * m + 2) - v) k = P k := fun k hk => updN_ne hk
  refine ⟨by rw [e 5 (by omega)]; exact h.1, by rw [e 6 (by omega)]; exact h.2.1, fun m1 hm1 => ?_, fun s hs => ?_⟩
  · rw [e 6 (by omega)] at hm1
    rw [e 2 (by omega), e (26 + 4 * m1 + 1) (by omega), e (26 + 4 * m1 + 3) (by omega)]
    have g := h.2.2.1 m1 hm1
    by_cases h1 : m1 = m
    · subst h1
      rw [updN_at]
      exact ⟨by omega, fun q => by have := g.2.1 q; omega, g.2.2⟩
    · rw [e (26 + 4 * m1 + 2) (by omega)]
      exact g
  · rw [e 7 (by omega)] at hs
    rw [e (50 + 6 * s + 1) (by omega), e (50 + 6 * s + 4) (by omega), e (50 + 6 * s + 5) (by omega)]
    exact h.2.2.2 s hs
theorem Fine.stone (hb : P 5 ≤ 6 ∧ P 6 ≤ 6 ∧ P 7 ≤ 24) (h : Fine T P) {m c f : Nat} : Fine (T + 1) (newStoneP P m c f) := by
  have e : ∀ k, k ≠ 7 → (k < 50 + 6 * P 7) → newStoneP P m c f k = P k := fun k h1 h2 => newStone_out h1 (by omega)
  obtain ⟨a0, a1, a2, a3, a4, a5⟩ := newStone_at (P := P) (m := m) (c := c) (f := f)
  refine ⟨by rw [e 5 (by omega) (by omega)]; exact h.1, by rw [e 6 (by omega) (by omega)]; exact h.2.1, fun m1 hm1 => ?_, fun s hs => ?_⟩
  · rw [e 6 (by omega) (by omega)] at hm1
    rw [e 2 (by omega) (by omega), e (26 + 4 * m1 + 1) (by omega) (by omega), e (26 + 4 * m1 + 2) (by omega) (by omega), e (26 + 4 * m1 + 3) (by omega) (by omega)]
    have := h.2.2.1 m1 hm1
    exact ⟨this.1, this.2.1, by omega⟩
  · rw [newStone_lo (by omega), updN_at] at hs
    by_cases h1 : s = P 7
    · subst h1
      rw [a1, a5]
      exact fun _ => rfl
    · rw [e (50 + 6 * s + 1) (by omega) (by omega), e (50 + 6 * s + 4) (by omega) (by omega), e (50 + 6 * s + 5) (by omega) (by omega)]
      exact h.2.2.2 s (by omega)
theorem Fine.cut (hI : Inv P) (h : Fine T P) {m c f : Nat} (hm : m < P 6) : Fine (T + 1) (cutP P m c f) := by
  have hb := hI.b
  unfold cutP
  refine Fine.stone ?_ (h.work hI hm)
  rw [updN_ne (by omega), updN_ne (by omega), updN_ne (by omega)]
  omega
theorem Fine.inspect (hI : Inv P) (h : Fine T P) {s : Nat} (hs : s < P 7) : Fine (T + 1) (inspectP P s) := by
  have hb := hI.b
  unfold inspectP
  split
  · exact h.state hb.2.2.2.1
  · have g := hI.s hs
    have hp := (price_le hI hs).2
    have e : ∀ k, k ≠ 50 + 6 * s + 3 → k ≠ 26 + 4 * P (50 + 6 * s + 1) + 3 → updN (stateP P s 1) (26 + 4 * P (50 + 6 * s + 1) + 3) (P (26 + 4 * P (50 + 6 * s + 1) + 3) + price P s) k = P k := fun k h1 h2 => (updN_ne h2).trans (updN_ne h1)
    refine h.like (e 5 (by omega) (by omega)) (e 6 (by omega) (by omega)) (e 7 (by omega) (by omega)) (fun m hm => ?_) (fun t ht => ?_)
    · rw [e 2 (by omega) (by omega), e (26 + 4 * m + 1) (by omega) (by omega), e (26 + 4 * m + 2) (by omega) (by omega)]
      have g := h.2.2.1 m hm
      refine ⟨g.1, g.2.1, ?_⟩
      by_cases h1 : m = P (50 + 6 * s + 1)
      · subst h1
        rw [updN_at]
        omega
      · rw [e (26 + 4 * m + 3) (by omega) (by omega)]
        omega
    · rw [e (50 + 6 * t + 1) (by omega) (by omega), e (50 + 6 * t + 4) (by omega) (by omega), e (50 + 6 * t + 5) (by omega) (by omega)]
      exact h.2.2.2 t ht
theorem Fine.recut (hI : Inv P) (h : Fine T P) {m s c : Nat} (hm : m < P 6) (hs : s < P 7) : Fine (T + 1) (recutP P m s c) := by
  have hb := hI.b
  have hw := h.work hI hm (v := (P (8 + 3 * c + 1) + 1) / 2)
  unfold recutP
  generalize P (26 + 4 * m + 2) - (P (8 + 3 * c + 1) + 1) / 2 = w at hw ⊢
  have e : ∀ k, (k < 50 + 6 * s ∨ 50 + 6 * s + 5 ≤ k) → updN (updN (updN (updN (updN (updN P (26 + 4 * m + 2) w) (50 + 6 * s) c) (50 + 6 * s + 1) m) (50 + 6 * s + 2) (recutF P s c)) (50 + 6 * s + 3) 0) (50 + 6 * s + 4) (P (50 + 6 * s + 4) + 1) k = updN P (26 + 4 * m + 2) w k := fun k hk => by
    rw [updN_ne (by omega), updN_ne (by omega), updN_ne (by omega), updN_ne (by omega), updN_ne (by omega)]
  have e7 : updN P (26 + 4 * m + 2) w 7 = P 7 := updN_ne (by omega)
  have e6 : updN P (26 + 4 * m + 2) w 6 = P 6 := updN_ne (by omega)
  refine hw.like (e 5 (by omega)) (e 6 (by omega)) (e 7 (by omega)) (fun m1 hm1 => ?_) (fun t ht => ?_)
  · rw [e6] at hm1
    rw [e 2 (by omega), e (26 + 4 * m1 + 1) (by omega), e (26 + 4 * m1 + 2) (by omega), e (26 + 4 * m1 + 3) (by omega)]
    have g := hw.2.2.1 m1 (by rw [e6]; exact hm1)
    exact ⟨g.1, g.2.1, by omega⟩
  · rw [e7] at ht
    by_cases h1 : t = s
    · subst h1
      intro h9
      rw [updN_at] at h9
      omega
    · rw [e (50 + 6 * t + 1) (by omega), e (50 + 6 * t + 4) (by omega), e (50 + 6 * t + 5) (by omega)]
      exact hw.2.2.2 t (by rw [e7]; exact ht)
theorem payP_at (k : Nat) (hk : k ≠ 3) : payP P k = payAt P (P 6) k := by
  unfold payP
  exact updN_ne hk
theorem payP_ne {k : Nat} (hk : k ≠ 3) (h : ¬ (26 ≤ k ∧ k < 26 + 4 * P 6 ∧ (k - 26) % 4 = 3)) : payP P k = P k := (payP_at k hk).trans (payAt_ne h)
theorem payP_owed {m : Nat} (hm : m < P 6) : payP P (26 + 4 * m + 3) = 0 := by
  rw [payP_at _ (by omega)]
  unfold payAt
  rw [if_pos (by omega)]
theorem Fine.pay (hI : Inv P) (h : Fine T P) : Fine (T + 1) (payP P) := by
  have hb := hI.b
  refine h.like (payP_ne (by omega) (by omega)) (payP_ne (by omega) (by omega)) (payP_ne (by omega) (by omega)) (fun m hm => ?_) (fun t ht => ?_)
  · rw [payP_ne (k := 2) (by omega) (by omega), payP_ne (k := 26 + 4 * m + 1) (by omega) (by omega), payP_ne (k := 26 + 4 * m + 2) (by omega) (by omega), payP_owed hm]
    have g := h.2.2.1 m hm
    exact ⟨g.1, g.2.1, Nat.zero_le _⟩
  · rw [payP_ne (k := 50 + 6 * t + 1) (by omega) (by omega), payP_ne (k := 50 + 6 * t + 4) (by omega) (by omega), payP_ne (k := 50 + 6 * t + 5) (by omega) (by omega)]
    exact h.2.2.2 t ht
theorem dayP_ne {fr k : Nat} (h0 : k ≠ 1 ∧ k ≠ 2 ∧ k ≠ 4) (h : ¬ (26 ≤ k ∧ k < 26 + 4 * P 6 ∧ ((k - 26) % 4 = 2 ∨ (k - 26) % 4 = 3))) : dayP P fr k = P k := by
  unfold dayP dayAt
  rw [if_neg (by omega), if_neg (by omega), if_neg (by omega), if_neg (by omega), if_neg (by omega)]
theorem dayP_work {fr m : Nat} (hm : m < P 6) : dayP P fr (26 + 4 * m + 2) = if fr = 1 then 0 else P (26 + 4 * m + 1) := by
  unfold dayP dayAt
  rw [if_neg (by omega), if_neg (by omega), if_neg (by omega), if_pos (by omega)]
  rfl
theorem dayP_owed {fr m : Nat} (hm : m < P 6) : dayP P fr (26 + 4 * m + 3) = P (26 + 4 * m + 3) + (if fr = 1 then 2 * P (26 + 4 * m) else 0) := by
  unfold dayP dayAt
  rw [if_neg (by omega), if_neg (by omega), if_neg (by omega), if_neg (by omega), if_pos (by omega)]
  rfl
theorem dayP_2 {fr : Nat} : dayP P fr 2 = fr := rfl
theorem Fine.day (hI : Inv P) (h : Fine T P) {fr : Nat} (hf : fr ≤ 1) : Fine (T + 1) (dayP P fr) := by
  have hb := hI.b
  refine h.like (dayP_ne (by omega) (by omega)) (dayP_ne (by omega) (by omega)) (dayP_ne (by omega) (by omega)) (fun m hm => ?_) (fun t ht => ?_)
  · rw [dayP_2, dayP_work hm, dayP_owed hm, dayP_ne (k := 26 + 4 * m + 1) (by omega) (by omega)]
    have g := h.2.2.1 m hm
    have g2 := hI.m hm
    refine ⟨?_, fun q => by rw [if_pos (by omega)], ?_⟩
    · split <;> omega
    · split <;> omega
  · rw [dayP_ne (k := 50 + 6 * t + 1) (by omega) (by omega), dayP_ne (k := 50 + 6 * t + 4) (by omega) (by omega), dayP_ne (k := 50 + 6 * t + 5) (by omega) (by omega)]
    exact h.2.2.2 t ht
theorem Fine.owed (h : Fine T P) : owedAll P ≤ P 6 * (100 * T) := sumN_le (fun m hm => (h.2.2.1 m hm).2.2)
end
/-- all pages of a state: sound and fine -/
def SG (D : Nat) (S : St) : Prop := SInv D S ∧ Fine D (sP S) ∧ (∀ j, j < sM S → Fine D (sH S j)) ∧ ∀ i, i < 2 → sB S i = 1 → Fine D (sK S i)
theorem SG.mono {D D1 : Nat} {S : St} (h : SG D S) (hd : D ≤ D1) : SG D1 S := ⟨h.1.mono hd, h.2.1.mono hd, fun j hj => (h.2.2.1 j hj).mono hd, fun i hi hb => (h.2.2.2 i hi hb).mono hd⟩
theorem SG.up {D : Nat} {S : St} (h : SG D S) : SG (D + 1) S := h.mono (Nat.le_succ D)
theorem SG.act {D : Nat} {S : St} (h : SG D S) {P : Nat → Nat} (hI : SInv (D + 1) (wA S P)) (hF : Fine (D + 1) P) : SG (D + 1) (wA S P) := by
  refine ⟨hI, hF, fun j hj => ?_, fun i hi hb => (h.2.2.2 i hi hb).mono (Nat.le_succ D)⟩
  have hj9 : j < min (sM S + 1) 14 := hj
  have hp := h.2.1.mono (Nat.le_succ D)
  have hh : ∀ j, j < sM S → Fine (D + 1) (sH S j) := fun j hj => (h.2.2.1 j hj).mono (Nat.le_succ D)
  show Fine (D + 1) (noteH (sM S) (sH S) (sP S) j)
  unfold noteH
  split
  · dsimp only
    split
    · exact hp
    · exact hh j (by omega)
  · dsimp only
    split
    · exact hp
    · exact hh (j + 1) (by omega)
theorem sg_addCourse {D : Nat} {S : St} (h : SG D S) (a b c : Int32) : SG (D + 1) (spAddCourse S a b c).2.2 := by
  have hs := sv_addCourse h.1 a b c
  revert hs
  unfold spAddCourse
  split
  · split
    · rename_i h5
      exact fun hs => h.act hs (h.2.1.course h.1.1.1 h5)
    · exact fun _ => h.up
  · exact fun _ => h.up
theorem sg_addMason {D : Nat} {S : St} (h : SG D S) (a b : Int32) : SG (D + 1) (spAddMason S a b).2.2 := by
  have hs := sv_addMason h.1 a b
  revert hs
  unfold spAddMason
  split
  · split
    · rename_i h5
      exact fun hs => h.act hs (h.2.1.mason h.1.1.1 h5)
    · exact fun _ => h.up
  · exact fun _ => h.up
theorem idx_lt {c : Int32} {R : Nat} (h : inI c R) (hR : R < 2147483648) : idx c < R := by
  obtain ⟨k, hk, rfl⟩ := inI_n h hR
  rw [idx_n (by omega)]
  exact hk
theorem sg_setRate {D : Nat} {S : St} (h : SG D S) (a b : Int32) : SG (D + 1) (spSetRate S a b).2.2 := by
  have hs := sv_setRate h.1 a b
  have hb := h.1.1.1.b
  revert hs
  unfold spSetRate
  split
  · rename_i h1
    split
    · exact fun hs => h.act hs (h.2.1.rate h.1.1.1 (idx_lt h1 (by omega)))
    · exact fun _ => h.up
  · exact fun _ => h.up
theorem sg_setBound {D : Nat} {S : St} (h : SG D S) (a : Int32) : SG (D + 1) (spSetBound S a).2.2 := by
  have hs := sv_setBound h.1 a
  revert hs
  unfold spSetBound
  split
  · exact fun hs => h.act hs h.2.1.bound
  · exact fun _ => h.up
theorem sg_cut {D : Nat} {S : St} (h : SG D S) (m c f : Int32) : SG (D + 1) (spCut S m c f).2.2 := by
  have hs := sv_cut h.1 m c f
  have hb := h.1.1.1.b
  revert hs
  unfold spCut
  split
  · rename_i h1
    split
    · split
      · exact fun hs => h.act hs (h.2.1.cut h.1.1.1 (idx_lt h1.1 (by omega)))
      · exact fun _ => h.up
    · exact fun _ => h.up
  · exact fun _ => h.up
theorem sg_inspect {D : Nat} {S : St} (h : SG D S) (s : Int32) : SG (D + 1) (spInspect S s).2.2 := by
  have hs := sv_inspect h.1 s
  have hb := h.1.1.1.b
  revert hs
  unfold spInspect
  split
  · rename_i h1
    split
    · exact fun hs => h.act hs (h.2.1.inspect h.1.1.1 (idx_lt h1 (by omega)))
    · exact fun _ => h.up
  · exact fun _ => h.up
theorem sg_recut {D : Nat} {S : St} (h : SG D S) (m s c : Int32) : SG (D + 1) (spRecut S m s c).2.2 := by
  have hs := sv_recut h.1 m s c
  have hb := h.1.1.1.b
  revert hs
  unfold spRecut
  split
  · rename_i h1
    split
    · exact fun hs => h.act hs (h.2.1.recut h.1.1.1 (idx_lt h1.1 (by omega)) (idx_lt h1.2.1 (by omega)))
    · exact fun _ => h.up
  · exact fun _ => h.up
theorem sg_scrap {D : Nat} {S : St} (h : SG D S) (s : Int32) : SG (D + 1) (spScrap S s).2.2 := by
  have hs := sv_scrap h.1 s
  have hb := h.1.1.1.b
  revert hs
  unfold spScrap
  split
  · split
    · exact fun hs => h.act hs (h.2.1.state hb.2.2.2.1)
    · exact fun _ => h.up
  · exact fun _ => h.up
theorem sg_set {D : Nat} {S : St} (h : SG D S) (s : Int32) : SG (D + 1) (spSet S s).2.2 := by
  have hs := sv_set h.1 s
  have hb := h.1.1.1.b
  revert hs
  unfold spSet
  split
  · split
    · exact fun hs => h.act hs (h.2.1.state hb.2.2.2.1)
    · exact fun _ => h.up
  · exact fun _ => h.up
theorem sg_pay {D : Nat} {S : St} (h : SG D S) : SG (D + 1) (wA S (payP (sP S))) := h.act (sv_pay h.1) (h.2.1.pay h.1.1.1)
theorem sg_day {D : Nat} {S : St} (h : SG D S) (hD : D < 90000) {fr : Nat} (hf : fr ≤ 1) : SG (D + 1) (wA S (dayP (sP S) fr)) := h.act (sv_day h.1 hD hf) (h.2.1.day h.1.1.1 hf)
theorem sg_undo {D : Nat} {S : St} (h : SG D S) : SG D (spUndo S).2.2 := by
  unfold spUndo
  split
  · exact h
  · obtain ⟨⟨a, b, c⟩, d, e, f⟩ := h
    exact ⟨⟨b _ (by omega), fun j hj => b j (Nat.lt_of_lt_of_le hj (Nat.sub_le _ _)), c⟩, e _ (by omega), fun j hj => e j (Nat.lt_of_lt_of_le hj (Nat.sub_le _ _)), f⟩
theorem sg_save {D : Nat} {S : St} (h : SG D S) (s : Int32) : SG (D + 1) (spSave S s).2.2 := by
  have hs := sv_save h.1 s
  revert hs
  unfold spSave
  split
  · refine fun hs => ⟨hs, h.up.2.1, h.up.2.2.1, fun i hi hb => ?_⟩
    show Fine (D + 1) (if i = idx s then sP S else sK S i)
    by_cases e : i = idx s
    · rw [if_pos e]; exact h.up.2.1
    · rw [if_neg e]
      have hb9 : updN (sB S) (idx s) 1 i = 1 := hb
      rw [updN_ne e] at hb9
      exact h.up.2.2.2 i hi hb9
  · exact fun _ => h.up
theorem sg_restore {D : Nat} {S : St} (h : SG D S) (s : Int32) : SG (D + 1) (spRestore S s).2.2 := by
  have hs := sv_restore h.1 s
  revert hs
  unfold spRestore
  split
  · rename_i h1
    split
    · rename_i h2
      refine fun hs => ⟨hs, ?_, fun j hj => absurd hj (Nat.not_lt_zero j), h.up.2.2.2⟩
      obtain ⟨k1, l1, u1, rfl⟩ := inW_n h1 (by omega) (by omega)
      rw [idx_n (by omega)] at h2
      show Fine (D + 1) (sK S (idx (nI k1)))
      rw [idx_n (by omega)]
      exact h.up.2.2.2 k1 (by omega) h2
    · exact fun _ => h.up
  · exact fun _ => h.up
/-! Actions and as many undos: K pushes in all, k of them still to be taken back. -/
def Back (k K : Nat) (S T : St) : Prop := sN T = sN S ∧ sT T = sT S ∧ sB T = sB S ∧ sK T = sK S ∧ sM T = min (sM S) (14 - K) + k ∧ (∀ j, j < min (sM S) (14 - K) → sH T j = sH S (j + (sM S - (14 - K)))) ∧ (if k = 0 then sP T = sP S else sH T (min (sM S) (14 - K)) = sP S)
def trim (K : Nat) (S : St) : St := (sN S, sT S, sP S, min (sM S) (14 - K), fun j => sH S (j + (sM S - (14 - K))), sB S, sK S)
theorem Back.start {S : St} (h : sM S ≤ 14) : Back 0 0 S S := ⟨rfl, rfl, rfl, rfl, by omega, fun j hj => by rw [show j + (sM S - (14 - 0)) = j by omega], by rw [if_pos rfl]⟩
theorem Back.push {k : Nat} {S T : St} {P : Nat → Nat} (h : Back k k S T) (hm : sM S ≤ 14) (hk : k < 14) : Back (k + 1) (k + 1) S (wA T P) := by
  obtain ⟨a, b, c, d, e, f, g⟩ := h
  refine ⟨a, b, c, d, ?_, fun j hj => ?_, ?_⟩
  · show min (sM T + 1) 14 = _
    omega
  · show noteH (sM T) (sH T) (sP T) j = _
    unfold noteH
    split
    · dsimp only
      rw [if_neg (by omega), f j (by omega)]
      congr 1
      omega
    · dsimp only
      rw [if_neg (by omega), f (j + 1) (by omega)]
      congr 1
      omega
  · rw [if_neg (by omega)]
    show noteH (sM T) (sH T) (sP T) _ = _
    unfold noteH
    by_cases h0 : k = 0
    · rw [if_pos h0] at g
      split
      · dsimp only
        rw [if_pos (by omega), g]
      · dsimp only
        rw [if_pos (by omega), g]
    · rw [if_neg h0] at g
      split
      · dsimp only
        rw [if_neg (by omega), show min (sM S) (14 - (k + 1)) = min (sM S) (14 - k) by omega]
        exact g
      · dsimp only
        rw [if_neg (by omega), show min (sM S) (14 - (k + 1)) + 1 = min (sM S) (14 - k) by omega]
        exact g
theorem Back.undo {k K : Nat} {S T : St} (h : Back (k + 1) K S T) : (spUndo T).1 = 0 ∧ (spUndo T).2.1 = nI (sM T - 1) ∧ Back k K S (spUndo T).2.2 := by
  obtain ⟨a, b, c, d, e, f, g⟩ := h
  unfold spUndo
  rw [if_neg (by omega)]
  refine ⟨rfl, rfl, a, b, c, d, ?_, f, ?_⟩
  · show sM T - 1 = _
    omega
  · rw [if_neg (by omega)] at g
    by_cases h0 : k = 0
    · rw [if_pos h0]
      show sH T (sM T - 1) = _
      rw [show sM T - 1 = min (sM S) (14 - K) by omega]
      exact g
    · rw [if_neg h0]
      exact g
theorem Back.end {K : Nat} {S T : St} {M : PH} {x : Nat} (h : Back 0 K S T) (hX : RepX M x T) : RepX M x (trim K S) := by
  obtain ⟨a, b, c, d, e, f, g⟩ := h
  rw [if_pos rfl] at g
  obtain ⟨x0, x1, x2, x3, x4, ⟨nx, r0, r1, r2, r3, r4, r5⟩, x6, x7⟩ := hX
  refine ⟨x0, x1, ?_, ?_, x4, ⟨nx, ?_, r1, r2, ?_, r4, ?_⟩, ?_, x7⟩
  · show TextAt M (x + 1) (x + 2) (sN S) (sT S)
    rw [← a, ← b]; exact x2
  · show LodgeAt M (x + 3) (sP S)
    rw [← g]; exact x3
  · show M.2 (x + 17) = some (.inr (2, [.ref (x + 17 + 1), .int (nI nx), .int (nI (min (sM S) (14 - K)))]))
    rw [show min (sM S) (14 - K) = sM T by omega]; exact r0
  · show min (sM S) (14 - K) ≤ 14
    omega
  · intro j hj
    have hj9 : j < min (sM S) (14 - K) := hj
    show LodgeAt M (x + 17 + 2 + 7 * ((nx + 14 - min (sM S) (14 - K) + j) % 14)) (sH S (j + (sM S - (14 - K))))
    rw [← f j hj9, show min (sM S) (14 - K) = sM T by omega]
    exact r5 j (by omega)
  · show ShelfAt M (x + 117) (sB S) (sK S)
    rw [← c, ← d]; exact x6
theorem SG.trim {D K : Nat} {S : St} (h : SG D S) : SG D (trim K S) := by
  obtain ⟨⟨a, b, c⟩, d, e, f⟩ := h
  have hj : ∀ j, j < min (sM S) (14 - K) → j + (sM S - (14 - K)) < sM S := fun j hj => by omega
  exact ⟨⟨a, fun j h => b _ (hj j h), c⟩, d, fun j h => e _ (hj j h), f⟩
theorem RepX.m14 {M : PH} {x : Nat} {S : St} (h : RepX M x S) : sM S ≤ 14 := by
  obtain ⟨x0, x1, x2, x3, x4, ⟨nx, r0, r1, r2, r3, r4, r5⟩, x6, x7⟩ := h
  exact r3
