/-! What stays true of a lodge's numbers. -/
theorem cntC_cong {P Q : Nat → Nat} {c st : Nat} (h7 : Q 7 = P 7) (h : ∀ s, s < P 7 → ((Q (50 + 6 * s) = c ∧ Q (50 + 6 * s + 3) = st) ↔ (P (50 + 6 * s) = c ∧ P (50 + 6 * s + 3) = st))) : cntC Q c st = cntC P c st := by
  unfold cntC
  rw [h7]
  exact cnt_cong h
theorem wall_cong {P Q : Nat → Nat} (hw : wallP P) (h5 : Q 5 = P 5) (hn : ∀ c, c < P 5 → Q (8 + 3 * c + 2) = P (8 + 3 * c + 2)) (hc : ∀ c, c < P 5 → cntC Q c 3 = cntC P c 3) : wallP Q := by
  intro c h1
  rw [h5] at h1
  obtain ⟨g1, g2⟩ := hw c h1
  refine ⟨by rw [hc c h1, hn c h1]; exact g1, fun h2 d h3 h4 => ?_⟩
  rw [h5] at h4
  rw [hc c h1, hn c h1] at h2
  rw [hc d h4]
  exact g2 h2 d h3 h4
/-- a row that differs in one mason's or stone's numbers, or its own -/
theorem Inv.upd {P : Nat → Nat} (hI : Inv P) {k v : Nat} (hk : k ≠ 5 ∧ k ≠ 6 ∧ k ≠ 7)
    (h0 : k = 0 → v ≤ 9) (h1 : k = 1 → v < 100000) (h2 : k = 2 → v ≤ 1) (hc : ∀ c, c < P 5 → k < 8 + 3 * c ∨ 8 + 3 * c + 3 ≤ k)
    (hm : ∀ m, m < P 6 → (k = 26 + 4 * m → 1 ≤ v ∧ v ≤ 9) ∧ (k = 26 + 4 * m + 1 → 1 ≤ v ∧ v ≤ 12) ∧ (k = 26 + 4 * m + 2 → v ≤ 12))
    (hs : ∀ s, s < P 7 → k ≠ 50 + 6 * s ∧ (k = 50 + 6 * s + 1 → v < P 6) ∧ (k = 50 + 6 * s + 2 → v ≤ 9) ∧ k ≠ 50 + 6 * s + 3 ∧ k ≠ 50 + 6 * s + 4 ∧ k ≠ 50 + 6 * s + 5) : Inv (updN P k v) := by
  obtain ⟨b0, b2, b5, b6, b7, b1⟩ := hI.b
  have e5 : updN P k v 5 = P 5 := updN_ne (by omega)
  have e6 : updN P k v 6 = P 6 := updN_ne (by omega)
  have e7 : updN P k v 7 = P 7 := updN_ne (by omega)
  refine ⟨?_, ?_, by rw [e5]; exact b5, by rw [e6]; exact b6, by rw [e7]; exact b7, ?_, fun c hc' => ?_, fun m hm' => ?_, fun s hs' => ?_, ?_⟩
  · by_cases e : k = 0
    · subst e; rw [updN_at]; exact h0 rfl
    · rw [updN_ne (by omega)]; exact b0
  · by_cases e : k = 2
    · subst e; rw [updN_at]; exact h2 rfl
    · rw [updN_ne (by omega)]; exact b2
  · by_cases e : k = 1
    · subst e; rw [updN_at]; exact h1 rfl
    · rw [updN_ne (by omega)]; exact b1
  · rw [e5] at hc'
    have g := hc c hc'
    rw [updN_ne (by omega), updN_ne (by omega), updN_ne (by omega)]
    exact hI.c hc'
  · rw [e6] at hm'
    obtain ⟨g1, g2, g3⟩ := hm m hm'
    have g := hI.m hm'
    refine ⟨?_, ?_, ?_, ?_, ?_⟩
    · by_cases e : k = 26 + 4 * m
      · have := g1 e; subst e; rw [updN_at]; exact this.1
      · rw [updN_ne (by omega)]; exact g.1
    · by_cases e : k = 26 + 4 * m
      · have := g1 e; subst e; rw [updN_at]; exact this.2
      · rw [updN_ne (by omega)]; exact g.2.1
    · by_cases e : k = 26 + 4 * m + 1
      · have := g2 e; subst e; rw [updN_at]; exact this.1
      · rw [updN_ne (by omega)]; exact g.2.2.1
    · by_cases e : k = 26 + 4 * m + 1
      · have := g2 e; subst e; rw [updN_at]; exact this.2
      · rw [updN_ne (by omega)]; exact g.2.2.2.1
    · by_cases e : k = 26 + 4 * m + 2
      · have := g3 e; subst e; rw [updN_at]; exact this
      · rw [updN_ne (by omega)]; exact g.2.2.2.2
  · rw [e7] at hs'
    obtain ⟨g0, g1, g2, g3, g4, g5⟩ := hs s hs'
    have g := hI.s hs'
    have gc := hc _ g.1
    rw [e5, e6, updN_ne (show 50 + 6 * s ≠ k by omega), updN_ne (show 50 + 6 * s + 3 ≠ k by omega), updN_ne (show 50 + 6 * s + 4 ≠ k by omega), updN_ne (show 50 + 6 * s + 5 ≠ k by omega), updN_ne (show 8 + 3 * P (50 + 6 * s) ≠ k by omega)]
    refine ⟨g.1, ?_, ?_, g.2.2.2.1, g.2.2.2.2.1, g.2.2.2.2.2⟩
    · by_cases e : k = 50 + 6 * s + 1
      · have := g1 e; subst e; rw [updN_at]; exact this
      · rw [updN_ne (by omega)]; exact g.2.1
    · by_cases e : k = 50 + 6 * s + 2
      · have := g2 e; subst e; rw [updN_at]; exact this
      · rw [updN_ne (by omega)]; exact g.2.2.1
  · refine wall_cong hI.w e5 (fun c hc' => ?_) (fun c hc' => cntC_cong e7 (fun s hs' => ?_))
    · have g := hc c hc'
      exact updN_ne (by omega)
    · obtain ⟨g0, g1, g2, g3, g4, g5⟩ := hs s hs'
      rw [updN_ne (show 50 + 6 * s ≠ k by omega), updN_ne (show 50 + 6 * s + 3 ≠ k by omega)]
theorem Inv.bound {P : Nat → Nat} (hI : Inv P) {b : Nat} (hb : b ≤ 9) : Inv (updN P 0 b) := by
  have h := hI.b
  exact hI.upd (by omega) (fun _ => hb) (by omega) (by omega) (fun c hc => by omega) (fun m hm => by omega) (fun s hs => by omega)
theorem Inv.mas {P : Nat → Nat} (hI : Inv P) {m j v : Nat} (hm : m < P 6) (hj : j < 4) (h0 : j = 0 → 1 ≤ v ∧ v ≤ 9) (h1 : j = 1 → 1 ≤ v ∧ v ≤ 12) (h2 : j = 2 → v ≤ 12) : Inv (updN P (26 + 4 * m + j) v) := by
  have h := hI.b
  refine hI.upd (by omega) (by omega) (by omega) (by omega) (fun c hc => by omega) (fun m' hm' => ⟨fun e => h0 (by omega), fun e => h1 (by omega), fun e => h2 (by omega)⟩) (fun s hs => by omega)
/-- a stone whose state wasn't 'set' gets another -/
theorem Inv.state {P : Nat → Nat} (hI : Inv P) {s st : Nat} (hs : s < P 7) (hst : st ≤ 4) (hw : wallP (stateP P s st)) : Inv (stateP P s st) := by
  obtain ⟨b0, b2, b5, b6, b7, b1⟩ := hI.b
  have e : ∀ k, k ≠ 50 + 6 * s + 3 → stateP P s st k = P k := fun k h => updN_ne h
  have e5 := e 5 (by omega)
  have e6 := e 6 (by omega)
  have e7 := e 7 (by omega)
  refine ⟨by rw [e 0 (by omega)]; exact b0, by rw [e 2 (by omega)]; exact b2, by rw [e5]; exact b5, by rw [e6]; exact b6, by rw [e7]; exact b7, by rw [e 1 (by omega)]; exact b1, fun c hc => ?_, fun m hm => ?_, fun s' hs' => ?_, hw⟩
  · rw [e5] at hc
    rw [e _ (by omega), e _ (by omega), e _ (by omega)]; exact hI.c hc
  · rw [e6] at hm
    rw [e _ (by omega), e _ (by omega), e _ (by omega)]; exact hI.m hm
  · rw [e7] at hs'
    have g := hI.s hs'
    rw [e5, e6, e (50 + 6 * s') (by omega), e (50 + 6 * s' + 1) (by omega), e (50 + 6 * s' + 2) (by omega), e (50 + 6 * s' + 4) (by omega), e (50 + 6 * s' + 5) (by omega), e (8 + 3 * P (50 + 6 * s')) (by omega)]
    refine ⟨g.1, g.2.1, g.2.2.1, ?_, g.2.2.2.2⟩
    by_cases h : s' = s
    · subst h; show updN P _ st _ ≤ 4; rw [updN_at]; exact hst
    · rw [e _ (by omega)]; exact g.2.2.2.1
theorem wall_state {P : Nat → Nat} (hI : Inv P) {s st : Nat} (hs : s < P 7) (h3 : P (50 + 6 * s + 3) ≠ 3) (hst : st ≠ 3) : wallP (stateP P s st) := by
  have hb := hI.b
  have e : ∀ k, k ≠ 50 + 6 * s + 3 → stateP P s st k = P k := fun k h => updN_ne h
  refine wall_cong hI.w (e 5 (by omega)) (fun c hc => e _ (by omega)) (fun c hc => cntC_cong (e 7 (by omega)) (fun s' hs' => ?_))
  by_cases h : s' = s
  · subst h
    have e3 : stateP P s' st (50 + 6 * s' + 3) = st := updN_at _ _ _
    rw [e3]
    exact ⟨fun q => absurd q.2 hst, fun q => absurd q.2 h3⟩
  · rw [e _ (by omega), e _ (by omega)]
theorem why_0 {P : Nat → Nat} {s : Nat} (h : why P s = 0) : P (50 + 6 * s + 3) = 1 ∧ P 2 = 0 ∧ P (50 + 6 * s) = compl P := by
  unfold why at h
  split at h
  · omega
  · split at h
    · omega
    · split at h
      · omega
      · split at h
        · omega
        · omega
theorem cnt_one {p q : Nat → Prop} [DecidablePred p] [DecidablePred q] {s : Nat} (hp : ¬ p s) (hq : q s) (h : ∀ k, k ≠ s → (p k ↔ q k)) : ∀ {n : Nat}, s < n → cnt q n = cnt p n + 1
  | 0, hs => absurd hs (Nat.not_lt_zero s)
  | n + 1, hs => by
    by_cases e : s = n
    · subst e
      rw [cnt_yes hq, cnt_no hp, cnt_cong (fun k hk => (h k (by omega)).symm)]
    · have h1 := cnt_one hp hq h (n := n) (by omega)
      rw [cnt, cnt, h1]
      have h2 := h n (by omega)
      by_cases hn : p n
      · rw [if_pos hn, if_pos (h2.mp hn)]
      · rw [if_neg hn, if_neg (mt h2.mpr hn)]
theorem wall_set {P : Nat → Nat} (hI : Inv P) {s : Nat} (hs : s < P 7) (hy : why P s = 0) : wallP (stateP P s 3) := by
  have hb := hI.b
  have hw := hI.w
  obtain ⟨y1, y2, y3⟩ := why_0 hy
  have g := hI.s hs
  have e : ∀ k, k ≠ 50 + 6 * s + 3 → stateP P s 3 k = P k := fun k h => updN_ne h
  have e3 : stateP P s 3 (50 + 6 * s + 3) = 3 := updN_at _ _ _
  have ho : ¬ P (8 + 3 * P (50 + 6 * s) + 2) ≤ cntC P (P (50 + 6 * s)) 3 := by
    have h1 : compl P < P 5 := by rw [← y3]; exact g.1
    have h2 := fst_yes h1
    rw [y3]
    exact h2
  have hbelow : ∀ c, c < P (50 + 6 * s) → P (8 + 3 * c + 2) ≤ cntC P c 3 := fun c hc => by
    have h2 := fst_no (p := fun c => ¬ P (8 + 3 * c + 2) ≤ cntC P c 3) (n := P 5) (k := c) (by rw [y3] at hc; exact hc)
    exact Decidable.not_not.mp h2
  have c1 : cntC (stateP P s 3) (P (50 + 6 * s)) 3 = cntC P (P (50 + 6 * s)) 3 + 1 := by
    unfold cntC
    rw [e 7 (by omega)]
    refine cnt_one (s := s) (fun q => by omega) ⟨by rw [e _ (by omega)], e3⟩ (fun k hk => ?_) hs
    rw [e (50 + 6 * k) (by omega), e (50 + 6 * k + 3) (by omega)]
  have c2 : ∀ c, c ≠ P (50 + 6 * s) → cntC (stateP P s 3) c 3 = cntC P c 3 := fun c hc => cntC_cong (e 7 (by omega)) (fun k hk => by
    by_cases h : k = s
    · subst h
      rw [e (50 + 6 * k) (by omega)]
      exact ⟨fun q => absurd q.1.symm hc, fun q => absurd q.1.symm hc⟩
    · rw [e _ (by omega), e _ (by omega)])
  intro c hc
  rw [e 5 (by omega)] at hc
  rw [e (8 + 3 * c + 2) (by omega)]
  obtain ⟨w1, w2⟩ := hw c hc
  by_cases hcs : c = P (50 + 6 * s)
  · subst hcs
    rw [c1]
    refine ⟨by omega, fun h d hd hd5 => ?_⟩
    rw [e 5 (by omega)] at hd5
    rw [c2 d (by omega)]
    exact w2 (by omega) d hd hd5
  · rw [c2 c hcs]
    refine ⟨w1, fun h d hd hd5 => ?_⟩
    rw [e 5 (by omega)] at hd5
    by_cases hlt : c < P (50 + 6 * s)
    · have := hbelow c hlt; omega
    · rw [c2 d (by omega)]
      exact w2 h d hd hd5
theorem Inv.set {P : Nat → Nat} (hI : Inv P) {s : Nat} (hs : s < P 7) (hy : why P s = 0) : Inv (stateP P s 3) := hI.state hs (by omega) (wall_set hI hs hy)
theorem Inv.scrap {P : Nat → Nat} (hI : Inv P) {s : Nat} (hs : s < P 7) (h2 : P (50 + 6 * s + 3) = 2) : Inv (stateP P s 4) := hI.state hs (by omega) (wall_state hI hs (by omega) (by omega))
theorem Inv.inspect {P : Nat → Nat} (hI : Inv P) {s : Nat} (hs : s < P 7) (h0 : P (50 + 6 * s + 3) = 0) : Inv (inspectP P s) := by
  unfold inspectP
  have g := hI.s hs
  have hb := hI.b
  split
  · exact hI.state hs (by omega) (wall_state hI hs (by omega) (by omega))
  · have h1 : Inv (stateP P s 1) := hI.state hs (by omega) (wall_state hI hs (by omega) (by omega))
    have e6 : stateP P s 1 6 = P 6 := updN_ne (by omega)
    exact h1.mas (j := 3) (by rw [e6]; exact g.2.1) (by omega) (by omega) (by omega) (by omega)
theorem Inv.newStone {P : Nat → Nat} (hI : Inv P) {m c f : Nat} (hm : m < P 6) (hc : c < P 5) (hf : f ≤ 9) (h24 : P 7 < 24) : Inv (newStoneP P m c f) := by
  obtain ⟨b0, b2, b5, b6, b7, b1⟩ := hI.b
  have e : ∀ k, k ≠ 7 → (k < 50 + 6 * P 7 ∨ 50 + 6 * P 7 + 6 ≤ k) → newStoneP P m c f k = P k := fun k h1 h2 => newStone_out h1 h2
  have e5 := e 5 (by omega) (by omega)
  have e6 := e 6 (by omega) (by omega)
  have e7 : newStoneP P m c f 7 = P 7 + 1 := by rw [newStone_lo (by omega), updN_at]
  obtain ⟨a0, a1, a2, a3, a4, a5⟩ := newStone_at (P := P) (m := m) (c := c) (f := f)
  refine ⟨by rw [e 0 (by omega) (by omega)]; exact b0, by rw [e 2 (by omega) (by omega)]; exact b2, by rw [e5]; exact b5, by rw [e6]; exact b6, by rw [e7]; omega, by rw [e 1 (by omega) (by omega)]; exact b1, fun c' hc' => ?_, fun m' hm' => ?_, fun s' hs' => ?_, ?_⟩
  · rw [e5] at hc'
    rw [e _ (by omega) (by omega), e _ (by omega) (by omega), e _ (by omega) (by omega)]; exact hI.c hc'
  · rw [e6] at hm'
    rw [e _ (by omega) (by omega), e _ (by omega) (by omega), e _ (by omega) (by omega)]; exact hI.m hm'
  · rw [e7] at hs'
    rw [e5, e6]
    by_cases h : s' = P 7
    · subst h
      rw [a0, a1, a2, a3, a4, a5, e (8 + 3 * c) (by omega) (by omega)]
      exact ⟨hc, hm, hf, by omega, by have := (hI.c hc).2.1; omega, hm⟩
    · have g := hI.s (show s' < P 7 by omega)
      rw [e (50 + 6 * s') (by omega) (by omega), e (50 + 6 * s' + 1) (by omega) (by omega), e (50 + 6 * s' + 2) (by omega) (by omega), e (50 + 6 * s' + 3) (by omega) (by omega), e (50 + 6 * s' + 4) (by omega) (by omega), e (50 + 6 * s' + 5) (by omega) (by omega), e (8 + 3 * P (50 + 6 * s')) (by omega) (by omega)]
      exact g
  · refine wall_cong hI.w e5 (fun c' hc' => e _ (by omega) (by omega)) (fun c' hc' => ?_)
    unfold cntC
    rw [e7, cnt_no (by rw [a3]; exact fun q => absurd q.2 (by omega))]
    exact cnt_cong (fun k hk => by rw [e (50 + 6 * k) (by omega) (by omega), e (50 + 6 * k + 3) (by omega) (by omega)])
theorem Inv.cut {P : Nat → Nat} (hI : Inv P) {m c f : Nat} (hm : m < P 6) (hc : c < P 5) (hf : f ≤ 9) (hw : canCut P m c) : Inv (cutP P m c f) := by
  have hb := hI.b
  have h1 : Inv (updN P (26 + 4 * m + 2) (P (26 + 4 * m + 2) - P (8 + 3 * c + 1))) := hI.mas hm (by omega) (by omega) (by omega) (fun _ => by have := (hI.m hm).2.2.2.2; omega)
  unfold cutP
  refine h1.newStone ?_ ?_ hf ?_
  · rw [updN_ne (by omega)]; exact hm
  · rw [updN_ne (by omega)]; exact hc
  · rw [updN_ne (by omega)]; exact hw.2
theorem Inv.recut {P : Nat → Nat} (hI : Inv P) {m s c : Nat} (hm : m < P 6) (hs : s < P 7) (hc : c < P 5) (hw : canRecut P m s c) : Inv (recutP P m s c) := by
  obtain ⟨b0, b2, b5, b6, b7, b1⟩ := hI.b
  obtain ⟨w1, w2, w3⟩ := hw
  have g := hI.s hs
  have e : ∀ k, k ≠ 26 + 4 * m + 2 → (k < 50 + 6 * s ∨ 50 + 6 * s + 5 ≤ k) → recutP P m s c k = P k := fun k h1 h2 => by
    unfold recutP
    rw [updN_ne (by omega), updN_ne (by omega), updN_ne (by omega), updN_ne (by omega), updN_ne (by omega), updN_ne h1]
  have em : recutP P m s c (26 + 4 * m + 2) = P (26 + 4 * m + 2) - (P (8 + 3 * c + 1) + 1) / 2 := by
    unfold recutP
    rw [updN_ne (by omega), updN_ne (by omega), updN_ne (by omega), updN_ne (by omega), updN_ne (by omega), updN_at]
  have a0 : recutP P m s c (50 + 6 * s) = c := by
    unfold recutP
    rw [updN_ne (by omega), updN_ne (by omega), updN_ne (by omega), updN_ne (by omega), updN_at]
  have a1 : recutP P m s c (50 + 6 * s + 1) = m := by
    unfold recutP
    rw [updN_ne (by omega), updN_ne (by omega), updN_ne (by omega), updN_at]
  have a2 : recutP P m s c (50 + 6 * s + 2) = recutF P s c := by
    unfold recutP
    rw [updN_ne (by omega), updN_ne (by omega), updN_at]
  have a3 : recutP P m s c (50 + 6 * s + 3) = 0 := by
    unfold recutP
    rw [updN_ne (by omega), updN_at]
  have a4 : recutP P m s c (50 + 6 * s + 4) = P (50 + 6 * s + 4) + 1 := by
    unfold recutP
    rw [updN_at]
  have e5 := e 5 (by omega) (by omega)
  have e6 := e 6 (by omega) (by omega)
  have e7 := e 7 (by omega) (by omega)
  refine ⟨by rw [e 0 (by omega) (by omega)]; exact b0, by rw [e 2 (by omega) (by omega)]; exact b2, by rw [e5]; exact b5, by rw [e6]; exact b6, by rw [e7]; exact b7, by rw [e 1 (by omega) (by omega)]; exact b1, fun c' hc' => ?_, fun m' hm' => ?_, fun s' hs' => ?_, ?_⟩
  · rw [e5] at hc'
    rw [e _ (by omega) (by omega), e _ (by omega) (by omega), e _ (by omega) (by omega)]; exact hI.c hc'
  · rw [e6] at hm'
    have gm := hI.m hm'
    rw [e (26 + 4 * m') (by omega) (by omega), e (26 + 4 * m' + 1) (by omega) (by omega)]
    refine ⟨gm.1, gm.2.1, gm.2.2.1, gm.2.2.2.1, ?_⟩
    by_cases h : m' = m
    · subst h; rw [em]; omega
    · rw [e _ (by omega) (by omega)]; exact gm.2.2.2.2
  · rw [e7] at hs'
    rw [e5, e6]
    by_cases h : s' = s
    · subst h
      rw [a0, a1, a2, a3, a4, e (50 + 6 * s' + 5) (by omega) (by omega), e (8 + 3 * c) (by omega) (by omega)]
      exact ⟨hc, hm, by unfold recutF; omega, by omega, by omega, g.2.2.2.2.2⟩
    · have g' := hI.s hs'
      rw [e (50 + 6 * s') (by omega) (by omega), e (50 + 6 * s' + 1) (by omega) (by omega), e (50 + 6 * s' + 2) (by omega) (by omega), e (50 + 6 * s' + 3) (by omega) (by omega), e (50 + 6 * s' + 4) (by omega) (by omega), e (50 + 6 * s' + 5) (by omega) (by omega), e (8 + 3 * P (50 + 6 * s')) (by omega) (by omega)]
      exact g'
  · refine wall_cong hI.w e5 (fun c' hc' => e _ (by omega) (by omega)) (fun c' hc' => cntC_cong e7 (fun k hk => ?_))
    by_cases h : k = s
    · subst h
      rw [a3]
      exact ⟨fun q => absurd q.2 (by omega), fun q => absurd q.2 (by omega)⟩
    · rw [e (50 + 6 * k) (by omega) (by omega), e (50 + 6 * k + 3) (by omega) (by omega)]
/-- a row with the same courses and stones, and masons as they should be -/
theorem Inv.like {P Q : Nat → Nat} (hI : Inv P) (h0 : Q 0 ≤ 9) (h2 : Q 2 ≤ 1) (h1 : Q 1 < 100000) (h5 : Q 5 = P 5) (h6 : Q 6 = P 6) (h7 : Q 7 = P 7) (hc : ∀ k, 8 ≤ k → k < 26 → Q k = P k) (hs : ∀ k, 50 ≤ k → k < 194 → Q k = P k)
    (hm : ∀ m, m < P 6 → 1 ≤ Q (26 + 4 * m) ∧ Q (26 + 4 * m) ≤ 9 ∧ 1 ≤ Q (26 + 4 * m + 1) ∧ Q (26 + 4 * m + 1) ≤ 12 ∧ Q (26 + 4 * m + 2) ≤ 12) : Inv Q := by
  obtain ⟨b0, b2, b5, b6, b7, b1⟩ := hI.b
  refine ⟨h0, h2, by rw [h5]; exact b5, by rw [h6]; exact b6, by rw [h7]; exact b7, h1, fun c hc' => ?_, fun m hm' => ?_, fun s hs' => ?_, ?_⟩
  · rw [h5] at hc'
    rw [hc _ (by omega) (by omega), hc _ (by omega) (by omega), hc _ (by omega) (by omega)]; exact hI.c hc'
  · rw [h6] at hm'; exact hm m hm'
  · rw [h7] at hs'
    have g := hI.s hs'
    rw [h5, h6, hs (50 + 6 * s) (by omega) (by omega), hs (50 + 6 * s + 1) (by omega) (by omega), hs (50 + 6 * s + 2) (by omega) (by omega), hs (50 + 6 * s + 3) (by omega) (by omega), hs (50 + 6 * s + 4) (by omega) (by omega), hs (50 + 6 * s + 5) (by omega) (by omega), hc (8 + 3 * P (50 + 6 * s)) (by omega) (by omega)]
    exact g
  · exact wall_cong hI.w h5 (fun c hc' => hc _ (by omega) (by omega)) (fun c hc' => cntC_cong h7 (fun s hs' => by rw [hs (50 + 6 * s) (by omega) (by omega), hs (50 + 6 * s + 3) (by omega) (by omega)]))
theorem Inv.day {P : Nat → Nat} (hI : Inv P) {fr : Nat} (hfr : fr ≤ 1) (hd : P 1 + 1 < 100000) : Inv (dayP P fr) := by
  have hb := hI.b
  have d0 : ∀ k, k ≠ 1 → k ≠ 2 → k ≠ 4 → ¬ (26 ≤ k ∧ k < 26 + 4 * P 6 ∧ (k - 26) % 4 = 2) → ¬ (26 ≤ k ∧ k < 26 + 4 * P 6 ∧ (k - 26) % 4 = 3) → dayP P fr k = P k := fun k h1 h2 h3 h4 h5 => by
    unfold dayP dayAt
    rw [if_neg h1, if_neg h2, if_neg h3, if_neg h4, if_neg h5]
  refine hI.like (by rw [d0 0 (by omega) (by omega) (by omega) (by omega) (by omega)]; exact hb.1) (by show dayP P fr 2 ≤ 1; exact hfr) (by show dayP P fr 1 < 100000; exact hd) (d0 5 (by omega) (by omega) (by omega) (by omega) (by omega)) (d0 6 (by omega) (by omega) (by omega) (by omega) (by omega)) (d0 7 (by omega) (by omega) (by omega) (by omega) (by omega)) (fun k h1 h2 => d0 k (by omega) (by omega) (by omega) (by omega) (by omega)) (fun k h1 h2 => d0 k (by omega) (by omega) (by omega) (by omega) (by omega)) (fun m hm => ?_)
  have g := hI.m hm
  rw [d0 (26 + 4 * m) (by omega) (by omega) (by omega) (by omega) (by omega), d0 (26 + 4 * m + 1) (by omega) (by omega) (by omega) (by omega) (by omega)]
  refine ⟨g.1, g.2.1, g.2.2.1, g.2.2.2.1, ?_⟩
  unfold dayP dayAt
  rw [if_neg (by omega), if_neg (by omega), if_neg (by omega), if_pos (by omega)]
  split
  · omega
  · exact g.2.2.2.1
theorem Inv.pay {P : Nat → Nat} (hI : Inv P) : Inv (payP P) := by
  have hb := hI.b
  have d0 : ∀ k, k ≠ 3 → ¬ (26 ≤ k ∧ k < 26 + 4 * P 6 ∧ (k - 26) % 4 = 3) → payP P k = P k := fun k h1 h2 => by
    unfold payP
    rw [updN_ne h1, payAt_ne h2]
  refine hI.like (by rw [d0 0 (by omega) (by omega)]; exact hb.1) (by rw [d0 2 (by omega) (by omega)]; exact hb.2.1) (by rw [d0 1 (by omega) (by omega)]; exact hb.2.2.2.2.2) (d0 5 (by omega) (by omega)) (d0 6 (by omega) (by omega)) (d0 7 (by omega) (by omega)) (fun k h1 h2 => d0 k (by omega) (by omega)) (fun k h1 h2 => d0 k (by omega) (by omega)) (fun m hm => ?_)
  rw [d0 (26 + 4 * m) (by omega) (by omega), d0 (26 + 4 * m + 1) (by omega) (by omega), d0 (26 + 4 * m + 2) (by omega) (by omega)]
  exact hI.m hm
theorem Inv.newMason {P : Nat → Nat} (hI : Inv P) {x y : Nat} (hx : 1 ≤ x ∧ x ≤ 9) (hy : 1 ≤ y ∧ y ≤ 12) (h6 : P 6 < 6) : Inv (newMasonP P x y) := by
  obtain ⟨b0, b2, b5, b6, b7, b1⟩ := hI.b
  have e : ∀ k, k ≠ 6 → (k < 26 + 4 * P 6 ∨ 26 + 4 * P 6 + 4 ≤ k) → newMasonP P x y k = P k := fun k h1 h2 => newMason_out h1 h2
  have e5 := e 5 (by omega) (by omega)
  have e7 := e 7 (by omega) (by omega)
  have e6 : newMasonP P x y 6 = P 6 + 1 := by rw [newMason_lo (by omega), updN_at]
  obtain ⟨a0, a1, a2, a3⟩ := newMason_at (P := P) (x := x) (y := y)
  refine ⟨by rw [e 0 (by omega) (by omega)]; exact b0, by rw [e 2 (by omega) (by omega)]; exact b2, by rw [e5]; exact b5, by rw [e6]; omega, by rw [e7]; exact b7, by rw [e 1 (by omega) (by omega)]; exact b1, fun c' hc' => ?_, fun m' hm' => ?_, fun s' hs' => ?_, ?_⟩
  · rw [e5] at hc'
    rw [e _ (by omega) (by omega), e _ (by omega) (by omega), e _ (by omega) (by omega)]; exact hI.c hc'
  · rw [e6] at hm'
    by_cases h : m' = P 6
    · subst h
      rw [a0, a1, a2]
      exact ⟨hx.1, hx.2, hy.1, hy.2, by omega⟩
    · rw [e _ (by omega) (by omega), e _ (by omega) (by omega), e _ (by omega) (by omega)]; exact hI.m (by omega)
  · rw [e7] at hs'
    have g := hI.s hs'
    rw [e5, e6, e (50 + 6 * s') (by omega) (by omega), e (50 + 6 * s' + 1) (by omega) (by omega), e (50 + 6 * s' + 2) (by omega) (by omega), e (50 + 6 * s' + 3) (by omega) (by omega), e (50 + 6 * s' + 4) (by omega) (by omega), e (50 + 6 * s' + 5) (by omega) (by omega), e (8 + 3 * P (50 + 6 * s')) (by omega) (by omega)]
    exact ⟨g.1, by omega, g.2.2.1, g.2.2.2.1, g.2.2.2.2.1, by omega⟩
  · exact wall_cong hI.w e5 (fun c hc' => e _ (by omega) (by omega)) (fun c hc' => cntC_cong e7 (fun s hs' => by rw [e (50 + 6 * s) (by omega) (by omega), e (50 + 6 * s + 3) (by omega) (by omega)]))
theorem Inv.newCourse {P : Nat → Nat} (hI : Inv P) {x y z : Nat} (hx : 1 ≤ x ∧ x ≤ 9) (hy : 1 ≤ y ∧ y ≤ 6) (hz : 1 ≤ z ∧ z ≤ 9) (h6 : P 5 < 6) : Inv (newCourseP P x y z) := by
  obtain ⟨b0, b2, b5, b6, b7, b1⟩ := hI.b
  have e : ∀ k, k ≠ 5 → (k < 8 + 3 * P 5 ∨ 8 + 3 * P 5 + 3 ≤ k) → newCourseP P x y z k = P k := fun k h1 h2 => newCourse_out h1 h2
  have e6 := e 6 (by omega) (by omega)
  have e7 := e 7 (by omega) (by omega)
  have e5 : newCourseP P x y z 5 = P 5 + 1 := by rw [newCourse_lo (by omega), updN_at]
  obtain ⟨a0, a1, a2⟩ := newCourse_at (P := P) (x := x) (y := y) (z := z)
  have hcn : ∀ c, cntC (newCourseP P x y z) c 3 = cntC P c 3 := fun c => cntC_cong e7 (fun s hs' => by rw [e (50 + 6 * s) (by omega) (by omega), e (50 + 6 * s + 3) (by omega) (by omega)])
  have h0 : cntC P (P 5) 3 = 0 := by
    by_cases h : 0 < cntC P (P 5) 3
    · obtain ⟨k, hk, hp, -⟩ := cnt_pos h
      have g := hI.s hk
      omega
    · omega
  refine ⟨by rw [e 0 (by omega) (by omega)]; exact b0, by rw [e 2 (by omega) (by omega)]; exact b2, by rw [e5]; omega, by rw [e6]; exact b6, by rw [e7]; exact b7, by rw [e 1 (by omega) (by omega)]; exact b1, fun c' hc' => ?_, fun m' hm' => ?_, fun s' hs' => ?_, fun c hc => ?_⟩
  · rw [e5] at hc'
    by_cases h : c' = P 5
    · subst h
      rw [a0, a1, a2]
      exact ⟨hx.1, hx.2, hy.1, hy.2, hz.1, hz.2⟩
    · rw [e _ (by omega) (by omega), e _ (by omega) (by omega), e _ (by omega) (by omega)]; exact hI.c (by omega)
  · rw [e6] at hm'
    rw [e _ (by omega) (by omega), e _ (by omega) (by omega), e _ (by omega) (by omega)]; exact hI.m hm'
  · rw [e7] at hs'
    have g := hI.s hs'
    rw [e5, e6, e (50 + 6 * s') (by omega) (by omega), e (50 + 6 * s' + 1) (by omega) (by omega), e (50 + 6 * s' + 2) (by omega) (by omega), e (50 + 6 * s' + 3) (by omega) (by omega), e (50 + 6 * s' + 4) (by omega) (by omega), e (50 + 6 * s' + 5) (by omega) (by omega), e (8 + 3 * P (50 + 6 * s')) (by omega) (by omega)]
    exact ⟨by omega, g.2.1, g.2.2.1, g.2.2.2.1, g.2.2.2.2.1, g.2.2.2.2.2⟩
  · rw [e5] at hc
    rw [hcn]
    by_cases h : c = P 5
    · subst h
      rw [h0]
      refine ⟨Nat.zero_le _, fun _ d hd hd5 => ?_⟩
      rw [e5] at hd5
      omega
    · obtain ⟨w1, w2⟩ := hI.w c (by omega)
      rw [e (8 + 3 * c + 2) (by omega) (by omega)]
      refine ⟨w1, fun h2 d hd hd5 => ?_⟩
      rw [e5] at hd5
      rw [hcn]
      by_cases hd9 : d = P 5
      · subst hd9; exact h0
      · exact w2 h2 d hd (by omega)
theorem Inv.new : Inv newP := by
  refine ⟨by decide, by decide, by decide, by decide, by decide, by decide, fun c h => absurd h (Nat.not_lt_zero c), fun c h => absurd h (Nat.not_lt_zero c), fun c h => absurd h (Nat.not_lt_zero c), fun c h => absurd h (Nat.not_lt_zero c)⟩
