/-! The law's earns. -/
theorem sumN_inc {f g : Nat → Nat} {a v : Nat} (ha : f a = g a + v) : ∀ {n : Nat}, (∀ k, k < n → k ≠ a → f k = g k) → a < n → sumN f n = sumN g n + v
  | 0, _, h => absurd h (Nat.not_lt_zero a)
  | n + 1, hne, h => by
    by_cases e : a = n
    · subst e
      rw [sumN, sumN, ha, sumN_cong (fun k hk => hne k (by omega) (by omega))]
      omega
    · have h1 := sumN_inc ha (n := n) (fun k hk hka => hne k (by omega) hka) (by omega)
      rw [sumN, sumN, h1, hne n (by omega) (by omega)]
      omega
/-- the page Q: the bound b, the stones below r inspected -/
def EP (P : Nat → Nat) (b r : Nat) (Q : Nat → Nat) : Prop := Q 0 = b ∧ Q 5 = P 5 ∧ Q 6 = P 6 ∧ Q 7 = P 7 ∧ (∀ c j, c < P 5 → j < 3 → Q (8 + 3 * c + j) = P (8 + 3 * c + j)) ∧ (∀ m, m < P 6 → Q (26 + 4 * m) = P (26 + 4 * m)) ∧ (∀ s j, s < P 7 → j < 6 → (j ≠ 3 ∨ r ≤ s) → Q (50 + 6 * s + j) = P (50 + 6 * s + j)) ∧ owedAll Q = owedAll P + sumN (earnF P b) r
section
variable {P Q : Nat → Nat} {b r : Nat}
theorem EP.start (hb : P 6 ≤ 6) : EP P b 0 (updN P 0 b) := by
  have e : ∀ k, k ≠ 0 → updN P 0 b k = P k := fun k h => updN_ne h
  refine ⟨updN_at _ _ _, e 5 (by omega), e 6 (by omega), e 7 (by omega), fun c j h1 h2 => e _ (by omega), fun m h => e _ (by omega), fun s j h1 h2 h3 => e _ (by omega), ?_⟩
  unfold owedAll
  rw [e 6 (by omega), sumN_cong (fun k hk => e (26 + 4 * k + 3) (by omega)), sumN]
  rfl
theorem EP.pr (h : EP P b r Q) (hI : Inv P) {s : Nat} (hs : s < P 7) : price Q s = price P s := by
  obtain ⟨h0, h5, h6, h7, hc, hm, hst, ho⟩ := h
  have g := hI.s hs
  unfold price
  rw [show Q (50 + 6 * s + 4) = P (50 + 6 * s + 4) from hst s 4 hs (by omega) (by omega), show Q (50 + 6 * s) = P (50 + 6 * s) from hst s 0 hs (by omega) (by omega), show Q (50 + 6 * s + 1) = P (50 + 6 * s + 1) from hst s 1 hs (by omega) (by omega), hc _ 1 g.1 (by omega), hm _ g.2.1]
theorem EP.skip (h : EP P b r Q) (hr : P (50 + 6 * r + 3) ≠ 0) : EP P b (r + 1) Q := by
  obtain ⟨h0, h5, h6, h7, hc, hm, hst, ho⟩ := h
  refine ⟨h0, h5, h6, h7, hc, hm, fun s j h1 h2 h3 => hst s j h1 h2 (by omega), ?_⟩
  rw [ho, sumN, show earnF P b r = 0 by unfold earnF; rw [if_neg (fun q => hr q.1)]]
  rfl
theorem EP.insp (h : EP P b r Q) (hI : Inv P) (hr : r < P 7) (h3 : P (50 + 6 * r + 3) = 0) : EP P b (r + 1) (inspectP Q r) ∧ inspectP Q r (50 + 6 * r + 3) = if P (50 + 6 * r + 2) ≤ b then 1 else 2 := by
  have hp := h.pr hI hr
  obtain ⟨h0, h5, h6, h7, hc, hm, hst, ho⟩ := h
  have g := hI.s hr
  have hb := hI.b
  have e2 : Q (50 + 6 * r + 2) = P (50 + 6 * r + 2) := hst r 2 hr (by omega) (by omega)
  have e1 : Q (50 + 6 * r + 1) = P (50 + 6 * r + 1) := hst r 1 hr (by omega) (by omega)
  unfold inspectP
  rw [h0, e2, e1]
  by_cases hf : P (50 + 6 * r + 2) ≤ b
  · rw [if_neg (by omega), if_pos hf]
    have e : ∀ k, k ≠ 50 + 6 * r + 3 → k ≠ 26 + 4 * P (50 + 6 * r + 1) + 3 → updN (stateP Q r 1) (26 + 4 * P (50 + 6 * r + 1) + 3) (Q (26 + 4 * P (50 + 6 * r + 1) + 3) + price Q r) k = Q k := fun k h1 h2 => (updN_ne h2).trans (updN_ne h1)
    refine ⟨⟨(e 0 (by omega) (by omega)).trans h0, (e 5 (by omega) (by omega)).trans h5, (e 6 (by omega) (by omega)).trans h6, (e 7 (by omega) (by omega)).trans h7, fun c j h1 h2 => (e _ (by omega) (by omega)).trans (hc c j h1 h2), fun m h1 => (e _ (by omega) (by omega)).trans (hm m h1), fun s j h1 h2 h9 => ?_, ?_⟩, (updN_ne (by omega)).trans (updN_at _ _ _)⟩
    · by_cases hs : s = r ∧ j = 3
      · omega
      · exact (e _ (by omega) (by omega)).trans (hst s j h1 h2 (by omega))
    · unfold owedAll at ho ⊢
      rw [e 6 (by omega) (by omega)]
      refine (sumN_inc (g := fun m => Q (26 + 4 * m + 3)) (a := P (50 + 6 * r + 1)) (v := price P r) ?_ ?_ ?_).trans ?_
      · exact (updN_at _ _ _).trans (by rw [hp])
      · exact fun k hk hka => e (26 + 4 * k + 3) (by omega) (by omega)
      · rw [h6]; exact g.2.1
      rw [ho, sumN, show earnF P b r = price P r by unfold earnF; rw [if_pos ⟨h3, hf⟩]]
      omega
  · rw [if_pos (by omega), if_neg hf]
    have e : ∀ k, k ≠ 50 + 6 * r + 3 → stateP Q r 2 k = Q k := fun k h1 => updN_ne h1
    refine ⟨⟨(e 0 (by omega)).trans h0, (e 5 (by omega)).trans h5, (e 6 (by omega)).trans h6, (e 7 (by omega)).trans h7, fun c j h1 h2 => (e _ (by omega)).trans (hc c j h1 h2), fun m h1 => (e _ (by omega)).trans (hm m h1), fun s j h1 h2 h9 => ?_, ?_⟩, updN_at _ _ _⟩
    · by_cases hs : s = r ∧ j = 3
      · omega
      · exact (e _ (by omega)).trans (hst s j h1 h2 (by omega))
    · unfold owedAll at ho ⊢
      rw [e 6 (by omega), sumN_cong (fun k hk => e (26 + 4 * k + 3) (by omega)), ho, sumN, show earnF P b r = 0 by unfold earnF; rw [if_neg (fun q => hf q.2)]]
      rfl
theorem earn_le9 (hI : Inv P) (b : Nat) {n : Nat} (hn : n ≤ P 7) : sumN (earnF P b) n ≤ 24 * 54 := by
  have hb := hI.b
  refine Nat.le_trans (sumN_le (b := 54) (fun s hs => ?_)) (Nat.mul_le_mul_right 54 (by omega))
  unfold earnF
  split
  · exact (price_le hI (by omega)).2
  · omega
end
theorem e_inspY {S : St} {s : Nat} (hI : Inv (sP S)) (hs : s < sP S 7) (h0 : sP S (50 + 6 * s + 3) = 0) (hf : ¬ sP S 0 < sP S (50 + 6 * s + 2)) : spInspect S (nI s) = (0, nI (price (sP S) s), wA S (inspectP (sP S) s)) := by rw [e_inspect hI hs h0, if_neg hf]
theorem e_inspN {S : St} {s : Nat} (hI : Inv (sP S)) (hs : s < sP S 7) (h0 : sP S (50 + 6 * s + 3) = 0) (hf : sP S 0 < sP S (50 + 6 * s + 2)) : spInspect S (nI s) = (0, -9, wA S (inspectP (sP S) s)) := by rw [e_inspect hI hs h0, if_pos hf]
def earnsS (S : St) : St := if cntS (sP S) 0 ≤ 11 then trim (cntS (sP S) 0 + 1) S else S
theorem SG.earns {D : Nat} {S : St} (h : SG D S) : SG D (earnsS S) := by
  unfold earnsS
  split
  · exact h.trim
  · exact h
set_option maxHeartbeats 200000 in
set_option maxRecDepth 100000 in
theorem earns1 {Γ : CX} {G : GC} {Z : State → Prop} {mc ms k n : Nat} {M : PH} {x D b : Nat} {S : St} (hX : RepX M x S) (hG : SG D S) (hD : D < 90000) (hb9 : b ≤ 9) (C : Cx Γ G iL_earns [] mc ms) (hkn : k ≤ mc ∧ n ≤ ms) (K : PW Γ G Z 36 [some (.ref x), some (.int (nI (b))), some (.int (nI (cntS (sP S) 0))), some (.int (nI (sP S 7))), none, none, none, none, none, none, none] [] M k n) : ∀ (d r : Nat), r + d = sP S 7 → ∀ a, a = cnt (fun s => sP S (50 + 6 * s + 3) = 0) r → PW Γ G Z 4 [some (.ref x), some (.int (nI (b))), some (.int (nI (a))), some (.int (nI (r))), none, none, none, none, none, none, none] [] M k n := by
  have hS := hG.1
  have hI := hS.1.1
  have hb := hI.b
  intro d
  induction d with
  | zero =>
    intro r hr a ha
    obtain rfl : r = sP S 7 := by omega
    obtain rfl : a = cntS (sP S) 0 := ha
    refine pw_iload_n (q := 5) (j := 3) C dL_earns_4 rfl rfl rfl ?_
    refine pw_aload_n (q := 6) (j := 0) C dL_earns_5 rfl rfl rfl ?_
    refine pw_iconst_n (q := 7) C 2 dL_earns_6 (by decide +kernel) rfl ?_
    refine pw_rd (q := 10) (cr_s (j := iL_about) C dL_earns_7 lL_176 mL_about (ro_mk (by decide) (by decide))  (v_a2 hX hS) rfl rfl (Nat.le_of_ble_eq_true rfl) ⟨by omega, by omega⟩) rfl ?_
    refine pw_icmp_ge_n (q := 13) 36 C dL_earns_10 (by decide) rfl (by omega) (by omega) (fun g10 => ?_) (fun g10 => absurd g10 (by omega))
    exact K
  | succ d ih =>
    intro r hr a ha
    have q := hI.s (s := r) (by omega)
    refine pw_iload_n (q := 5) (j := 3) C dL_earns_4 rfl rfl rfl ?_
    refine pw_aload_n (q := 6) (j := 0) C dL_earns_5 rfl rfl rfl ?_
    refine pw_iconst_n (q := 7) C 2 dL_earns_6 (by decide +kernel) rfl ?_
    refine pw_rd (q := 10) (cr_s (j := iL_about) C dL_earns_7 lL_176 mL_about (ro_mk (by decide) (by decide))  (v_a2 hX hS) rfl rfl (Nat.le_of_ble_eq_true rfl) ⟨by omega, by omega⟩) rfl ?_
    refine pw_icmp_ge_n (q := 13) 36 C dL_earns_10 (by decide) rfl (by omega) (by omega) (fun g10 => absurd g10 (by omega)) (fun g10 => ?_)
    refine pw_iload_n (q := 14) (j := 2) C dL_earns_13 rfl rfl rfl ?_
    refine pw_aload_n (q := 15) (j := 0) C dL_earns_14 rfl rfl rfl ?_
    refine pw_iload_n (q := 16) (j := 3) C dL_earns_15 rfl rfl rfl ?_
    refine pw_iconst_n (q := 17) C 3 dL_earns_16 (by decide +kernel) rfl ?_
    refine pw_rd (q := 20) (cr_s (j := iL_stone) C dL_earns_17 lL_182 mL_stone (ro_mk (by decide) (by decide))  (v_s3 hX hS (by omega)) rfl rfl (Nat.le_of_ble_eq_true rfl) ⟨by omega, by omega⟩) rfl ?_
    refine pw_if_ne_n (q := 23) 27 C dL_earns_20 (by decide) rfl (by omega) (fun g20 => ?_) (fun g20 => ?_)
    · refine pw_iconst_n (q := 28) C 0 dL_earns_27 (by decide +kernel) rfl ?_
      refine pw_iadd_n (q := 29) C dL_earns_28 rfl ?_
      refine pw_istore_n (q := 30) (j := 2) C dL_earns_29 rfl rfl (by decide) rfl ?_
      refine pw_iinc_n (q := 33) C 1 dL_earns_30 rfl (by decide +kernel) rfl (by decide) rfl ?_
      refine pw_goto (q := 0) 4 C dL_earns_33 (by decide) ?_
      exact ih (r + 1) (by omega) _ (by rw [ha, cnt, if_neg g20])
    · refine pw_iconst_n (q := 24) C 1 dL_earns_23 (by decide +kernel) rfl ?_
      refine pw_goto (q := 0) 28 C dL_earns_24 (by decide) ?_
      refine pw_iadd_n (q := 29) C dL_earns_28 rfl ?_
      refine pw_istore_n (q := 30) (j := 2) C dL_earns_29 rfl rfl (by decide) rfl ?_
      refine pw_iinc_n (q := 33) C 1 dL_earns_30 rfl (by decide +kernel) rfl (by decide) rfl ?_
      refine pw_goto (q := 0) 4 C dL_earns_33 (by decide) ?_
      exact ih (r + 1) (by omega) _ (by rw [ha, cnt, if_pos g20])
theorem cnt_mono {p : Nat → Prop} [DecidablePred p] {a : Nat} : ∀ {b : Nat}, a ≤ b → cnt p a ≤ cnt p b
  | 0, h => by rw [show a = 0 by omega]; exact Nat.le_refl _
  | b + 1, h => by
    by_cases e : a = b + 1
    · rw [e]; exact Nat.le_refl _
    · have := cnt_mono (p := p) (a := a) (b := b) (by omega)
      rw [cnt]
      omega
set_option maxHeartbeats 400000 in
set_option maxRecDepth 100000 in
theorem earns2 {Γ : CX} {G : GC} {Z : State → Prop} {x D b : Nat} {S : St} {M0 : PH} (hI0 : Inv (sP S)) (h14 : sM S ≤ 14) (h11 : cntS (sP S) 0 ≤ 11) (hb9 : b ≤ 9) (C : Cx Γ G iL_earns [] 64 800) (K : ∀ (M : PH) (T : St) (v10 : Option Value), SI M0 x D S T (cntS (sP S) 0 + 1) M → EP (sP S) b (sP S 7) (sP T) → PW Γ G Z 209 [some (.ref x), some (.int (nI (b))), some (.int (nI (cntS (sP S) 0))), some (.long (sumL (sP S))), none, some (.int (nI (earn (sP S) b))), some (.int (nI (owedAll (sP S)))), some (.int (nI (1))), some (.int (nI (earn (sP S) b))), some (.int (nI (sP S 7))), v10] [] M (2 * (cntS (sP S) 0 + 1)) (12 * (cntS (sP S) 0 + 1))) : ∀ (d r : Nat), r + d = sP S 7 → ∀ (M : PH) (T : St) (k p : Nat) (v10 : Option Value), SI M0 x D S T k M → EP (sP S) b r (sP T) → k = 1 + cnt (fun s => sP S (50 + 6 * s + 3) = 0) r → p = sumN (earnF (sP S) b) r → PW Γ G Z 95 [some (.ref x), some (.int (nI (b))), some (.int (nI (cntS (sP S) 0))), some (.long (sumL (sP S))), none, some (.int (nI (earn (sP S) b))), some (.int (nI (owedAll (sP S)))), some (.int (nI (1))), some (.int (nI (p))), some (.int (nI (r))), v10] [] M (2 * k) (12 * k) := by
  intro d
  induction d with
  | zero =>
    intro r hr M T k p v10 hSI hE hk hp
    have hb0 := hI0.b
    obtain ⟨hX, hFr, hG, hB⟩ := id hSI
    have hS := hG.1
    have hI := hS.1.1
    have hb := hI.b
    obtain ⟨e0, e5, e6, e7, ec, em, es, eo⟩ := id hE
    obtain rfl : r = sP S 7 := by omega
    obtain rfl : k = cntS (sP S) 0 + 1 := by rw [hk, Nat.add_comm]; rfl
    obtain rfl : p = earn (sP S) b := hp
    refine pw_iload (q := 97) C dL_earns_95 rfl rfl ?_
    refine pw_aload_n (q := 98) (j := 0) C dL_earns_97 rfl rfl rfl ?_
    refine pw_iconst_n (q := 99) C 2 dL_earns_98 (by decide +kernel) rfl ?_
    refine pw_rd (q := 102) (cr_s (j := iL_about) C dL_earns_99 lL_176 mL_about (ro_mk (by decide) (by decide))  (v_a2 hX hS) rfl rfl (Nat.le_of_ble_eq_true rfl) ⟨by omega, by omega⟩) rfl ?_
    refine pw_icmp_ge_n (q := 105) 209 C dL_earns_102 (by decide) rfl (by omega) (by omega) (fun g102 => ?_) (fun g102 => absurd g102 (by omega))
    exact K M T _ hSI hE
  | succ d ih =>
    intro r hr M T k p v10 hSI hE hk hp
    have hb0 := hI0.b
    obtain ⟨hX, hFr, hG, hB⟩ := id hSI
    have hS := hG.1
    have hI := hS.1.1
    have hb := hI.b
    obtain ⟨e0, e5, e6, e7, ec, em, es, eo⟩ := id hE
    have q := hI0.s (s := r) (by omega)
    have f2 : sP T (50 + 6 * r + 2) = sP S (50 + 6 * r + 2) := es r 2 (by omega) (by omega) (by omega)
    have f3 : sP T (50 + 6 * r + 3) = sP S (50 + 6 * r + 3) := es r 3 (by omega) (by omega) (by omega)
    have hpr := hE.pr hI0 (s := r) (by omega)
    have hpl := (price_le hI0 (s := r) (by omega)).2
    have hple := earn_le9 hI0 b (n := r) (by omega)
    have hkc : cnt (fun s => sP S (50 + 6 * s + 3) = 0) r ≤ cntS (sP S) 0 := cnt_mono (by omega)
    refine pw_iload (q := 97) C dL_earns_95 rfl rfl ?_
    refine pw_aload_n (q := 98) (j := 0) C dL_earns_97 rfl rfl rfl ?_
    refine pw_iconst_n (q := 99) C 2 dL_earns_98 (by decide +kernel) rfl ?_
    refine pw_rd (q := 102) (cr_s (j := iL_about) C dL_earns_99 lL_176 mL_about (ro_mk (by decide) (by decide))  (v_a2 hX hS) rfl rfl (Nat.le_of_ble_eq_true rfl) ⟨by omega, by omega⟩) rfl ?_
    refine pw_icmp_ge_n (q := 105) 209 C dL_earns_102 (by decide) rfl (by omega) (by omega) (fun g102 => absurd g102 (by omega)) (fun g102 => ?_)
    refine pw_aload_n (q := 106) (j := 0) C dL_earns_105 rfl rfl rfl ?_
    refine pw_iload (q := 108) C dL_earns_106 rfl rfl ?_
    refine pw_iconst_n (q := 109) C 3 dL_earns_108 (by decide +kernel) rfl ?_
    refine pw_rd (q := 112) (cr_s (j := iL_stone) C dL_earns_109 lL_182 mL_stone (ro_mk (by decide) (by decide))  (v_s3 hX hS (by omega)) rfl rfl (Nat.le_of_ble_eq_true rfl) ⟨by omega, by omega⟩) rfl ?_
    refine pw_if_ne_n (q := 115) 203 C dL_earns_112 (by decide) rfl (by omega) (fun g112 => ?_) (fun g112 => ?_)
    · refine pw_iinc_n (q := 206) C 1 dL_earns_203 rfl (by decide +kernel) rfl (by decide) rfl ?_
      refine pw_goto (q := 0) 95 C dL_earns_206 (by decide) ?_
      exact ih (r + 1) (by omega) M T k p _ hSI (hE.skip (by omega)) (by rw [cnt, if_neg (by omega)]; exact hk) (by rw [hp, sumN, show earnF (sP S) b r = 0 by unfold earnF; rw [if_neg (fun q => by omega)]]; rfl)
    · by_cases hf : sP S (50 + 6 * r + 2) ≤ b
      · refine pw_aload_n (q := 116) (j := 0) C dL_earns_115 rfl rfl rfl ?_
        refine pw_bipush_n (q := 118) C 12 dL_earns_116 (by decide +kernel) rfl ?_
        refine pw_iload (q := 120) C dL_earns_118 rfl rfl ?_
        refine pw_iconst_n (q := 121) C 0 dL_earns_120 (by decide +kernel) rfl ?_
        refine pw_iconst_n (q := 122) C 0 dL_earns_121 (by decide +kernel) rfl ?_
        refine pw_iconst_n (q := 123) C 0 dL_earns_122 (by decide +kernel) rfl ?_
        refine pw_val (q := 126) (cr_s (j := iL_call) C dL_earns_123 lL_170 mL_call (ro_mk (by decide) (by decide))  (a_of (g_inspect hX hS) (e_inspY hI (show r < sP T 7 by omega) (by omega) (by omega))) rfl rfl (Nat.le_of_ble_eq_true rfl) ⟨by omega, by omega⟩) rfl (fun M123 e123 => ?_)
        have hSI9 := hSI.act h14 (by omega) e123 (by have z := sg_inspect hG (nI r); rw [e_inspect hI (by omega) (by omega)] at z; exact z)
        obtain ⟨hE9, hs9⟩ := hE.insp hI0 (show r < sP S 7 by omega) (by omega)
        have t7 : inspectP (sP T) r 7 = sP S 7 := hE9.2.2.2.1
        have t2 : inspectP (sP T) r (50 + 6 * r + 2) = sP S (50 + 6 * r + 2) := hE9.2.2.2.2.2.2.1 r 2 (by omega) (by omega) (by omega)
        obtain ⟨hX9, hFr9, hG9, hB9⟩ := id hSI9
        have hS9 := hG9.1
        rw [if_pos hf] at hs9
        refine pw_istore (q := 128) C dL_earns_126 rfl (by decide) rfl ?_
        refine pw_iload (q := 130) C dL_earns_128 rfl rfl ?_
        refine pw_iload (q := 132) C dL_earns_130 rfl rfl ?_
        refine pw_if_lt (q := 135) 139 C dL_earns_132 (by decide) rfl (fun g132 => absurd g132 (nI_pos (by omega))) (fun g132 => ?_)
        refine pw_iconst_n (q := 136) C 1 dL_earns_135 (by decide +kernel) rfl ?_
        refine pw_goto (q := 0) 140 C dL_earns_136 (by decide) ?_
        refine pw_aload_n (q := 141) (j := 0) C dL_earns_140 rfl rfl rfl ?_
        refine pw_iload (q := 143) C dL_earns_141 rfl rfl ?_
        refine pw_iconst_n (q := 144) C 2 dL_earns_143 (by decide +kernel) rfl ?_
        refine pw_rd (q := 147) (cr_s (j := iL_stone) C dL_earns_144 lL_182 mL_stone (ro_mk (by decide) (by decide))  (v_s2 (S := wA T (inspectP (sP T) r)) hX9 hS9 (c := r) (show r < inspectP (sP T) r 7 by omega)) rfl rfl (Nat.le_of_ble_eq_true rfl) ⟨by omega, by omega⟩) rfl ?_
        rw [show sP (wA T (inspectP (sP T) r)) (50 + 6 * r + 2) = sP S (50 + 6 * r + 2) from t2]
        refine pw_iload_n (q := 148) (j := 1) C dL_earns_147 rfl rfl rfl ?_
        refine pw_icmp_gt_n (q := 151) 155 C dL_earns_148 (by decide) rfl (by omega) (by omega) (fun g148 => absurd g148 (by omega)) (fun g148 => ?_)
        refine pw_iconst_n (q := 152) C 1 dL_earns_151 (by decide +kernel) rfl ?_
        refine pw_goto (q := 0) 156 C dL_earns_152 (by decide) ?_
        refine pw_icmp_ne_n (q := 159) 183 C dL_earns_156 (by decide) rfl (by omega) (by omega) (fun g156 => absurd g156 (by omega)) (fun g156 => ?_)
        refine pw_aload_n (q := 160) (j := 0) C dL_earns_159 rfl rfl rfl ?_
        refine pw_iload (q := 162) C dL_earns_160 rfl rfl ?_
        refine pw_iconst_n (q := 163) C 3 dL_earns_162 (by decide +kernel) rfl ?_
        refine pw_rd (q := 166) (cr_s (j := iL_stone) C dL_earns_163 lL_182 mL_stone (ro_mk (by decide) (by decide))  (v_s3 (S := wA T (inspectP (sP T) r)) hX9 hS9 (c := r) (show r < inspectP (sP T) r 7 by omega)) rfl rfl (Nat.le_of_ble_eq_true rfl) ⟨by omega, by omega⟩) rfl ?_
        rw [show sP (wA T (inspectP (sP T) r)) (50 + 6 * r + 3) = 1 from hs9]
        refine pw_iload (q := 168) C dL_earns_166 rfl rfl ?_
        refine pw_if_lt (q := 171) 175 C dL_earns_168 (by decide) rfl (fun g168 => absurd g168 (nI_pos (by omega))) (fun g168 => ?_)
        refine pw_iconst_n (q := 172) C 1 dL_earns_171 (by decide +kernel) rfl ?_
        refine pw_goto (q := 0) 176 C dL_earns_172 (by decide) ?_
        refine pw_icmp_ne_n (q := 179) 183 C dL_earns_176 (by decide) rfl (by omega) (by omega) (fun g176 => absurd g176 (by omega)) (fun g176 => ?_)
        refine pw_iconst_n (q := 180) C 1 dL_earns_179 (by decide +kernel) rfl ?_
        refine pw_goto (q := 0) 184 C dL_earns_180 (by decide) ?_
        refine pw_and11 (q := 185) C dL_earns_184 rfl ?_
        refine pw_istore (q := 187) C dL_earns_185 rfl (by decide) rfl ?_
        refine pw_iload (q := 189) C dL_earns_187 rfl rfl ?_
        refine pw_iload (q := 191) C dL_earns_189 rfl rfl ?_
        refine pw_if_lt (q := 194) 199 C dL_earns_191 (by decide) rfl (fun g191 => absurd g191 (nI_pos (by omega))) (fun g191 => ?_)
        refine pw_iload (q := 196) C dL_earns_194 rfl rfl ?_
        refine pw_goto (q := 0) 200 C dL_earns_196 (by decide) ?_
        refine pw_iadd_n (q := 201) C dL_earns_200 rfl ?_
        refine pw_istore (q := 203) C dL_earns_201 rfl (by decide) rfl ?_
        refine pw_iinc_n (q := 206) C 1 dL_earns_203 rfl (by decide +kernel) rfl (by decide) rfl ?_
        refine pw_goto (q := 0) 95 C dL_earns_206 (by decide) ?_
        have z := ih (r + 1) (by omega) _ _ (k + 1) (p + price (sP T) r) (some (.int (nI (price (sP T) r)))) hSI9 hE9 (by rw [cnt, if_pos (by omega)]; omega) (by rw [hp, sumN, show earnF (sP S) b r = price (sP S) r by unfold earnF; rw [if_pos ⟨by omega, hf⟩], hpr])
        rw [show 2 * (k + 1) = 2 * k + 2 by omega, show 12 * (k + 1) = 12 * k + 12 by omega] at z
        exact z
      · refine pw_aload_n (q := 116) (j := 0) C dL_earns_115 rfl rfl rfl ?_
        refine pw_bipush_n (q := 118) C 12 dL_earns_116 (by decide +kernel) rfl ?_
        refine pw_iload (q := 120) C dL_earns_118 rfl rfl ?_
        refine pw_iconst_n (q := 121) C 0 dL_earns_120 (by decide +kernel) rfl ?_
        refine pw_iconst_n (q := 122) C 0 dL_earns_121 (by decide +kernel) rfl ?_
        refine pw_iconst_n (q := 123) C 0 dL_earns_122 (by decide +kernel) rfl ?_
        refine pw_val (q := 126) (cr_s (j := iL_call) C dL_earns_123 lL_170 mL_call (ro_mk (by decide) (by decide))  (a_of (g_inspect hX hS) (e_inspN hI (show r < sP T 7 by omega) (by omega) (by omega))) rfl rfl (Nat.le_of_ble_eq_true rfl) ⟨by omega, by omega⟩) rfl (fun M123 e123 => ?_)
        have hSI9 := hSI.act h14 (by omega) e123 (by have z := sg_inspect hG (nI r); rw [e_inspect hI (by omega) (by omega)] at z; exact z)
        obtain ⟨hE9, hs9⟩ := hE.insp hI0 (show r < sP S 7 by omega) (by omega)
        have t7 : inspectP (sP T) r 7 = sP S 7 := hE9.2.2.2.1
        have t2 : inspectP (sP T) r (50 + 6 * r + 2) = sP S (50 + 6 * r + 2) := hE9.2.2.2.2.2.2.1 r 2 (by omega) (by omega) (by omega)
        obtain ⟨hX9, hFr9, hG9, hB9⟩ := id hSI9
        have hS9 := hG9.1
        rw [if_neg hf] at hs9
        refine pw_istore (q := 128) C dL_earns_126 rfl (by decide) rfl ?_
        refine pw_iload (q := 130) C dL_earns_128 rfl rfl ?_
        refine pw_iload (q := 132) C dL_earns_130 rfl rfl ?_
        refine pw_if_lt (q := 135) 139 C dL_earns_132 (by decide) rfl (fun g132 => ?_) (fun g132 => absurd g132 (fun h => h (by decide +kernel)))
        refine pw_iconst_n (q := 140) C 0 dL_earns_139 (by decide +kernel) rfl ?_
        refine pw_aload_n (q := 141) (j := 0) C dL_earns_140 rfl rfl rfl ?_
        refine pw_iload (q := 143) C dL_earns_141 rfl rfl ?_
        refine pw_iconst_n (q := 144) C 2 dL_earns_143 (by decide +kernel) rfl ?_
        refine pw_rd (q := 147) (cr_s (j := iL_stone) C dL_earns_144 lL_182 mL_stone (ro_mk (by decide) (by decide))  (v_s2 (S := wA T (inspectP (sP T) r)) hX9 hS9 (c := r) (show r < inspectP (sP T) r 7 by omega)) rfl rfl (Nat.le_of_ble_eq_true rfl) ⟨by omega, by omega⟩) rfl ?_
        rw [show sP (wA T (inspectP (sP T) r)) (50 + 6 * r + 2) = sP S (50 + 6 * r + 2) from t2]
        refine pw_iload_n (q := 148) (j := 1) C dL_earns_147 rfl rfl rfl ?_
        refine pw_icmp_gt_n (q := 151) 155 C dL_earns_148 (by decide) rfl (by omega) (by omega) (fun g148 => ?_) (fun g148 => absurd g148 (by omega))
        refine pw_iconst_n (q := 156) C 0 dL_earns_155 (by decide +kernel) rfl ?_
        refine pw_icmp_ne_n (q := 159) 183 C dL_earns_156 (by decide) rfl (by omega) (by omega) (fun g156 => absurd g156 (by omega)) (fun g156 => ?_)
        refine pw_aload_n (q := 160) (j := 0) C dL_earns_159 rfl rfl rfl ?_
        refine pw_iload (q := 162) C dL_earns_160 rfl rfl ?_
        refine pw_iconst_n (q := 163) C 3 dL_earns_162 (by decide +kernel) rfl ?_
        refine pw_rd (q := 166) (cr_s (j := iL_stone) C dL_earns_163 lL_182 mL_stone (ro_mk (by decide) (by decide))  (v_s3 (S := wA T (inspectP (sP T) r)) hX9 hS9 (c := r) (show r < inspectP (sP T) r 7 by omega)) rfl rfl (Nat.le_of_ble_eq_true rfl) ⟨by omega, by omega⟩) rfl ?_
        rw [show sP (wA T (inspectP (sP T) r)) (50 + 6 * r + 3) = 2 from hs9]
        refine pw_iload (q := 168) C dL_earns_166 rfl rfl ?_
        refine pw_if_lt (q := 171) 175 C dL_earns_168 (by decide) rfl (fun g168 => ?_) (fun g168 => absurd g168 (fun h => h (by decide +kernel)))
        refine pw_iconst_n (q := 176) C 2 dL_earns_175 (by decide +kernel) rfl ?_
        refine pw_icmp_ne_n (q := 179) 183 C dL_earns_176 (by decide) rfl (by omega) (by omega) (fun g176 => absurd g176 (by omega)) (fun g176 => ?_)
        refine pw_iconst_n (q := 180) C 1 dL_earns_179 (by decide +kernel) rfl ?_
        refine pw_goto (q := 0) 184 C dL_earns_180 (by decide) ?_
        refine pw_and11 (q := 185) C dL_earns_184 rfl ?_
        refine pw_istore (q := 187) C dL_earns_185 rfl (by decide) rfl ?_
        refine pw_iload (q := 189) C dL_earns_187 rfl rfl ?_
        refine pw_iload (q := 191) C dL_earns_189 rfl rfl ?_
        refine pw_if_lt (q := 194) 199 C dL_earns_191 (by decide) rfl (fun g191 => ?_) (fun g191 => absurd g191 (fun h => h (by decide +kernel)))
        refine pw_iconst_n (q := 200) C 0 dL_earns_199 (by decide +kernel) rfl ?_
        refine pw_iadd_n (q := 201) C dL_earns_200 rfl ?_
        refine pw_istore (q := 203) C dL_earns_201 rfl (by decide) rfl ?_
        refine pw_iinc_n (q := 206) C 1 dL_earns_203 rfl (by decide +kernel) rfl (by decide) rfl ?_
        refine pw_goto (q := 0) 95 C dL_earns_206 (by decide) ?_
        have z := ih (r + 1) (by omega) _ _ (k + 1) (p + 0) (some (.int (-9))) hSI9 hE9 (by rw [cnt, if_pos (by omega)]; omega) (by rw [hp, sumN, show earnF (sP S) b r = 0 by unfold earnF; rw [if_neg (fun q => hf q.2)]])
        rw [show 2 * (k + 1) = 2 * k + 2 by omega, show 12 * (k + 1) = 12 * k + 12 by omega] at z
        exact z
set_option maxHeartbeats 400000 in
set_option maxRecDepth 100000 in
theorem earns3 {Γ : CX} {G : GC} {Z : State → Prop} {x D b K : Nat} {S : St} {M0 : PH} (h11 : K ≤ 11) (C : Cx Γ G iL_earns [] 64 800) {v10 : Option Value} (KE : ∀ (M : PH) (U : St), UI M0 x D (K + 1) S U 0 M → PW Γ G Z 278 [some (.ref x), some (.int (nI (b))), some (.int (nI (K))), some (.long (sumL (sP S))), none, some (.int (nI (earn (sP S) b))), some (.int (nI (owedAll (sP S)))), some (.int (nI (1))), some (.int (nI (earn (sP S) b))), some (.int (nI (K + 1))), v10] [] M (4 * (K + 1)) (24 * (K + 1))) : ∀ (d r : Nat), r + d = K + 1 → ∀ (M : PH) (U : St), UI M0 x D (K + 1) S U d M → PW Γ G Z 243 [some (.ref x), some (.int (nI (b))), some (.int (nI (K))), some (.long (sumL (sP S))), none, some (.int (nI (earn (sP S) b))), some (.int (nI (owedAll (sP S)))), some (.int (nI (1))), some (.int (nI (earn (sP S) b))), some (.int (nI (r))), v10] [] M (2 * (K + 1) + 2 * r) (12 * (K + 1) + 12 * r) := by
  intro d
  induction d with
  | zero =>
    intro r hr M U hU
    obtain rfl : r = K + 1 := by omega
    refine pw_iload (q := 245) C dL_earns_243 rfl rfl ?_
    refine pw_iload_n (q := 246) (j := 2) C dL_earns_245 rfl rfl rfl ?_
    refine pw_icmp_gt_n (q := 249) 278 C dL_earns_246 (by decide) rfl (by omega) (by omega) (fun g246 => ?_) (fun g246 => absurd g246 (by omega))
    have z := KE M U hU
    rw [show 4 * (K + 1) = 2 * (K + 1) + 2 * (K + 1) by omega, show 24 * (K + 1) = 12 * (K + 1) + 12 * (K + 1) by omega] at z
    exact z
  | succ d ih =>
    intro r hr M U hU
    have hp := hU.pos
    have hm := hU.1.m14
    refine pw_iload (q := 245) C dL_earns_243 rfl rfl ?_
    refine pw_iload_n (q := 246) (j := 2) C dL_earns_245 rfl rfl rfl ?_
    refine pw_icmp_gt_n (q := 249) 278 C dL_earns_246 (by decide) rfl (by omega) (by omega) (fun g246 => absurd g246 (by omega)) (fun g246 => ?_)
    refine pw_iload (q := 251) C dL_earns_249 rfl rfl ?_
    refine pw_aload_n (q := 252) (j := 0) C dL_earns_251 rfl rfl rfl ?_
    refine pw_bipush_n (q := 254) C 16 dL_earns_252 (by decide +kernel) rfl ?_
    refine pw_iconst_n (q := 255) C 0 dL_earns_254 (by decide +kernel) rfl ?_
    refine pw_iconst_n (q := 256) C 0 dL_earns_255 (by decide +kernel) rfl ?_
    refine pw_iconst_n (q := 257) C 0 dL_earns_256 (by decide +kernel) rfl ?_
    refine pw_iconst_n (q := 258) C 0 dL_earns_257 (by decide +kernel) rfl ?_
    refine pw_val (q := 261) (cr_s (j := iL_call) C dL_earns_258 lL_170 mL_call (ro_mk (by decide) (by decide))  (u_undo hU) rfl rfl (Nat.le_of_ble_eq_true rfl) ⟨by omega, by omega⟩) rfl (fun M258 e258 => ?_)
    refine pw_if_lt (q := 264) 268 C dL_earns_261 (by decide) rfl (fun g261 => absurd g261 (nI_pos (by omega))) (fun g261 => ?_)
    refine pw_iconst_n (q := 265) C 1 dL_earns_264 (by decide +kernel) rfl ?_
    refine pw_goto (q := 0) 269 C dL_earns_265 (by decide) ?_
    refine pw_and11 (q := 270) C dL_earns_269 rfl ?_
    refine pw_istore (q := 272) C dL_earns_270 rfl (by decide) rfl ?_
    refine pw_iinc_n (q := 275) C 1 dL_earns_272 rfl (by decide +kernel) rfl (by decide) rfl ?_
    refine pw_goto (q := 0) 243 C dL_earns_275 (by decide) ?_
    have z := ih (r + 1) (by omega) _ _ (hU.undo e258)
    rw [show 2 * (K + 1) + 2 * (r + 1) = 2 * (K + 1) + 2 * r + 2 by omega, show 12 * (K + 1) + 12 * (r + 1) = 12 * (K + 1) + 12 * r + 12 by omega] at z
    exact z
set_option maxHeartbeats 200000 in
set_option maxRecDepth 100000 in
theorem v_earns {M : PH} {x D b : Nat} {S : St} (hX : RepX M x S) (hG : SG D S) (hD : D < 90000) (hb9 : b ≤ 9) : Run iL_earns [.ref x, .int (nI b)] M 64 800 (RV (.int (nI 1)) (fun M1 => RepX M1 x (earnsS S) ∧ Fr M M1 x)) := by
  have hS := hG.1
  have hI := hS.1.1
  have hb := hI.b
  have h14 := hX.m14
  have hn := cntS_le hI 0
  have hF := hG.2.1
  have m1 := hF.owed
  have m2 : owedAll (sP S) ≤ 54000000 := by
    have m3 : sP S 6 * (100 * D) ≤ 6 * (100 * D) := Nat.mul_le_mul_right _ (by omega)
    omega
  have m3 := earn_le9 hI b (n := sP S 7) (Nat.le_refl _)
  have m4 : earn (sP S) b = sumN (earnF (sP S) b) (sP S 7) := rfl
  have h00 : 0 ≤ 64 ∧ 0 ≤ 800 := ⟨Nat.zero_le _, Nat.zero_le _⟩
  refine Run.of (l0 := [some (.ref x), some (.int (nI b)), none, none, none, none, none, none, none, none, none]) (by decide +kernel) (Nat.le_of_ble_eq_true rfl) (by rfl) (fun Γ G C => ?_)
  refine pw_iconst_n (q := 1) C 0 dL_earns_0 (by decide +kernel) rfl ?_
  refine pw_istore_n (q := 2) (j := 2) C dL_earns_1 rfl rfl (by decide) rfl ?_
  refine pw_iconst_n (q := 3) C 0 dL_earns_2 (by decide +kernel) rfl ?_
  refine pw_istore_n (q := 4) (j := 3) C dL_earns_3 rfl rfl (by decide) rfl ?_
  refine earns1 hX hG hD hb9 C h00 ?_ (sP S 7) 0 (by omega) 0 rfl
  refine pw_iload_n (q := 37) (j := 2) C dL_earns_36 rfl rfl rfl ?_
  refine pw_bipush_n (q := 39) C 11 dL_earns_37 (by decide +kernel) rfl ?_
  refine pw_icmp_le_n (q := 42) 44 C dL_earns_39 (by decide) rfl (by omega) (by omega) (fun g39 => ?_) (fun g39 => ?_)
  · have h11 : cntS (sP S) 0 ≤ 11 := by omega
    refine pw_aload_n (q := 45) (j := 0) C dL_earns_44 rfl rfl rfl ?_
    refine pw_rd (q := 48) (cr_s (j := iL_sum) C dL_earns_45 lL_184 mL_sum (ro_mk (by decide) (by decide))  (v_sum hX hS) rfl rfl (Nat.le_of_ble_eq_true rfl) ⟨by omega, by omega⟩) rfl ?_
    refine pw_lstore_n (q := 49) (j := 3) C dL_earns_48 rfl rfl (by decide) rfl ?_
    refine pw_aload_n (q := 50) (j := 0) C dL_earns_49 rfl rfl rfl ?_
    refine pw_bipush_n (q := 52) C 19 dL_earns_50 (by decide +kernel) rfl ?_
    refine pw_iload_n (q := 53) (j := 1) C dL_earns_52 rfl rfl rfl ?_
    refine pw_iconst_n (q := 54) C 0 dL_earns_53 (by decide +kernel) rfl ?_
    refine pw_iconst_n (q := 55) C 0 dL_earns_54 (by decide +kernel) rfl ?_
    refine pw_iconst_n (q := 56) C 0 dL_earns_55 (by decide +kernel) rfl ?_
    refine pw_rd (q := 59) (cr_s (j := iL_call) C dL_earns_56 lL_170 mL_call (ro_mk (by decide) (by decide))  (v_earn hX hS hb9) rfl rfl (Nat.le_of_ble_eq_true rfl) ⟨by omega, by omega⟩) rfl ?_
    refine pw_istore (q := 61) C dL_earns_59 rfl (by decide) rfl ?_
    refine pw_aload_n (q := 62) (j := 0) C dL_earns_61 rfl rfl rfl ?_
    refine pw_bipush_n (q := 64) C 9 dL_earns_62 (by decide +kernel) rfl ?_
    refine pw_rd (q := 67) (cr_s (j := iL_about) C dL_earns_64 lL_176 mL_about (ro_mk (by decide) (by decide))  (v_a9 hX hS) rfl rfl (Nat.le_of_ble_eq_true rfl) ⟨by omega, by omega⟩) rfl ?_
    refine pw_istore (q := 69) C dL_earns_67 rfl (by decide) rfl ?_
    refine pw_aload_n (q := 70) (j := 0) C dL_earns_69 rfl rfl rfl ?_
    refine pw_bipush_n (q := 72) C 10 dL_earns_70 (by decide +kernel) rfl ?_
    refine pw_iload_n (q := 73) (j := 1) C dL_earns_72 rfl rfl rfl ?_
    refine pw_iconst_n (q := 74) C 0 dL_earns_73 (by decide +kernel) rfl ?_
    refine pw_iconst_n (q := 75) C 0 dL_earns_74 (by decide +kernel) rfl ?_
    refine pw_iconst_n (q := 76) C 0 dL_earns_75 (by decide +kernel) rfl ?_
    refine pw_val (q := 79) (cr_s (j := iL_call) C dL_earns_76 lL_170 mL_call (ro_mk (by decide) (by decide))  (a_of (g_bound hX hS) (e_bound hb9)) rfl rfl (Nat.le_of_ble_eq_true rfl) ⟨by omega, by omega⟩) rfl (fun M76 e76 => ?_)
    have hSI1 := (SI.start hX hG).act h14 (by omega) e76 (by have z := sg_setBound hG (nI b); rw [e_bound hb9] at z; exact z)
    refine pw_if_lt (q := 82) 86 C dL_earns_79 (by decide) rfl (fun g79 => absurd g79 (nI_pos (by omega))) (fun g79 => ?_)
    refine pw_iconst_n (q := 83) C 1 dL_earns_82 (by decide +kernel) rfl ?_
    refine pw_goto (q := 0) 87 C dL_earns_83 (by decide) ?_
    refine pw_istore (q := 89) C dL_earns_87 rfl (by decide) rfl ?_
    refine pw_iconst_n (q := 90) C 0 dL_earns_89 (by decide +kernel) rfl ?_
    refine pw_istore (q := 92) C dL_earns_90 rfl (by decide) rfl ?_
    refine pw_iconst_n (q := 93) C 0 dL_earns_92 (by decide +kernel) rfl ?_
    refine pw_istore (q := 95) C dL_earns_93 rfl (by decide) rfl ?_
    refine earns2 hI h14 h11 hb9 C (fun M1 T v10 hSI hE => ?_) (sP S 7) 0 (by omega) _ _ 1 0 none hSI1 (EP.start hb.2.2.2.1) rfl rfl
    refine pw_iload (q := 211) C dL_earns_209 rfl rfl ?_
    refine pw_iload (q := 213) C dL_earns_211 rfl rfl ?_
    refine pw_iload (q := 215) C dL_earns_213 rfl rfl ?_
    refine pw_icmp_ne_n (q := 218) 236 C dL_earns_215 (by decide) rfl (by omega) (by omega) (fun g215 => absurd g215 (by omega)) (fun g215 => ?_)
    refine pw_aload_n (q := 219) (j := 0) C dL_earns_218 rfl rfl rfl ?_
    refine pw_bipush_n (q := 221) C 9 dL_earns_219 (by decide +kernel) rfl ?_
    refine pw_rd (q := 224) (cr_s (j := iL_about) C dL_earns_221 lL_176 mL_about (ro_mk (by decide) (by decide))  (v_a9 hSI.1 hSI.2.2.1.1) rfl rfl (Nat.le_of_ble_eq_true rfl) ⟨by omega, by omega⟩) rfl ?_
    rw [hE.2.2.2.2.2.2.2, ← m4]
    refine pw_iload (q := 226) C dL_earns_224 rfl rfl ?_
    refine pw_iload (q := 228) C dL_earns_226 rfl rfl ?_
    refine pw_iadd_n (q := 229) C dL_earns_228 rfl ?_
    refine pw_icmp_ne_n (q := 232) 236 C dL_earns_229 (by decide) rfl (by omega) (by omega) (fun g229 => absurd g229 (by omega)) (fun g229 => ?_)
    refine pw_iconst_n (q := 233) C 1 dL_earns_232 (by decide +kernel) rfl ?_
    refine pw_goto (q := 0) 237 C dL_earns_233 (by decide) ?_
    refine pw_and11 (q := 238) C dL_earns_237 rfl ?_
    refine pw_istore (q := 240) C dL_earns_238 rfl (by decide) rfl ?_
    refine pw_iconst_n (q := 241) C 0 dL_earns_240 (by decide +kernel) rfl ?_
    refine pw_istore (q := 243) C dL_earns_241 rfl (by decide) rfl ?_
    refine earns3 (v10 := v10) h11 C (fun M1 U hU => ?_) (cntS (sP S) 0 + 1) 0 (by omega) M1 T (UI.start hSI)
    clear hSI hE
    refine pw_iload (q := 280) C dL_earns_278 rfl rfl ?_
    refine pw_if_eq_n (q := 283) 296 C dL_earns_280 (by decide) rfl (by omega) (fun g280 => absurd g280 (by decide)) (fun g280 => ?_)
    refine pw_aload_n (q := 284) (j := 0) C dL_earns_283 rfl rfl rfl ?_
    refine pw_rd (q := 287) (cr_s (j := iL_sum) C dL_earns_284 lL_184 mL_sum (ro_mk (by decide) (by decide))  (v_sum hU.1 hU.2.2.1.1) rfl rfl (Nat.le_of_ble_eq_true rfl) ⟨by omega, by omega⟩) rfl ?_
    refine pw_lload_n (q := 288) (j := 3) C dL_earns_287 rfl rfl rfl ?_
    refine pw_lcmp0 (q := 289) C dL_earns_288 (by rw [hU.page]) rfl ?_
    refine pw_if_ne_n (q := 292) 296 C dL_earns_289 (by decide) rfl (by omega) (fun g289 => absurd g289 (fun h => h rfl)) (fun g289 => ?_)
    refine pw_iconst_n (q := 293) C 1 dL_earns_292 (by decide +kernel) rfl ?_
    refine pw_goto (q := 0) 297 C dL_earns_293 (by decide) ?_
    exact pw_zret C dL_earns_297 rfl (by first | decide +kernel | exact nar_bN _ | exact nar_01 (by omega)) ⟨by omega, by omega⟩ (RV.mk rfl (by unfold earnsS; rw [if_pos h11]; exact hU.end))
  · refine pw_iconst_n (q := 43) C 1 dL_earns_42 (by decide +kernel) rfl ?_
    exact pw_zret C dL_earns_43 rfl (by first | decide +kernel | exact nar_bN _ | exact nar_01 (by omega)) ⟨by omega, by omega⟩ (RV.mk rfl ⟨by unfold earnsS; rw [if_neg (by omega)]; exact hX, Fr.rf⟩)
