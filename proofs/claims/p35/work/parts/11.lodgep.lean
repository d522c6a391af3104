/-! What a lodge's tables take. -/
theorem pw_heap {Γ : CX} {G : GC} {Z : State → Prop} {pc k n : Nat} {ls : LL} {st : List Value} {M : PH} (Φ : PH → Prop) (h : Φ M) (K : ∀ M9 : PH, Φ M9 → PW Γ G Z pc ls st M9 k n) : PW Γ G Z pc ls st M k n := K M h
theorem fit_01 {a : Nat} (h : a ≤ 1) : fits .boolean (.int (nI a)) = true := by
  have : a = 0 ∨ a = 1 := by omega
  rcases this with rfl | rfl <;> decide +kernel
theorem upd_at (f : Nat → Int32) (k : Nat) (x : Int32) : upd f k x k = x := if_pos rfl
theorem upd_ne {f : Nat → Int32} {k j : Nat} {x : Int32} (h : j ≠ k) : upd f k x j = f j := if_neg h
section
variable {M : PH} {a : Nat} {P : Nat → Nat} {fc fm fs : Nat → Int32}
theorem RelA.put_c {c j v : Nat} (h : RelA P fc fm fs) (hb : P 5 ≤ 6) (hc : c < P 5) (hj : j < 3) : RelA (updN P (8 + 3 * c + j) v) (upd fc (c * 3 + j) (nI v)) fm fs := by
  refine ⟨fun c' j' hc' hj' => ?_, fun m' j' hm' hj' => ?_, fun s' j' hs' hj' => ?_⟩
  · rw [updN_ne (by omega)] at hc'
    by_cases e : c' = c ∧ j' = j
    · obtain ⟨rfl, rfl⟩ := e; rw [upd_at, updN_at]
    · rw [upd_ne (by omega), updN_ne (by omega)]; exact h.c j' hc' hj'
  · rw [updN_ne (by omega)] at hm'
    rw [updN_ne (by omega)]; exact h.m j' hm' hj'
  · rw [updN_ne (by omega)] at hs'
    rw [updN_ne (by omega)]; exact h.s j' hs' hj'
theorem RelA.put_m {m j v : Nat} (h : RelA P fc fm fs) (hb : P 5 ≤ 6) (hb6 : P 6 ≤ 6) (hm : m < P 6) (hj : j < 4) : RelA (updN P (26 + 4 * m + j) v) fc (upd fm (m * 4 + j) (nI v)) fs := by
  refine ⟨fun c' j' hc' hj' => ?_, fun m' j' hm' hj' => ?_, fun s' j' hs' hj' => ?_⟩
  · rw [updN_ne (by omega)] at hc'
    rw [updN_ne (by omega)]; exact h.c j' hc' hj'
  · rw [updN_ne (by omega)] at hm'
    by_cases e : m' = m ∧ j' = j
    · obtain ⟨rfl, rfl⟩ := e; rw [upd_at, updN_at]
    · rw [upd_ne (by omega), updN_ne (by omega)]; exact h.m j' hm' hj'
  · rw [updN_ne (by omega)] at hs'
    rw [updN_ne (by omega)]; exact h.s j' hs' hj'
theorem RelA.put_s {s j v : Nat} (h : RelA P fc fm fs) (hb : P 5 ≤ 6) (hb6 : P 6 ≤ 6) (hs : s < P 7) (hj : j < 6) : RelA (updN P (50 + 6 * s + j) v) fc fm (upd fs (s * 6 + j) (nI v)) := by
  refine ⟨fun c' j' hc' hj' => ?_, fun m' j' hm' hj' => ?_, fun s' j' hs' hj' => ?_⟩
  · rw [updN_ne (by omega)] at hc'
    rw [updN_ne (by omega)]; exact h.c j' hc' hj'
  · rw [updN_ne (by omega)] at hm'
    rw [updN_ne (by omega)]; exact h.m j' hm' hj'
  · rw [updN_ne (by omega)] at hs'
    by_cases e : s' = s ∧ j' = j
    · obtain ⟨rfl, rfl⟩ := e; rw [upd_at, updN_at]
    · rw [upd_ne (by omega), updN_ne (by omega)]; exact h.s j' hs' hj'
theorem LodgeAt.bd (h : LodgeAt M a P) : P 5 ≤ 6 ∧ P 6 ≤ 6 ∧ P 7 ≤ 24 := by
  obtain ⟨fc, fm, fs, hG, hr⟩ := h
  exact ⟨hG.2.1.2.2.1, hG.2.2.1.2.2.1, hG.2.2.2.2.2.1⟩
/-- another row of numbers, alike where the lodge's tables look -/
theorem LodgeAt.cong {P1 : Nat → Nat} (h : LodgeAt M a P) (h8 : ∀ k, k < 8 → P1 k = P k) (hc : ∀ k, 8 ≤ k → k < 8 + 3 * P 5 → P1 k = P k) (hm : ∀ k, 26 ≤ k → k < 26 + 4 * P 6 → P1 k = P k) (hs : ∀ k, 50 ≤ k → k < 50 + 6 * P 7 → P1 k = P k) : LodgeAt M a P1 := by
  obtain ⟨fc, fm, fs, hG, hr⟩ := h
  refine ⟨fc, fm, fs, hG.cong h8, fun c j h1 h2 => ?_, fun m j h1 h2 => ?_, fun s j h1 h2 => ?_⟩
  · rw [h8 5 (by omega)] at h1; rw [hc _ (by omega) (by omega)]; exact hr.c j h1 h2
  · rw [h8 6 (by omega)] at h1; rw [hm _ (by omega) (by omega)]; exact hr.m j h1 h2
  · rw [h8 7 (by omega)] at h1; rw [hs _ (by omega) (by omega)]; exact hr.s j h1 h2
/-- a number of its own -/
theorem LodgeAt.sc (h : LodgeAt M a P) (k v : Nat) (hk : k < 5) : LodgeAt (hput M a (.inr (1, [.ref (a + 1), .ref (a + 3), .ref (a + 5), .int (nI (updN P k v 1)), .int (nI (updN P k v 2)), .int (nI (updN P k v 0)), .int (nI (updN P k v 3)), .int (nI (updN P k v 4))]))) a (updN P k v) := by
  obtain ⟨fc, fm, fs, ⟨h0, h1, h2, h3⟩, hr⟩ := h
  refine ⟨fc, fm, fs, ⟨hput_at _ _ _, ?_, ?_, ?_⟩, fun c j h4 h5 => ?_, fun m j h4 h5 => ?_, fun s j h4 h5 => ?_⟩
  · rw [updN_ne (show 5 ≠ k by omega)]; exact h1.keep (hput_ne (show a + 1 ≠ a by omega)) (hput_ne (show a + 2 ≠ a by omega))
  · rw [updN_ne (show 6 ≠ k by omega)]; exact h2.keep (hput_ne (show a + 3 ≠ a by omega)) (hput_ne (show a + 4 ≠ a by omega))
  · rw [updN_ne (show 7 ≠ k by omega)]; exact h3.keep (hput_ne (show a + 5 ≠ a by omega)) (hput_ne (show a + 6 ≠ a by omega))
  · rw [updN_ne (by omega)] at h4 ⊢; exact hr.c j h4 h5
  · rw [updN_ne (by omega)] at h4 ⊢; exact hr.m j h4 h5
  · rw [updN_ne (by omega)] at h4 ⊢; exact hr.s j h4 h5
theorem RN.imp {P0 Q0 : PH → Prop} {i : MI} {as : List Value} {mc ms : Nat} (h : Run i as M mc ms (RN P0)) (hi : ∀ M1, P0 M1 → Q0 M1) : Run i as M mc ms (RN Q0) := by
  intro l G hst
  obtain h1 := h l G hst
  intro p e ha hc hk s m args below hf happ hP hK
  obtain ⟨n, o, h1, h2, h3, h4⟩ := h1 p e ha hc hk s m args below hf happ hP hK
  refine ⟨n, o, h1, h2, h3, ?_⟩
  rcases h4 with ⟨⟨⟨v, M1, e1, ⟨e2, e3⟩, e4⟩, e5⟩, e6⟩ | ⟨q, e1, E, ce, L, ⟨⟨M1, ⟨e2, _⟩, _⟩, _⟩, _⟩
  · exact Or.inl ⟨⟨⟨v, M1, e1, ⟨e2, hi _ e3⟩, e4⟩, e5⟩, e6⟩
  · cases e2
theorem p_c (hL : LodgeAt M a P) {c j : Nat} (v : Nat) (hc : c < P 5) (hj : j < 3) : Run iX8_put [.ref (a + 1), .int (nI c), .int (nI j), .int (nI v)] M 0 0 (RN (fun M1 => LodgeAt M1 a (updN P (8 + 3 * c + j) v) ∧ Same M M1 a (a + 7))) := by
  have hb := hL.bd
  obtain ⟨fc, fm, fs, hG, hr⟩ := hL
  refine RN.imp (k_put_in hG.2.1 hc hj _) (fun M1 e => ?_)
  subst e
  exact ⟨⟨_, _, _, hG.put_c.cong (fun k hk => updN_ne (by omega)), hr.put_c (by omega) hc hj⟩, Same.put (by omega) (by omega)⟩
theorem p_m (hL : LodgeAt M a P) {m j : Nat} (v : Nat) (hm : m < P 6) (hj : j < 4) : Run iX8_put [.ref (a + 3), .int (nI m), .int (nI j), .int (nI v)] M 0 0 (RN (fun M1 => LodgeAt M1 a (updN P (26 + 4 * m + j) v) ∧ Same M M1 a (a + 7))) := by
  have hb := hL.bd
  obtain ⟨fc, fm, fs, hG, hr⟩ := hL
  refine RN.imp (k_put_in hG.2.2.1 hm hj _) (fun M1 e => ?_)
  subst e
  exact ⟨⟨_, _, _, hG.put_m.cong (fun k hk => updN_ne (by omega)), hr.put_m (by omega) (by omega) hm hj⟩, Same.put (by omega) (by omega)⟩
theorem p_s (hL : LodgeAt M a P) {s j : Nat} (v : Nat) (hs : s < P 7) (hj : j < 6) : Run iX8_put [.ref (a + 5), .int (nI s), .int (nI j), .int (nI v)] M 0 0 (RN (fun M1 => LodgeAt M1 a (updN P (50 + 6 * s + j) v) ∧ Same M M1 a (a + 7))) := by
  have hb := hL.bd
  obtain ⟨fc, fm, fs, hG, hr⟩ := hL
  refine RN.imp (k_put_in hG.2.2.2 hs hj _) (fun M1 e => ?_)
  subst e
  exact ⟨⟨_, _, _, hG.put_s.cong (fun k hk => updN_ne (by omega)), hr.put_s (by omega) (by omega) hs hj⟩, Same.put (by omega) (by omega)⟩
theorem i_m (hL : LodgeAt M a P) {m j : Nat} {x : Int32} (v : Nat) (hm : m < P 6) (hj : j < 4) (hv : nI (P (26 + 4 * m + j)) + x = nI v) : Run iX8_increase [.ref (a + 3), .int (nI m), .int (nI j), .int x] M 0 0 (RN (fun M1 => LodgeAt M1 a (updN P (26 + 4 * m + j) v) ∧ Same M M1 a (a + 7))) := by
  have hb := hL.bd
  obtain ⟨fc, fm, fs, hG, hr⟩ := hL
  refine RN.imp (k_increase_in hG.2.2.1 hm hj _) (fun M1 e => ?_)
  subst e
  rw [hr.m j hm hj, hv]
  exact ⟨⟨_, _, _, hG.put_m.cong (fun k hk => updN_ne (by omega)), hr.put_m (by omega) (by omega) hm hj⟩, Same.put (by omega) (by omega)⟩
theorem i_s (hL : LodgeAt M a P) {s j : Nat} {x : Int32} (v : Nat) (hs : s < P 7) (hj : j < 6) (hv : nI (P (50 + 6 * s + j)) + x = nI v) : Run iX8_increase [.ref (a + 5), .int (nI s), .int (nI j), .int x] M 0 0 (RN (fun M1 => LodgeAt M1 a (updN P (50 + 6 * s + j) v) ∧ Same M M1 a (a + 7))) := by
  have hb := hL.bd
  obtain ⟨fc, fm, fs, hG, hr⟩ := hL
  refine RN.imp (k_increase_in hG.2.2.2 hs hj _) (fun M1 e => ?_)
  subst e
  rw [hr.s j hs hj, hv]
  exact ⟨⟨_, _, _, hG.put_s.cong (fun k hk => updN_ne (by omega)), hr.put_s (by omega) (by omega) hs hj⟩, Same.put (by omega) (by omega)⟩
end
theorem nI_subI {a b : Nat} (h : b ≤ a) : nI a + -nI b = nI (a - b) := by
  rw [← nI_sub h]
  exact (Int32.sub_eq_add_neg _ _).symm
/-- work given out to the masons below m -/
def workAt (P : Nat → Nat) (m : Nat) : Nat → Nat := fun k => if 26 ≤ k ∧ k < 26 + 4 * m ∧ (k - 26) % 4 = 2 then (if P 2 = 0 then P (k - 1) else 0) else P k
def owedAt (P : Nat → Nat) (m : Nat) : Nat → Nat := fun k => if 26 ≤ k ∧ k < 26 + 4 * m ∧ (k - 26) % 4 = 3 then P k + 2 * P (k - 3) else P k
theorem workAt_0 (P : Nat → Nat) : workAt P 0 = P := by
  funext k; unfold workAt; rw [if_neg (by omega)]
theorem owedAt_0 (P : Nat → Nat) : owedAt P 0 = P := by
  funext k; unfold owedAt; rw [if_neg (by omega)]
theorem payAt_0 (P : Nat → Nat) : payAt P 0 = P := by
  funext k; unfold payAt; rw [if_neg (by omega)]
theorem workAt_succ (P : Nat → Nat) (m : Nat) : updN (workAt P m) (26 + 4 * m + 2) (if P 2 = 0 then P (26 + 4 * m + 1) else 0) = workAt P (m + 1) := by
  funext k
  unfold updN workAt
  by_cases h : k = 26 + 4 * m + 2
  · subst h
    have e : 26 ≤ 26 + 4 * m + 2 ∧ 26 + 4 * m + 2 < 26 + 4 * (m + 1) ∧ (26 + 4 * m + 2 - 26) % 4 = 2 := by omega
    rw [if_pos rfl, if_pos e]
    rfl
  · rw [if_neg h]
    by_cases h2 : 26 ≤ k ∧ k < 26 + 4 * m ∧ (k - 26) % 4 = 2
    · have e : 26 ≤ k ∧ k < 26 + 4 * (m + 1) ∧ (k - 26) % 4 = 2 := by omega
      rw [if_pos h2, if_pos e]
    · rw [if_neg h2, if_neg (by omega)]
theorem owedAt_succ (P : Nat → Nat) (m : Nat) : updN (owedAt P m) (26 + 4 * m + 3) (P (26 + 4 * m + 3) + 2 * P (26 + 4 * m)) = owedAt P (m + 1) := by
  funext k
  unfold updN owedAt
  by_cases h : k = 26 + 4 * m + 3
  · subst h
    rw [if_pos rfl, if_pos (by omega)]
    rfl
  · rw [if_neg h]
    by_cases h2 : 26 ≤ k ∧ k < 26 + 4 * m ∧ (k - 26) % 4 = 3
    · rw [if_pos h2, if_pos (by omega)]
    · rw [if_neg h2, if_neg (by omega)]
theorem payAt_succ (P : Nat → Nat) (m : Nat) : updN (payAt P m) (26 + 4 * m + 3) 0 = payAt P (m + 1) := by
  funext k
  unfold updN payAt
  by_cases h : k = 26 + 4 * m + 3
  · subst h
    rw [if_pos rfl, if_pos (by omega)]
  · rw [if_neg h]
    by_cases h2 : 26 ≤ k ∧ k < 26 + 4 * m ∧ (k - 26) % 4 = 3
    · rw [if_pos h2, if_pos (by omega)]
    · rw [if_neg h2, if_neg (by omega)]
theorem workAt_ne {P : Nat → Nat} {m k : Nat} (h : ¬ (26 ≤ k ∧ k < 26 + 4 * m ∧ (k - 26) % 4 = 2)) : workAt P m k = P k := if_neg h
theorem owedAt_ne {P : Nat → Nat} {m k : Nat} (h : ¬ (26 ≤ k ∧ k < 26 + 4 * m ∧ (k - 26) % 4 = 3)) : owedAt P m k = P k := if_neg h
theorem payAt_ne {P : Nat → Nat} {m k : Nat} (h : ¬ (26 ≤ k ∧ k < 26 + 4 * m ∧ (k - 26) % 4 = 3)) : payAt P m k = P k := if_neg h
section
variable {M : PH} {a : Nat} {P : Nat → Nat} {fc fm fs : Nat → Int32}
theorem LodgeG.sc (h : LodgeG M a P fc fm fs) (k v : Nat) (hk : k < 5) : LodgeG (hput M a (.inr (1, [.ref (a + 1), .ref (a + 3), .ref (a + 5), .int (nI (updN P k v 1)), .int (nI (updN P k v 2)), .int (nI (updN P k v 0)), .int (nI (updN P k v 3)), .int (nI (updN P k v 4))]))) a (updN P k v) fc fm fs := by
  obtain ⟨h0, h1, h2, h3⟩ := h
  refine ⟨hput_at _ _ _, ?_, ?_, ?_⟩
  · rw [updN_ne (show 5 ≠ k by omega)]; exact h1.keep (hput_ne (show a + 1 ≠ a by omega)) (hput_ne (show a + 2 ≠ a by omega))
  · rw [updN_ne (show 6 ≠ k by omega)]; exact h2.keep (hput_ne (show a + 3 ≠ a by omega)) (hput_ne (show a + 4 ≠ a by omega))
  · rw [updN_ne (show 7 ≠ k by omega)]; exact h3.keep (hput_ne (show a + 5 ≠ a by omega)) (hput_ne (show a + 6 ≠ a by omega))
theorem LodgeG.keep {M1 : PH} (h : LodgeG M a P fc fm fs) (hs : ∀ q, a ≤ q → q < a + 7 → M1.2 q = M.2 q) : LodgeG M1 a P fc fm fs :=
  ⟨(hs _ (by omega) (by omega)).trans h.1, h.2.1.keep (hs _ (by omega) (by omega)) (hs _ (by omega) (by omega)), h.2.2.1.keep (hs _ (by omega) (by omega)) (hs _ (by omega) (by omega)), h.2.2.2.keep (hs _ (by omega) (by omega)) (hs _ (by omega) (by omega))⟩
theorem six {j : Nat} (h : j < 6) : j = 0 ∨ j = 1 ∨ j = 2 ∨ j = 3 ∨ j = 4 ∨ j = 5 := by omega
theorem newStone_lo {m c f k : Nat} (hk : k < 8) : newStoneP P m c f k = updN P 7 (P 7 + 1) k := by
  unfold newStoneP
  by_cases h : k = 7
  · subst h; rw [updN_at, updN_at]
  · rw [updN_ne h, updN_ne h, updN_ne (by omega), updN_ne (by omega), updN_ne (by omega), updN_ne (by omega), updN_ne (by omega), updN_ne (by omega)]
theorem newStone_out {m c f k : Nat} (hk : k ≠ 7) (h : k < 50 + 6 * P 7 ∨ 50 + 6 * P 7 + 6 ≤ k) : newStoneP P m c f k = P k := by
  unfold newStoneP
  rw [updN_ne hk, updN_ne (by omega), updN_ne (by omega), updN_ne (by omega), updN_ne (by omega), updN_ne (by omega), updN_ne (by omega)]
theorem newStone_at {m c f : Nat} : newStoneP P m c f (50 + 6 * P 7) = c ∧ newStoneP P m c f (50 + 6 * P 7 + 1) = m ∧ newStoneP P m c f (50 + 6 * P 7 + 2) = f ∧ newStoneP P m c f (50 + 6 * P 7 + 3) = 0 ∧ newStoneP P m c f (50 + 6 * P 7 + 4) = 0 ∧ newStoneP P m c f (50 + 6 * P 7 + 5) = m := by
  unfold newStoneP
  refine ⟨?_, ?_, ?_, ?_, ?_, ?_⟩
  · rw [updN_ne (by omega), updN_ne (by omega), updN_ne (by omega), updN_ne (by omega), updN_ne (by omega), updN_ne (by omega), updN_at]
  · rw [updN_ne (by omega), updN_ne (by omega), updN_ne (by omega), updN_ne (by omega), updN_ne (by omega), updN_at]
  · rw [updN_ne (by omega), updN_ne (by omega), updN_ne (by omega), updN_ne (by omega), updN_at]
  · rw [updN_ne (by omega), updN_ne (by omega), updN_ne (by omega), updN_at]
  · rw [updN_ne (by omega), updN_ne (by omega), updN_at]
  · rw [updN_ne (by omega), updN_at]
theorem newStone_rel (hr : RelA P fc fm fs) (hb : P 5 ≤ 6 ∧ P 6 ≤ 6 ∧ P 7 ≤ 24) (m c f : Nat) : RelA (newStoneP P m c f) fc fm (upd (upd (upd (upd (upd (upd fs (P 7 * 6 + 0) (nI c)) (P 7 * 6 + 1) (nI m)) (P 7 * 6 + 2) (nI f)) (P 7 * 6 + 3) (nI 0)) (P 7 * 6 + 4) (nI 0)) (P 7 * 6 + 5) (nI m)) := by
  have h7 : newStoneP P m c f 7 = P 7 + 1 := by rw [newStone_lo (by omega), updN_at]
  refine ⟨fun c' j hc hj => ?_, fun m' j hm hj => ?_, fun s j hs hj => ?_⟩
  · rw [newStone_out (by omega) (by omega)] at hc
    rw [newStone_out (by omega) (by omega)]; exact hr.c j hc hj
  · rw [newStone_out (by omega) (by omega)] at hm
    rw [newStone_out (by omega) (by omega)]; exact hr.m j hm hj
  · rw [h7] at hs
    by_cases e : s = P 7
    · subst e
      obtain ⟨a0, a1, a2, a3, a4, a5⟩ := newStone_at (P := P) (m := m) (c := c) (f := f)
      rcases six hj with rfl | rfl | rfl | rfl | rfl | rfl
      · rw [show 50 + 6 * P 7 + 0 = 50 + 6 * P 7 from rfl, a0]; rw [upd_ne (by omega), upd_ne (by omega), upd_ne (by omega), upd_ne (by omega), upd_ne (by omega), upd_at]
      · rw [a1, upd_ne (by omega), upd_ne (by omega), upd_ne (by omega), upd_ne (by omega), upd_at]
      · rw [a2, upd_ne (by omega), upd_ne (by omega), upd_ne (by omega), upd_at]
      · rw [a3, upd_ne (by omega), upd_ne (by omega), upd_at]
      · rw [a4, upd_ne (by omega), upd_at]
      · rw [a5, upd_at]
    · rw [newStone_out (by omega) (by omega), upd_ne (by omega), upd_ne (by omega), upd_ne (by omega), upd_ne (by omega), upd_ne (by omega), upd_ne (by omega)]
      exact hr.s j (by omega) hj
theorem newCourse_lo {x y z k : Nat} (hk : k < 8) : newCourseP P x y z k = updN P 5 (P 5 + 1) k := by
  unfold newCourseP
  by_cases h : k = 5
  · subst h; rw [updN_at, updN_at]
  · rw [updN_ne h, updN_ne h, updN_ne (by omega), updN_ne (by omega), updN_ne (by omega)]
theorem newCourse_out {x y z k : Nat} (hk : k ≠ 5) (h : k < 8 + 3 * P 5 ∨ 8 + 3 * P 5 + 3 ≤ k) : newCourseP P x y z k = P k := by
  unfold newCourseP
  rw [updN_ne hk, updN_ne (by omega), updN_ne (by omega), updN_ne (by omega)]
theorem newCourse_at {x y z : Nat} : newCourseP P x y z (8 + 3 * P 5) = x ∧ newCourseP P x y z (8 + 3 * P 5 + 1) = y ∧ newCourseP P x y z (8 + 3 * P 5 + 2) = z := by
  unfold newCourseP
  refine ⟨?_, ?_, ?_⟩
  · rw [updN_ne (by omega), updN_ne (by omega), updN_ne (by omega), updN_at]
  · rw [updN_ne (by omega), updN_ne (by omega), updN_at]
  · rw [updN_ne (by omega), updN_at]
theorem newCourse_rel (hr : RelA P fc fm fs) (hb : P 5 < 6 ∧ P 6 ≤ 6 ∧ P 7 ≤ 24) (x y z : Nat) : RelA (newCourseP P x y z) (upd (upd (upd fc (P 5 * 3 + 0) (nI x)) (P 5 * 3 + 1) (nI y)) (P 5 * 3 + 2) (nI z)) fm fs := by
  have h7 : newCourseP P x y z 5 = P 5 + 1 := by rw [newCourse_lo (by omega), updN_at]
  refine ⟨fun s j hs hj => ?_, fun m' j hm hj => ?_, fun c' j hc hj => ?_⟩
  · rw [h7] at hs
    by_cases e : s = P 5
    · subst e
      obtain ⟨a0, a1, a2⟩ := newCourse_at (P := P) (x := x) (y := y) (z := z)
      rcases (show j = 0 ∨ j = 1 ∨ j = 2 by omega) with rfl | rfl | rfl
      · rw [show 8 + 3 * P 5 + 0 = 8 + 3 * P 5 from rfl, a0]; rw [upd_ne (by omega), upd_ne (by omega), upd_at]
      · rw [a1, upd_ne (by omega), upd_at]
      · rw [a2, upd_at]
    · rw [newCourse_out (by omega) (by omega), upd_ne (by omega), upd_ne (by omega), upd_ne (by omega)]
      exact hr.c j (by omega) hj
  · rw [newCourse_out (by omega) (by omega)] at hm
    rw [newCourse_out (by omega) (by omega)]; exact hr.m j hm hj
  · rw [newCourse_out (by omega) (by omega)] at hc
    rw [newCourse_out (by omega) (by omega)]; exact hr.s j hc hj
theorem newMason_lo {x y k : Nat} (hk : k < 8) : newMasonP P x y k = updN P 6 (P 6 + 1) k := by
  unfold newMasonP
  by_cases h : k = 6
  · subst h; rw [updN_at, updN_at]
  · rw [updN_ne h, updN_ne h, updN_ne (by omega), updN_ne (by omega), updN_ne (by omega), updN_ne (by omega)]
theorem newMason_out {x y k : Nat} (hk : k ≠ 6) (h : k < 26 + 4 * P 6 ∨ 26 + 4 * P 6 + 4 ≤ k) : newMasonP P x y k = P k := by
  unfold newMasonP
  rw [updN_ne hk, updN_ne (by omega), updN_ne (by omega), updN_ne (by omega), updN_ne (by omega)]
theorem newMason_at {x y : Nat} : newMasonP P x y (26 + 4 * P 6) = x ∧ newMasonP P x y (26 + 4 * P 6 + 1) = y ∧ newMasonP P x y (26 + 4 * P 6 + 2) = 0 ∧ newMasonP P x y (26 + 4 * P 6 + 3) = 0 := by
  unfold newMasonP
  refine ⟨?_, ?_, ?_, ?_⟩
  · rw [updN_ne (by omega), updN_ne (by omega), updN_ne (by omega), updN_ne (by omega), updN_at]
  · rw [updN_ne (by omega), updN_ne (by omega), updN_ne (by omega), updN_at]
  · rw [updN_ne (by omega), updN_ne (by omega), updN_at]
  · rw [updN_ne (by omega), updN_at]
theorem newMason_rel (hr : RelA P fc fm fs) (hb : P 5 ≤ 6 ∧ P 6 < 6 ∧ P 7 ≤ 24) (x y : Nat) : RelA (newMasonP P x y) fc (upd (upd (upd (upd fm (P 6 * 4 + 0) (nI x)) (P 6 * 4 + 1) (nI y)) (P 6 * 4 + 2) (nI 0)) (P 6 * 4 + 3) (nI 0)) fs := by
  have h7 : newMasonP P x y 6 = P 6 + 1 := by rw [newMason_lo (by omega), updN_at]
  refine ⟨fun m' j hm hj => ?_, fun s j hs hj => ?_, fun c' j hc hj => ?_⟩
  · rw [newMason_out (by omega) (by omega)] at hm
    rw [newMason_out (by omega) (by omega)]; exact hr.c j hm hj
  · rw [h7] at hs
    by_cases e : s = P 6
    · subst e
      obtain ⟨a0, a1, a2, a3⟩ := newMason_at (P := P) (x := x) (y := y)
      rcases (show j = 0 ∨ j = 1 ∨ j = 2 ∨ j = 3 by omega) with rfl | rfl | rfl | rfl
      · rw [show 26 + 4 * P 6 + 0 = 26 + 4 * P 6 from rfl, a0]; rw [upd_ne (by omega), upd_ne (by omega), upd_ne (by omega), upd_at]
      · rw [a1, upd_ne (by omega), upd_ne (by omega), upd_at]
      · rw [a2, upd_ne (by omega), upd_at]
      · rw [a3, upd_at]
    · rw [newMason_out (by omega) (by omega), upd_ne (by omega), upd_ne (by omega), upd_ne (by omega), upd_ne (by omega)]
      exact hr.m j (by omega) hj
  · rw [newMason_out (by omega) (by omega)] at hc
    rw [newMason_out (by omega) (by omega)]; exact hr.s j hc hj
theorem z_c (hL : LodgeAt M a P) : Run iX8_removeAll [.ref (a + 1)] M 0 0 (RN (fun M1 => LodgeAt M1 a (updN P 5 0) ∧ Same M M1 a (a + 7))) := by
  have hb := hL.bd
  obtain ⟨fc, fm, fs, hG, hr⟩ := hL
  refine RN.imp (k_removeAll hG.2.1) (fun M1 e => ?_)
  subst e
  refine ⟨⟨_, _, _, hG.rows_c (R := 0) (by omega), fun c j h1 h2 => ?_, fun m j h1 h2 => ?_, fun s j h1 h2 => ?_⟩, Same.put (by omega) (by omega)⟩
  · rw [updN_at] at h1; omega
  · rw [updN_ne (by omega)] at h1 ⊢; exact hr.m j h1 h2
  · rw [updN_ne (by omega)] at h1 ⊢; exact hr.s j h1 h2
theorem z_m (hL : LodgeAt M a P) : Run iX8_removeAll [.ref (a + 3)] M 0 0 (RN (fun M1 => LodgeAt M1 a (updN P 6 0) ∧ Same M M1 a (a + 7))) := by
  have hb := hL.bd
  obtain ⟨fc, fm, fs, hG, hr⟩ := hL
  refine RN.imp (k_removeAll hG.2.2.1) (fun M1 e => ?_)
  subst e
  refine ⟨⟨_, _, _, hG.rows_m (R := 0) (by omega), fun c j h1 h2 => ?_, fun m j h1 h2 => ?_, fun s j h1 h2 => ?_⟩, Same.put (by omega) (by omega)⟩
  · rw [updN_ne (by omega)] at h1 ⊢; exact hr.c j h1 h2
  · rw [updN_at] at h1; omega
  · rw [updN_ne (by omega)] at h1 ⊢; exact hr.s j h1 h2
theorem z_s (hL : LodgeAt M a P) : Run iX8_removeAll [.ref (a + 5)] M 0 0 (RN (fun M1 => LodgeAt M1 a (updN P 7 0) ∧ Same M M1 a (a + 7))) := by
  have hb := hL.bd
  obtain ⟨fc, fm, fs, hG, hr⟩ := hL
  refine RN.imp (k_removeAll hG.2.2.2) (fun M1 e => ?_)
  subst e
  refine ⟨⟨_, _, _, hG.rows_s (R := 0) (by omega), fun c j h1 h2 => ?_, fun m j h1 h2 => ?_, fun s j h1 h2 => ?_⟩, Same.put (by omega) (by omega)⟩
  · rw [updN_ne (by omega)] at h1 ⊢; exact hr.c j h1 h2
  · rw [updN_ne (by omega)] at h1 ⊢; exact hr.m j h1 h2
  · rw [updN_at] at h1; omega
end
/-- a new lodge -/
def newP : Nat → Nat := fun k => if k = 0 then 3 else 0
theorem dayP_of (P : Nat → Nat) : owedAt (updN (workAt (updN (updN P 1 (P 1 + 1)) 2 1) (P 6)) 4 (P 4 + 1)) (P 6) = dayP P 1 := by
  funext k
  unfold owedAt dayP dayAt
  by_cases h1 : k = 1
  · subst h1; rw [if_neg (by omega), updN_ne (by omega), workAt_ne (by omega), updN_ne (by omega), updN_at]; rfl
  · by_cases h2 : k = 2
    · subst h2; rw [if_neg (by omega), updN_ne (by omega), workAt_ne (by omega), updN_at]; rfl
    · by_cases h4 : k = 4
      · subst h4; rw [if_neg (by omega), updN_at]; rfl
      · rw [if_neg h1, if_neg h2, if_neg h4]
        by_cases h5 : 26 ≤ k ∧ k < 26 + 4 * P 6 ∧ (k - 26) % 4 = 2
        · have h6 : ¬ (26 ≤ k ∧ k < 26 + 4 * P 6 ∧ (k - 26) % 4 = 3) := by omega
          rw [if_neg h6, if_pos h5, updN_ne h4]
          unfold workAt
          rw [if_pos h5, updN_at, if_neg (by omega), if_pos rfl]
        · rw [if_neg h5]
          by_cases h6 : 26 ≤ k ∧ k < 26 + 4 * P 6 ∧ (k - 26) % 4 = 3
          · rw [if_pos h6, if_pos h6, if_pos rfl, updN_ne h4, workAt_ne h5, updN_ne h2, updN_ne h1, updN_ne (show k - 3 ≠ 4 by omega), workAt_ne (by omega), updN_ne (show k - 3 ≠ 2 by omega), updN_ne (show k - 3 ≠ 1 by omega)]
          · rw [if_neg h6, if_neg h6, updN_ne h4, workAt_ne h5, updN_ne h2, updN_ne h1]
theorem dayP_of0 (P : Nat → Nat) : workAt (updN (updN P 1 (P 1 + 1)) 2 0) (P 6) = dayP P 0 := by
  funext k
  unfold workAt dayP dayAt
  by_cases h1 : k = 1
  · subst h1; rw [if_neg (by omega), updN_ne (by omega), updN_at]; rfl
  · by_cases h2 : k = 2
    · subst h2; rw [if_neg (by omega), updN_at]; rfl
    · rw [if_neg h1, if_neg h2]
      by_cases h5 : 26 ≤ k ∧ k < 26 + 4 * P 6 ∧ (k - 26) % 4 = 2
      · rw [if_pos h5, updN_at, if_pos rfl, if_neg (show k ≠ 4 by omega), if_pos h5, if_neg (by omega), updN_ne (show k - 1 ≠ 2 by omega), updN_ne (show k - 1 ≠ 1 by omega)]
      · rw [if_neg h5, updN_ne h2, updN_ne h1]
        by_cases h4 : k = 4
        · subst h4; rfl
        · rw [if_neg h4, if_neg h5]
          split
          · rw [if_neg (by omega)]; rfl
          · rfl
theorem hnew_at {M : PH} {x : va_E} {b : Nat} (h : M.1 = b) : (hnew M x).2 b = some x := if_pos h.symm
theorem hnew_ne {M : PH} {x : va_E} {b q : Nat} (h : M.1 = b) (hq : q ≠ b) : (hnew M x).2 q = M.2 q := if_neg (by rw [h]; exact hq)
theorem hnew_sz {M : PH} {x : va_E} {b : Nat} (h : M.1 = b) : (hnew M x).1 = b + 1 := by
  show M.1 + 1 = _
  rw [h]
section
variable {M : PH} {a b : Nat} {P Q : Nat → Nat} {fc fm fs gc gm gs : Nat → Int32}
theorem cp_c (hG : LodgeG M a P fc fm fs) (hG2 : LodgeG M b Q gc gm gs) (hd : a + 7 ≤ b ∨ b + 7 ≤ a) : Run iX8_copyFrom [.ref (a + 1), .ref (b + 1)] M 0 0 (RN (fun M1 => LodgeG M1 a (updN P 5 (Q 5)) (fill gc fc 18) fm fs ∧ LodgeG M1 b Q gc gm gs ∧ Same M M1 a (a + 7))) := by
  have hq := hG2.2.1.2.2.1
  refine RN.imp (k_copyFrom hG.2.1 hG2.2.1 (by omega) (by omega) (by omega)) (fun M1 e => ?_)
  subst e
  obtain ⟨h0, ⟨h1, h2, h3⟩, h4, h5⟩ := hG
  refine ⟨⟨?_, ⟨hput_at _ _ _, ?_, ?_⟩, ?_, ?_⟩, hG2.keep (fun q g1 g2 => ?_), (Same.put (by omega) (by omega)).tr (Same.put (by omega) (by omega))⟩
  · rw [hput_ne (by omega), hput_ne (by omega)]; exact h0
  · rw [hput_ne (by omega)]; exact hput_at _ _ _
  · rw [updN_at]; exact ⟨hq, h3.2⟩
  · exact h4.keep (by rw [hput_ne (by omega), hput_ne (by omega)]) (by rw [hput_ne (by omega), hput_ne (by omega)])
  · exact h5.keep (by rw [hput_ne (by omega), hput_ne (by omega)]) (by rw [hput_ne (by omega), hput_ne (by omega)])
  · rw [hput_ne (by omega), hput_ne (by omega)]
theorem cp_m (hG : LodgeG M a P fc fm fs) (hG2 : LodgeG M b Q gc gm gs) (hd : a + 7 ≤ b ∨ b + 7 ≤ a) : Run iX8_copyFrom [.ref (a + 3), .ref (b + 3)] M 0 0 (RN (fun M1 => LodgeG M1 a (updN P 6 (Q 6)) fc (fill gm fm 24) fs ∧ LodgeG M1 b Q gc gm gs ∧ Same M M1 a (a + 7))) := by
  have hq := hG2.2.2.1.2.2.1
  refine RN.imp (k_copyFrom hG.2.2.1 hG2.2.2.1 (by omega) (by omega) (by omega)) (fun M1 e => ?_)
  subst e
  obtain ⟨h0, h4, ⟨h1, h2, h3⟩, h5⟩ := hG
  refine ⟨⟨?_, ?_, ⟨hput_at _ _ _, ?_, ?_⟩, ?_⟩, hG2.keep (fun q g1 g2 => ?_), (Same.put (by omega) (by omega)).tr (Same.put (by omega) (by omega))⟩
  · rw [hput_ne (by omega), hput_ne (by omega)]; exact h0
  · exact h4.keep (by rw [hput_ne (by omega), hput_ne (by omega)]) (by rw [hput_ne (by omega), hput_ne (by omega)])
  · rw [hput_ne (by omega)]; exact hput_at _ _ _
  · rw [updN_at]; exact ⟨hq, h3.2⟩
  · exact h5.keep (by rw [hput_ne (by omega), hput_ne (by omega)]) (by rw [hput_ne (by omega), hput_ne (by omega)])
  · rw [hput_ne (by omega), hput_ne (by omega)]
theorem cp_s (hG : LodgeG M a P fc fm fs) (hG2 : LodgeG M b Q gc gm gs) (hd : a + 7 ≤ b ∨ b + 7 ≤ a) : Run iX8_copyFrom [.ref (a + 5), .ref (b + 5)] M 0 0 (RN (fun M1 => LodgeG M1 a (updN P 7 (Q 7)) fc fm (fill gs fs 144) ∧ LodgeG M1 b Q gc gm gs ∧ Same M M1 a (a + 7))) := by
  have hq := hG2.2.2.2.2.2.1
  refine RN.imp (k_copyFrom hG.2.2.2 hG2.2.2.2 (by omega) (by omega) (by omega)) (fun M1 e => ?_)
  subst e
  obtain ⟨h0, h4, h5, ⟨h1, h2, h3⟩⟩ := hG
  refine ⟨⟨?_, ?_, ?_, ⟨hput_at _ _ _, ?_, ?_⟩⟩, hG2.keep (fun q g1 g2 => ?_), (Same.put (by omega) (by omega)).tr (Same.put (by omega) (by omega))⟩
  · rw [hput_ne (by omega), hput_ne (by omega)]; exact h0
  · exact h4.keep (by rw [hput_ne (by omega), hput_ne (by omega)]) (by rw [hput_ne (by omega), hput_ne (by omega)])
  · exact h5.keep (by rw [hput_ne (by omega), hput_ne (by omega)]) (by rw [hput_ne (by omega), hput_ne (by omega)])
  · rw [hput_ne (by omega)]; exact hput_at _ _ _
  · rw [updN_at]; exact ⟨hq, h3.2⟩
  · rw [hput_ne (by omega), hput_ne (by omega)]
theorem copy_rel (hr : RelA Q gc gm gs) (hb : Q 5 ≤ 6 ∧ Q 6 ≤ 6 ∧ Q 7 ≤ 24) : RelA Q (fill gc fc 18) (fill gm fm 24) (fill gs fs 144) := by
  refine ⟨fun c j h1 h2 => ?_, fun m j h1 h2 => ?_, fun s j h1 h2 => ?_⟩
  · rw [fill_in (by omega)]; exact hr.c j h1 h2
  · rw [fill_in (by omega)]; exact hr.m j h1 h2
  · rw [fill_in (by omega)]; exact hr.s j h1 h2
end
