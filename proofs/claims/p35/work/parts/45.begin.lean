/-! The law's begin: the text, its reading, what is loaded. -/
def txt (v j : Nat) : Nat :=
  if j < 10 then (if j = 0 then 76 else if j = 1 then 48 + v % 10 else if (j - 2) % 4 = 0 then 99 else if (j - 2) % 4 = 1 then 57 - v / (16 + (j - 2) / 4) % 9 else if (j - 2) % 4 = 2 then 49 + v / (64 + (j - 2) / 4) % 6 else 49 + v / (256 + (j - 2) / 4) % 3)
  else if j < 18 then (if (j - 10) % 4 = 0 then 109 else if (j - 10) % 4 = 1 then 49 + v / (1024 + (j - 10) / 4) % 9 else if (j - 10) % 4 = 2 then 48 else 49 + v / (8192 + (j - 10) / 4) % 9)
  else if j = 18 then 115 else if j = 19 then 49 else if j = 20 then 48 else 50
def tx (v n : Nat) : Nat → Nat := fun j => if j < n then txt v j else 0
theorem tx_at {v n j : Nat} (h : j < n) : tx v n j = txt v j := if_pos h
theorem tx_up (v n : Nat) : updN (tx v n) n (txt v n) = tx v (n + 1) := by
  funext j
  unfold updN tx
  by_cases h : j = n
  · subst h
    rw [if_pos rfl, if_pos (by omega)]
  · rw [if_neg h]
    by_cases h1 : j < n
    · rw [if_pos h1, if_pos (by omega)]
    · rw [if_neg h1, if_neg (by omega)]
theorem txt_0 (v : Nat) : txt v 0 = 76 ∧ txt v 1 = 48 + v % 10 := ⟨rfl, rfl⟩
theorem txt_c (v : Nat) {k : Nat} (hk : k < 2) : txt v (2 + 4 * k) = 99 ∧ txt v (2 + 4 * k + 1) = 57 - v / (16 + k) % 9 ∧ txt v (2 + 4 * k + 2) = 49 + v / (64 + k) % 6 ∧ txt v (2 + 4 * k + 3) = 49 + v / (256 + k) % 3 := by
  rcases (show k = 0 ∨ k = 1 by omega) with rfl | rfl <;> exact ⟨rfl, rfl, rfl, rfl⟩
theorem txt_m (v : Nat) {k : Nat} (hk : k < 2) : txt v (10 + 4 * k) = 109 ∧ txt v (10 + 4 * k + 1) = 49 + v / (1024 + k) % 9 ∧ txt v (10 + 4 * k + 2) = 48 ∧ txt v (10 + 4 * k + 3) = 49 + v / (8192 + k) % 9 := by
  rcases (show k = 0 ∨ k = 1 by omega) with rfl | rfl <;> exact ⟨rfl, rfl, rfl, rfl⟩
section
variable {T R : Nat → Nat} {n k p fr : Nat}
theorem rd_0 (h : ¬ p < n) : readS T n k p R fr = (1, p, R, fr) := by
  cases k with
  | zero => rfl
  | succ k => rw [readS, if_neg h]
theorem rd_c (h : p + 3 < n) (h0 : T p = 99) (h1 : 49 ≤ T (p + 1) ∧ T (p + 1) ≤ 57) (h2 : 49 ≤ T (p + 2) ∧ T (p + 2) ≤ 54) (h3 : 49 ≤ T (p + 3) ∧ T (p + 3) ≤ 57) (h5 : R 5 < 6) : readS T n (k + 1) p R fr = readS T n k (p + 4) (newCourseP R (T (p + 1) - 48) (T (p + 2) - 48) (T (p + 3) - 48)) fr := by
  have e : parS T n p R fr = (1, p + 4, newCourseP R (T (p + 1) - 48) (T (p + 2) - 48) (T (p + 3) - 48), fr) := by
    unfold parS crsS
    rw [if_pos h0, if_pos h5, if_pos ⟨by omega, by omega, by omega⟩, if_pos ⟨by omega, by omega, by omega⟩, if_pos ⟨by omega, by omega, by omega⟩]
  rw [readS, if_pos (by omega), e, if_pos rfl]
theorem rd_m (h : p + 3 < n) (h0 : T p = 109) (h1 : 49 ≤ T (p + 1) ∧ T (p + 1) ≤ 57) (h2 : T (p + 2) = 48) (h3 : 49 ≤ T (p + 3) ∧ T (p + 3) ≤ 57) (h6 : R 6 < 6) : readS T n (k + 1) p R fr = readS T n k (p + 4) (newMasonR R (T (p + 1) - 48) (10 * (T (p + 2) - 48) + (T (p + 3) - 48))) fr := by
  have e : parS T n p R fr = (1, p + 4, newMasonR R (T (p + 1) - 48) (10 * (T (p + 2) - 48) + (T (p + 3) - 48)), fr) := by
    unfold parS masS
    have l2 : lo2 (T (p + 2)) = 1 := by rw [h2]; rfl
    have l3 : hi2 (T (p + 2)) = 9 := by rw [h2]; rfl
    rw [if_neg (by omega), if_pos h0, if_pos h6, if_pos ⟨by omega, by omega, by omega⟩, if_pos ⟨by omega, by omega, by omega⟩, if_pos ⟨by omega, by omega, by omega⟩]
  rw [readS, if_pos (by omega), e, if_pos rfl]
theorem rd_s (h : p + 3 < n) (h0 : T p = 115) (h1 : T (p + 1) = 49) (h2 : T (p + 2) = 48) (h3 : T (p + 3) = 50) (h5 : R 5 = 2) (h6 : R 6 = 2) (h7 : R 7 = 0) : readS T n (k + 1) p R fr = readS T n k (p + 4) (newStoneP R 1 0 2) fr := by
  have e : parS T n p R fr = (1, p + 4, newStoneP R 1 0 2, fr) := by
    unfold parS stoS
    rw [if_neg (by omega), if_neg (by omega), if_pos h0, if_pos ⟨by omega, by omega, by omega⟩, if_pos ⟨by omega, by omega, by omega⟩, if_pos ⟨by omega, by omega, by omega⟩, if_pos ⟨by omega, by omega, by omega⟩, h1, h2, h3]
  rw [readS, if_pos (by omega), e, if_pos rfl]
theorem rd_a (h : 2 ≤ n) (h0 : T 0 = 76) (h1 : 48 ≤ T 1 ∧ T 1 ≤ 57) : allS T n = readS T n 80 2 (page0 (T 1 - 48)) 0 := by
  unfold allS
  rw [if_pos ⟨by omega, h0⟩, if_pos ⟨by omega, by omega, by omega⟩]
theorem readS_inv : ∀ {k p : Nat} {R : Nat → Nat} {fr : Nat}, Inv (clP R fr) → fr ≤ 1 → Inv (clP (readS T n k p R fr).2.2.1 (readS T n k p R fr).2.2.2) ∧ (readS T n k p R fr).2.2.2 ≤ 1
  | 0, p, R, fr, hI, hf => ⟨hI, hf⟩
  | k + 1, p, R, fr, hI, hf => by
    have h := parS_inv (T := T) (n := n) (p := p) hI hf
    rw [readS]
    split
    · split
      · exact readS_inv h.1 h.2
      · exact h
    · exact ⟨hI, hf⟩
theorem work_inv (hI : Inv (clP R fr)) : Inv (workAt (clP R fr) (R 6)) := by
  have hb := hI.b
  have w0 : ∀ k, ¬ (26 ≤ k ∧ k < 26 + 4 * R 6 ∧ (k - 26) % 4 = 2) → workAt (clP R fr) (R 6) k = clP R fr k := fun k hk => workAt_ne hk
  have e6 : clP R fr 6 = R 6 := rfl
  refine hI.like ?_ ?_ ?_ (w0 5 (by omega)) (w0 6 (by omega)) (w0 7 (by omega)) (fun k h1 h2 => w0 k (by omega)) (fun k h1 h2 => w0 k (by omega)) (fun m hm => ?_)
  · rw [w0 0 (by omega)]; exact hb.1
  · rw [w0 2 (by omega)]; exact hb.2.1
  · rw [w0 1 (by omega)]; exact hb.2.2.2.2.2
  · have g := hI.m hm
    rw [w0 (26 + 4 * m) (by omega), w0 (26 + 4 * m + 1) (by omega)]
    refine ⟨g.1, g.2.1, g.2.2.1, g.2.2.2.1, ?_⟩
    unfold workAt
    rw [if_pos (by omega)]
    split
    · exact g.2.2.2.1
    · omega
end
/-- the page as it is read, after K courses, after K masons -/
def rdC (v : Nat) : Nat → (Nat → Nat)
  | 0 => page0 (txt v 1 - 48)
  | k + 1 => newCourseP (rdC v k) (txt v (2 + 4 * k + 1) - 48) (txt v (2 + 4 * k + 2) - 48) (txt v (2 + 4 * k + 3) - 48)
def rdM (v : Nat) : Nat → (Nat → Nat)
  | 0 => rdC v 2
  | k + 1 => newMasonR (rdM v k) (txt v (10 + 4 * k + 1) - 48) (10 * (txt v (10 + 4 * k + 2) - 48) + (txt v (10 + 4 * k + 3) - 48))
theorem all_2 {v n : Nat} (h : 2 ≤ n) : allS (tx v n) n = readS (tx v n) n 80 2 (rdC v 0) 0 := by
  have t := txt_0 v
  rw [rd_a h ((tx_at (by omega)).trans t.1) (by rw [tx_at (by omega), t.2]; omega), tx_at (by omega)]
  rfl
theorem step_c {v n k q : Nat} (hk : k < 2) (h : 2 + 4 * k + 3 < n) (h5 : rdC v k 5 < 6) : readS (tx v n) n (q + 1) (2 + 4 * k) (rdC v k) 0 = readS (tx v n) n q (2 + 4 * (k + 1)) (rdC v (k + 1)) 0 := by
  have t := txt_c v hk
  rw [rd_c h (by rw [tx_at (by omega)]; exact t.1) (by rw [tx_at (by omega), t.2.1]; omega) (by rw [tx_at (by omega), t.2.2.1]; omega) (by rw [tx_at (by omega), t.2.2.2]; omega) h5, tx_at (by omega), tx_at (by omega), tx_at (by omega)]
  rfl
theorem step_m {v n k q : Nat} (hk : k < 2) (h : 10 + 4 * k + 3 < n) (h6 : rdM v k 6 < 6) : readS (tx v n) n (q + 1) (10 + 4 * k) (rdM v k) 0 = readS (tx v n) n q (10 + 4 * (k + 1)) (rdM v (k + 1)) 0 := by
  have t := txt_m v hk
  rw [rd_m h (by rw [tx_at (by omega)]; exact t.1) (by rw [tx_at (by omega), t.2.1]; omega) (by rw [tx_at (by omega), t.2.2.1]) (by rw [tx_at (by omega), t.2.2.2]; omega) h6, tx_at (by omega), tx_at (by omega), tx_at (by omega)]
  rfl
theorem n5_0 (v : Nat) : rdC v 0 5 < 6 := show (0 : Nat) < 6 by decide
theorem n5_1 (v : Nat) : rdC v 1 5 < 6 := show (1 : Nat) < 6 by decide
theorem n6_0 (v : Nat) : rdM v 0 6 < 6 := show (0 : Nat) < 6 by decide
theorem n6_1 (v : Nat) : rdM v 1 6 < 6 := show (1 : Nat) < 6 by decide
theorem all_c {v n : Nat} (h : 10 ≤ n) : allS (tx v n) n = readS (tx v n) n 78 10 (rdM v 0) 0 := (all_2 (by omega)).trans ((step_c (k := 0) (q := 79) (by omega) (by omega) (n5_0 v)).trans (step_c (k := 1) (q := 78) (by omega) (by omega) (n5_1 v)))
theorem err_6 (v : Nat) : (allS (tx v 6) 6).1 = 1 := by
  rw [(all_2 (v := v) (n := 6) (by omega)).trans (step_c (k := 0) (q := 79) (by omega) (by omega) (n5_0 v)), rd_0 (by omega)]
theorem err_10 (v : Nat) : (allS (tx v 10) 10).1 = 1 := by
  rw [all_c (Nat.le_refl _), rd_0 (by omega)]
theorem err_14 (v : Nat) : (allS (tx v 14) 14).1 = 1 := by
  rw [(all_c (v := v) (n := 14) (by omega)).trans (step_m (k := 0) (q := 77) (by omega) (by omega) (n6_0 v)), rd_0 (by omega)]
theorem all_m {v n : Nat} (h : 18 ≤ n) : allS (tx v n) n = readS (tx v n) n 76 18 (rdM v 2) 0 := (all_c (by omega)).trans ((step_m (k := 0) (q := 77) (by omega) (by omega) (n6_0 v)).trans (step_m (k := 1) (q := 76) (by omega) (by omega) (n6_1 v)))
theorem err_18 (v : Nat) : (allS (tx v 18) 18).1 = 1 := by
  rw [all_m (Nat.le_refl _), rd_0 (by omega)]
theorem all_22 (v : Nat) : allS (tx v 22) 22 = (1, 22, newStoneP (rdM v 2) 1 0 2, 0) := by
  rw [all_m (by omega), rd_s (k := 75) (by omega) (by rw [tx_at (by omega)]; rfl) (by rw [tx_at (by omega)]; rfl) (by rw [tx_at (by omega)]; rfl) (by rw [tx_at (by omega)]; rfl) rfl rfl rfl, rd_0 (by omega)]
theorem err_n {v n : Nat} (h : (allS (tx v n) n).1 = 1) : errS (tx v n) n = -9 := by
  unfold errS
  rw [if_pos h]
theorem err_c {v k : Nat} (hk : k < 2) : errS (tx v (2 + 4 * (k + 1))) (2 + 4 * (k + 1)) = -9 := by
  rcases (show k = 0 ∨ k = 1 by omega) with rfl | rfl
  · exact err_n (err_6 v)
  · exact err_n (err_10 v)
theorem err_m {v k : Nat} (hk : k < 2) : errS (tx v (10 + 4 * (k + 1))) (10 + 4 * (k + 1)) = -9 := by
  rcases (show k = 0 ∨ k = 1 by omega) with rfl | rfl
  · exact err_n (err_14 v)
  · exact err_n (err_18 v)
/-- the state with n characters of the text -/
def SB (v n : Nat) : St := (n, tx v n, newP, 0, fun _ => newP, zeroP, fun _ => newP)
def pgB (v : Nat) : Nat → Nat := workAt (clP (newStoneP (rdM v 2) 1 0 2) 0) (newStoneP (rdM v 2) 1 0 2 6)
def begS (v : Nat) : St := (22, tx v 22, pgB v, 0, fun _ => newP, clrB zeroP, fun _ => newP)
theorem SB_S0 (v : Nat) : SB v 0 = S0 := by
  have e : tx v 0 = zeroP := by
    funext j
    unfold tx zeroP
    rw [if_neg (Nat.not_lt_zero j)]
  unfold SB
  rw [e]
theorem e_app {v n c : Nat} (hn : n < 22) (hc : c ≤ 255) (he : txt v n = c) : spAppend (SB v n) (nI c) = (0, nI (n + 1), SB v (n + 1)) := by
  unfold spAppend SB
  rw [if_pos (inW_i (Nat.zero_le c) hc (by omega)), if_pos (show n < 80 by omega), idx_n (by omega), ← he]
  show (0, nI (n + 1), (n + 1, updN (tx v n) n (txt v n), newP, 0, fun _ => newP, zeroP, fun _ => newP)) = _
  rw [tx_up]
theorem e_load (v : Nat) : spLoad (SB v 22) = (0, nI 1, begS v) := by
  have e : loadP (SB v 22) = pgB v := by
    unfold loadP pgB
    rw [show sT (SB v 22) = tx v 22 from rfl, show sN (SB v 22) = 22 from rfl, all_22]
  unfold spLoad
  rw [show sT (SB v 22) = tx v 22 from rfl, show sN (SB v 22) = 22 from rfl, all_22, if_pos rfl, e]
  rfl
theorem SB_inv (v n : Nat) : SInv 0 (SB v n) := ⟨⟨Inv.new, Nat.le_refl 0⟩, fun j hj => absurd hj (Nat.not_lt_zero j), fun i hi hb => absurd hb (show ¬ (0 : Nat) = 1 by decide)⟩
theorem pgB_inv (v : Nat) : Inv (pgB v) := by
  have h0 : Inv (clP (page0 (txt v 1 - 48)) 0) := by
    have t := (txt_0 v).2
    rw [← cl_new]
    exact Inv.new.bound (by rw [t]; omega)
  have h1 := (readS_inv (T := tx v 22) (n := 22) (k := 80) (p := 2) h0 (Nat.zero_le 1)).1
  rw [show page0 (txt v 1 - 48) = rdC v 0 from rfl, ← all_2 (v := v) (n := 22) (by omega), all_22] at h1
  exact work_inv h1
theorem newMasonR_out {P : Nat → Nat} {x y k : Nat} (hk : k ≠ 6) (h : k < 26 + 4 * P 6 ∨ 26 + 4 * P 6 + 4 ≤ k) : newMasonR P x y k = P k := by
  unfold newMasonR
  rw [updN_ne hk, updN_ne (by omega), updN_ne (by omega), updN_ne (by omega), updN_ne (by omega)]
theorem newMasonR_3 {P : Nat → Nat} {x y : Nat} : newMasonR P x y (26 + 4 * P 6 + 3) = 0 := by
  unfold newMasonR
  rw [updN_ne (by omega), updN_at]
theorem r6 (v : Nat) : rdM v 0 6 = 0 ∧ rdM v 1 6 = 1 ∧ rdM v 2 6 = 2 := ⟨rfl, rfl, rfl⟩
theorem r5 (v : Nat) : rdM v 2 5 = 2 := by
  have e := r6 v
  have h1 : rdM v 2 5 = rdM v 1 5 := newMasonR_out (by omega) (by omega)
  have h2 : rdM v 1 5 = rdC v 2 5 := newMasonR_out (by omega) (by omega)
  rw [h1, h2]
  rfl
theorem r7 (v : Nat) : rdM v 2 7 = 0 := by
  have e := r6 v
  have h1 : rdM v 2 7 = rdM v 1 7 := newMasonR_out (by omega) (by omega)
  have h2 : rdM v 1 7 = rdC v 2 7 := newMasonR_out (by omega) (by omega)
  rw [h1, h2]
  rfl
theorem r_owed (v : Nat) : rdM v 2 29 = 0 ∧ rdM v 2 33 = 0 := by
  have e := r6 v
  have h1 : rdM v 2 29 = rdM v 1 29 := newMasonR_out (P := rdM v 1) (k := 29) (x := txt v 15 - 48) (y := 10 * (txt v 16 - 48) + (txt v 17 - 48)) (by omega) (by omega)
  have h2 : newMasonR (rdM v 0) (txt v 11 - 48) (10 * (txt v 12 - 48) + (txt v 13 - 48)) (26 + 4 * rdM v 0 6 + 3) = 0 := newMasonR_3
  have h3 : newMasonR (rdM v 1) (txt v 15 - 48) (10 * (txt v 16 - 48) + (txt v 17 - 48)) (26 + 4 * rdM v 1 6 + 3) = 0 := newMasonR_3
  rw [e.1] at h2
  rw [e.2.1] at h3
  exact ⟨h1.trans h2, h3⟩
theorem pgB_fine (v : Nat) : Fine 0 (pgB v) := by
  have e := r6 v
  have e7 := r7 v
  have e5 := r5 v
  have ew := r_owed v
  have o : ∀ k, k ≠ 7 → k < 50 → newStoneP (rdM v 2) 1 0 2 k = rdM v 2 k := fun k h1 h2 => newStone_out h1 (by omega)
  have o6 : newStoneP (rdM v 2) 1 0 2 6 = 2 := (o 6 (by omega) (by omega)).trans e.2.2
  have w : ∀ k, ¬ (26 ≤ k ∧ k < 34 ∧ (k - 26) % 4 = 2) → pgB v k = clP (newStoneP (rdM v 2) 1 0 2) 0 k := fun k hk => workAt_ne (by rw [o6]; omega)
  have c : ∀ k, k ≠ 2 → ¬ (26 ≤ k ∧ k < 50 ∧ (k - 26) % 4 = 2) → clP (newStoneP (rdM v 2) 1 0 2) 0 k = newStoneP (rdM v 2) 1 0 2 k := fun k h1 h2 => by
    unfold clP
    rw [if_neg h1, if_neg h2]
  have p5 : pgB v 5 = 2 := (w 5 (by omega)).trans ((c 5 (by omega) (by omega)).trans ((o 5 (by omega) (by omega)).trans e5))
  have p6 : pgB v 6 = 2 := (w 6 (by omega)).trans ((c 6 (by omega) (by omega)).trans o6)
  have p2 : pgB v 2 = 0 := (w 2 (by omega)).trans rfl
  have p7 : pgB v 7 = 1 := (w 7 (by omega)).trans ((c 7 (by omega) (by omega)).trans ((newStone_lo (by omega)).trans ((updN_at _ _ _).trans (by rw [e7]))))
  refine ⟨by omega, by omega, fun m hm => ⟨?_, fun q => absurd p2 q, ?_⟩, fun s hs => ?_⟩
  · rw [w (26 + 4 * m + 1) (by omega)]
    unfold pgB workAt
    rw [if_pos (by omega)]
    split
    · exact Nat.le_refl _
    · exact Nat.zero_le _
  · rw [w (26 + 4 * m + 3) (by omega), c (26 + 4 * m + 3) (by omega) (by omega), o _ (by omega) (by omega)]
    rcases (show m = 0 ∨ m = 1 by omega) with rfl | rfl
    · exact Nat.le_of_eq ew.1
    · exact Nat.le_of_eq ew.2
  · obtain rfl : s = 0 := by omega
    intro _
    obtain ⟨a0, a1, a2, a3, a4, a5⟩ := newStone_at (P := rdM v 2) (m := 1) (c := 0) (f := 2)
    rw [e7] at a1 a5
    rw [w (50 + 6 * 0 + 1) (by omega), w (50 + 6 * 0 + 5) (by omega), c (50 + 6 * 0 + 1) (by omega) (by omega), c (50 + 6 * 0 + 5) (by omega) (by omega)]
    exact a1.trans a5.symm
theorem begS_g (v : Nat) : SG 0 (begS v) := by
  have hb : ∀ i, i < 2 → ¬ clrB zeroP i = 1 := fun i hi => by
    unfold clrB
    rw [if_pos hi]
    decide
  exact ⟨⟨⟨pgB_inv v, Nat.le_of_eq rfl⟩, fun j hj => absurd hj (Nat.not_lt_zero j), fun i hi h => absurd h (hb i hi)⟩, pgB_fine v, fun j hj => absurd hj (Nat.not_lt_zero j), fun i hi h => absurd h (hb i hi)⟩
theorem a_app {M : PH} {x v n c : Nat} (hX : RepX M x (SB v n)) (hn : n < 22) (hc : c ≤ 255) (he : txt v n = c) {a b d : Int32} : Run iL_call [.ref x, .int (nI 0), .int (nI c), .int a, .int b, .int d] M 2 12 (AQ M x (nI (n + 1)) (SB v (n + 1))) := a_of (g_append hX (SB_inv v n)) (e_app hn hc he)
theorem a_load {M : PH} {x v : Nat} (hX : RepX M x (SB v 22)) {a b c d : Int32} : Run iL_call [.ref x, .int (nI 1), .int a, .int b, .int c, .int d] M 2 12 (AQ M x (nI 1) (begS v)) := a_of (g_load hX (SB_inv v 22)) (e_load v)
theorem a_err {M : PH} {x v n : Nat} (hX : RepX M x (SB v n)) (h : errS (tx v n) n = -9) : Run iX10_errorPosition [.ref x] M 2 12 (AQ M x (-9) (SB v n)) := by
  have t := QX.aq (p_errorPosition hX (SB_inv v n))
  rw [show errS (sT (SB v n)) (sN (SB v n)) = -9 from h] at t
  exact t
set_option maxHeartbeats 400000 in
set_option maxRecDepth 100000 in
theorem beg_c {Γ : CX} {G : GC} {Z : State → Prop} {k n : Nat} {M0 M : PH} {x v j : Nat} (hv : v < 2147483648) (hj : j < 2) (hX : RepX M x (SB v (2 + 4 * j))) (hF9 : Fr M0 M x) (C : Cx Γ G iL_begin [] 64 400) (hkn : k + 10 ≤ 64 ∧ n + 60 ≤ 400) (K : ∀ M1 : PH, RepX M1 x (SB v (2 + 4 * (j + 1))) ∧ Fr M0 M1 x → PW Γ G Z 41 [some (.ref x), some (.int (nI (v))), some (.int (nI (1))), some (.int (nI (j + 1)))] [] M1 (k + 2 + 2 + 2 + 2 + 2) (n + 12 + 12 + 12 + 12 + 12)) : PW Γ G Z 41 [some (.ref x), some (.int (nI (v))), some (.int (nI (1))), some (.int (nI (j)))] [] M k n := by
  have tq := txt_c v hj
  have d16 := Nat.div_le_self v (16 + j)
  have d64 := Nat.div_le_self v (64 + j)
  have d256 := Nat.div_le_self v (256 + j)
  refine pw_iload_n (q := 42) (j := 3) C dL_begin_41 rfl rfl rfl ?_
  refine pw_iconst_n (q := 43) C 2 dL_begin_42 (by decide +kernel) rfl ?_
  refine pw_icmp_ge_n (q := 46) 153 C dL_begin_43 (by decide) rfl (by omega) (by omega) (fun g43 => absurd g43 (by omega)) (fun g43 => ?_)
  refine pw_iload_n (q := 47) (j := 2) C dL_begin_46 rfl rfl rfl ?_
  refine pw_if_eq_n (q := 50) 153 C dL_begin_47 (by decide) rfl (by omega) (fun g47 => absurd g47 (by decide)) (fun g47 => ?_)
  refine pw_aload_n (q := 51) (j := 0) C dL_begin_50 rfl rfl rfl ?_
  refine pw_iconst_n (q := 52) C 0 dL_begin_51 (by decide +kernel) rfl ?_
  refine pw_bipush_n (q := 54) C 99 dL_begin_52 (by decide +kernel) rfl ?_
  refine pw_iconst_n (q := 55) C 0 dL_begin_54 (by decide +kernel) rfl ?_
  refine pw_iconst_n (q := 56) C 0 dL_begin_55 (by decide +kernel) rfl ?_
  refine pw_iconst_n (q := 57) C 0 dL_begin_56 (by decide +kernel) rfl ?_
  refine pw_val (q := 60) (cr_s (j := iL_call) C dL_begin_57 lL_170 mL_call (ro_mk (by decide) (by decide))  (a_app hX (n := 2 + 4 * j) (by omega) (by omega) (by rw [tq.1])) rfl rfl (Nat.le_of_ble_eq_true rfl) ⟨by omega, by omega⟩) rfl (fun M57 e57 => ?_)
  have hX := e57.1
  have hF9 := hF9.tr e57.2
  refine pw_if_le_n (q := 63) 145 C dL_begin_60 (by decide) rfl (by omega) (fun g60 => absurd g60 (by omega)) (fun g60 => ?_)
  refine pw_aload_n (q := 64) (j := 0) C dL_begin_63 rfl rfl rfl ?_
  refine pw_iconst_n (q := 65) C 0 dL_begin_64 (by decide +kernel) rfl ?_
  refine pw_bipush_n (q := 67) C 57 dL_begin_65 (by decide +kernel) rfl ?_
  refine pw_iload_n (q := 68) (j := 1) C dL_begin_67 rfl rfl rfl ?_
  refine pw_bipush_n (q := 70) C 16 dL_begin_68 (by decide +kernel) rfl ?_
  refine pw_iload_n (q := 71) (j := 3) C dL_begin_70 rfl rfl rfl ?_
  refine pw_iadd_n (q := 72) C dL_begin_71 rfl ?_
  refine pw_idiv_n (q := 73) C dL_begin_72 (by omega) (by omega) (by omega) rfl ?_
  refine pw_bipush_n (q := 75) C 9 dL_begin_73 (by decide +kernel) rfl ?_
  refine pw_irem_n (q := 76) C dL_begin_75 (by omega) (by omega) (by omega) rfl ?_
  refine pw_isub_n (q := 77) C dL_begin_76 (by omega) rfl ?_
  refine pw_iconst_n (q := 78) C 0 dL_begin_77 (by decide +kernel) rfl ?_
  refine pw_iconst_n (q := 79) C 0 dL_begin_78 (by decide +kernel) rfl ?_
  refine pw_iconst_n (q := 80) C 0 dL_begin_79 (by decide +kernel) rfl ?_
  refine pw_val (q := 83) (cr_s (j := iL_call) C dL_begin_80 lL_170 mL_call (ro_mk (by decide) (by decide))  (a_app hX (n := 2 + 4 * j + 1) (by omega) (by omega) (by rw [tq.2.1])) rfl rfl (Nat.le_of_ble_eq_true rfl) ⟨by omega, by omega⟩) rfl (fun M80 e80 => ?_)
  have hX := e80.1
  have hF9 := hF9.tr e80.2
  refine pw_if_le_n (q := 86) 145 C dL_begin_83 (by decide) rfl (by omega) (fun g83 => absurd g83 (by omega)) (fun g83 => ?_)
  refine pw_aload_n (q := 87) (j := 0) C dL_begin_86 rfl rfl rfl ?_
  refine pw_iconst_n (q := 88) C 0 dL_begin_87 (by decide +kernel) rfl ?_
  refine pw_bipush_n (q := 90) C 49 dL_begin_88 (by decide +kernel) rfl ?_
  refine pw_iload_n (q := 91) (j := 1) C dL_begin_90 rfl rfl rfl ?_
  refine pw_bipush_n (q := 93) C 64 dL_begin_91 (by decide +kernel) rfl ?_
  refine pw_iload_n (q := 94) (j := 3) C dL_begin_93 rfl rfl rfl ?_
  refine pw_iadd_n (q := 95) C dL_begin_94 rfl ?_
  refine pw_idiv_n (q := 96) C dL_begin_95 (by omega) (by omega) (by omega) rfl ?_
  refine pw_bipush_n (q := 98) C 6 dL_begin_96 (by decide +kernel) rfl ?_
  refine pw_irem_n (q := 99) C dL_begin_98 (by omega) (by omega) (by omega) rfl ?_
  refine pw_iadd_n (q := 100) C dL_begin_99 rfl ?_
  refine pw_iconst_n (q := 101) C 0 dL_begin_100 (by decide +kernel) rfl ?_
  refine pw_iconst_n (q := 102) C 0 dL_begin_101 (by decide +kernel) rfl ?_
  refine pw_iconst_n (q := 103) C 0 dL_begin_102 (by decide +kernel) rfl ?_
  refine pw_val (q := 106) (cr_s (j := iL_call) C dL_begin_103 lL_170 mL_call (ro_mk (by decide) (by decide))  (a_app hX (n := 2 + 4 * j + 2) (by omega) (by omega) (by rw [tq.2.2.1])) rfl rfl (Nat.le_of_ble_eq_true rfl) ⟨by omega, by omega⟩) rfl (fun M103 e103 => ?_)
  have hX := e103.1
  have hF9 := hF9.tr e103.2
  refine pw_if_le_n (q := 109) 145 C dL_begin_106 (by decide) rfl (by omega) (fun g106 => absurd g106 (by omega)) (fun g106 => ?_)
  refine pw_aload_n (q := 110) (j := 0) C dL_begin_109 rfl rfl rfl ?_
  refine pw_iconst_n (q := 111) C 0 dL_begin_110 (by decide +kernel) rfl ?_
  refine pw_bipush_n (q := 113) C 49 dL_begin_111 (by decide +kernel) rfl ?_
  refine pw_iload_n (q := 114) (j := 1) C dL_begin_113 rfl rfl rfl ?_
  refine pw_sipush_n (q := 117) C 256 dL_begin_114 (by decide +kernel) rfl ?_
  refine pw_iload_n (q := 118) (j := 3) C dL_begin_117 rfl rfl rfl ?_
  refine pw_iadd_n (q := 119) C dL_begin_118 rfl ?_
  refine pw_idiv_n (q := 120) C dL_begin_119 (by omega) (by omega) (by omega) rfl ?_
  refine pw_iconst_n (q := 121) C 3 dL_begin_120 (by decide +kernel) rfl ?_
  refine pw_irem_n (q := 122) C dL_begin_121 (by omega) (by omega) (by omega) rfl ?_
  refine pw_iadd_n (q := 123) C dL_begin_122 rfl ?_
  refine pw_iconst_n (q := 124) C 0 dL_begin_123 (by decide +kernel) rfl ?_
  refine pw_iconst_n (q := 125) C 0 dL_begin_124 (by decide +kernel) rfl ?_
  refine pw_iconst_n (q := 126) C 0 dL_begin_125 (by decide +kernel) rfl ?_
  refine pw_val (q := 129) (cr_s (j := iL_call) C dL_begin_126 lL_170 mL_call (ro_mk (by decide) (by decide))  (a_app hX (n := 2 + 4 * j + 3) (by omega) (by omega) (by rw [tq.2.2.2])) rfl rfl (Nat.le_of_ble_eq_true rfl) ⟨by omega, by omega⟩) rfl (fun M126 e126 => ?_)
  have hX := e126.1
  have hF9 := hF9.tr e126.2
  refine pw_if_le_n (q := 132) 145 C dL_begin_129 (by decide) rfl (by omega) (fun g129 => absurd g129 (by omega)) (fun g129 => ?_)
  refine pw_aload_n (q := 133) (j := 0) C dL_begin_132 rfl rfl rfl ?_
  refine pw_val (q := 136) (cr_v (j := iX10_errorPosition) C dL_begin_133 lL_216 mX10_errorPosition (ro_mk (by decide) (by decide)) hX.1 rfl (a_err hX (err_c hj)) rfl rfl (Nat.le_of_ble_eq_true rfl) ⟨by omega, by omega⟩) rfl (fun M133 e133 => ?_)
  have hX := e133.1
  have hF9 := hF9.tr e133.2
  refine pw_bipush (q := 138) (v := (-9)) C dL_begin_136 (by decide +kernel) rfl ?_
  refine pw_icmp_ne (q := 141) 145 C dL_begin_138 (by decide) rfl (fun g138 => absurd g138 (fun h => h rfl)) (fun g138 => ?_)
  refine pw_iconst_n (q := 142) C 1 dL_begin_141 (by decide +kernel) rfl ?_
  refine pw_goto (q := 0) 146 C dL_begin_142 (by decide) ?_
  refine pw_istore_n (q := 147) (j := 2) C dL_begin_146 rfl rfl (by decide) rfl ?_
  refine pw_iinc_n (q := 150) C 1 dL_begin_147 rfl (by decide +kernel) rfl (by decide) rfl ?_
  refine pw_goto (q := 0) 41 C dL_begin_150 (by decide) ?_
  exact K _ ⟨hX, hF9⟩
set_option maxHeartbeats 400000 in
set_option maxRecDepth 100000 in
theorem beg_m {Γ : CX} {G : GC} {Z : State → Prop} {k n : Nat} {M0 M : PH} {x v j : Nat} (hv : v < 2147483648) (hj : j < 2) (hX : RepX M x (SB v (10 + 4 * j))) (hF9 : Fr M0 M x) (C : Cx Γ G iL_begin [] 64 400) (hkn : k + 10 ≤ 64 ∧ n + 60 ≤ 400) (K : ∀ M1 : PH, RepX M1 x (SB v (10 + 4 * (j + 1))) ∧ Fr M0 M1 x → PW Γ G Z 155 [some (.ref x), some (.int (nI (v))), some (.int (nI (1))), some (.int (nI (j + 1)))] [] M1 (k + 2 + 2 + 2 + 2 + 2) (n + 12 + 12 + 12 + 12 + 12)) : PW Γ G Z 155 [some (.ref x), some (.int (nI (v))), some (.int (nI (1))), some (.int (nI (j)))] [] M k n := by
  have tq := txt_m v hj
  have d1024 := Nat.div_le_self v (1024 + j)
  have d8192 := Nat.div_le_self v (8192 + j)
  refine pw_iload_n (q := 156) (j := 3) C dL_begin_155 rfl rfl rfl ?_
  refine pw_iconst_n (q := 157) C 2 dL_begin_156 (by decide +kernel) rfl ?_
  refine pw_icmp_ge_n (q := 160) 259 C dL_begin_157 (by decide) rfl (by omega) (by omega) (fun g157 => absurd g157 (by omega)) (fun g157 => ?_)
  refine pw_iload_n (q := 161) (j := 2) C dL_begin_160 rfl rfl rfl ?_
  refine pw_if_eq_n (q := 164) 259 C dL_begin_161 (by decide) rfl (by omega) (fun g161 => absurd g161 (by decide)) (fun g161 => ?_)
  refine pw_aload_n (q := 165) (j := 0) C dL_begin_164 rfl rfl rfl ?_
  refine pw_iconst_n (q := 166) C 0 dL_begin_165 (by decide +kernel) rfl ?_
  refine pw_bipush_n (q := 168) C 109 dL_begin_166 (by decide +kernel) rfl ?_
  refine pw_iconst_n (q := 169) C 0 dL_begin_168 (by decide +kernel) rfl ?_
  refine pw_iconst_n (q := 170) C 0 dL_begin_169 (by decide +kernel) rfl ?_
  refine pw_iconst_n (q := 171) C 0 dL_begin_170 (by decide +kernel) rfl ?_
  refine pw_val (q := 174) (cr_s (j := iL_call) C dL_begin_171 lL_170 mL_call (ro_mk (by decide) (by decide))  (a_app hX (n := 10 + 4 * j) (by omega) (by omega) (by rw [tq.1])) rfl rfl (Nat.le_of_ble_eq_true rfl) ⟨by omega, by omega⟩) rfl (fun M171 e171 => ?_)
  have hX := e171.1
  have hF9 := hF9.tr e171.2
  refine pw_if_le_n (q := 177) 251 C dL_begin_174 (by decide) rfl (by omega) (fun g174 => absurd g174 (by omega)) (fun g174 => ?_)
  refine pw_aload_n (q := 178) (j := 0) C dL_begin_177 rfl rfl rfl ?_
  refine pw_iconst_n (q := 179) C 0 dL_begin_178 (by decide +kernel) rfl ?_
  refine pw_bipush_n (q := 181) C 49 dL_begin_179 (by decide +kernel) rfl ?_
  refine pw_iload_n (q := 182) (j := 1) C dL_begin_181 rfl rfl rfl ?_
  refine pw_sipush_n (q := 185) C 1024 dL_begin_182 (by decide +kernel) rfl ?_
  refine pw_iload_n (q := 186) (j := 3) C dL_begin_185 rfl rfl rfl ?_
  refine pw_iadd_n (q := 187) C dL_begin_186 rfl ?_
  refine pw_idiv_n (q := 188) C dL_begin_187 (by omega) (by omega) (by omega) rfl ?_
  refine pw_bipush_n (q := 190) C 9 dL_begin_188 (by decide +kernel) rfl ?_
  refine pw_irem_n (q := 191) C dL_begin_190 (by omega) (by omega) (by omega) rfl ?_
  refine pw_iadd_n (q := 192) C dL_begin_191 rfl ?_
  refine pw_iconst_n (q := 193) C 0 dL_begin_192 (by decide +kernel) rfl ?_
  refine pw_iconst_n (q := 194) C 0 dL_begin_193 (by decide +kernel) rfl ?_
  refine pw_iconst_n (q := 195) C 0 dL_begin_194 (by decide +kernel) rfl ?_
  refine pw_val (q := 198) (cr_s (j := iL_call) C dL_begin_195 lL_170 mL_call (ro_mk (by decide) (by decide))  (a_app hX (n := 10 + 4 * j + 1) (by omega) (by omega) (by rw [tq.2.1])) rfl rfl (Nat.le_of_ble_eq_true rfl) ⟨by omega, by omega⟩) rfl (fun M195 e195 => ?_)
  have hX := e195.1
  have hF9 := hF9.tr e195.2
  refine pw_if_le_n (q := 201) 251 C dL_begin_198 (by decide) rfl (by omega) (fun g198 => absurd g198 (by omega)) (fun g198 => ?_)
  refine pw_aload_n (q := 202) (j := 0) C dL_begin_201 rfl rfl rfl ?_
  refine pw_iconst_n (q := 203) C 0 dL_begin_202 (by decide +kernel) rfl ?_
  refine pw_bipush_n (q := 205) C 48 dL_begin_203 (by decide +kernel) rfl ?_
  refine pw_iconst_n (q := 206) C 0 dL_begin_205 (by decide +kernel) rfl ?_
  refine pw_iconst_n (q := 207) C 0 dL_begin_206 (by decide +kernel) rfl ?_
  refine pw_iconst_n (q := 208) C 0 dL_begin_207 (by decide +kernel) rfl ?_
  refine pw_val (q := 211) (cr_s (j := iL_call) C dL_begin_208 lL_170 mL_call (ro_mk (by decide) (by decide))  (a_app hX (n := 10 + 4 * j + 2) (by omega) (by omega) (by rw [tq.2.2.1])) rfl rfl (Nat.le_of_ble_eq_true rfl) ⟨by omega, by omega⟩) rfl (fun M208 e208 => ?_)
  have hX := e208.1
  have hF9 := hF9.tr e208.2
  refine pw_if_le_n (q := 214) 251 C dL_begin_211 (by decide) rfl (by omega) (fun g211 => absurd g211 (by omega)) (fun g211 => ?_)
  refine pw_aload_n (q := 215) (j := 0) C dL_begin_214 rfl rfl rfl ?_
  refine pw_iconst_n (q := 216) C 0 dL_begin_215 (by decide +kernel) rfl ?_
  refine pw_bipush_n (q := 218) C 49 dL_begin_216 (by decide +kernel) rfl ?_
  refine pw_iload_n (q := 219) (j := 1) C dL_begin_218 rfl rfl rfl ?_
  refine pw_sipush_n (q := 222) C 8192 dL_begin_219 (by decide +kernel) rfl ?_
  refine pw_iload_n (q := 223) (j := 3) C dL_begin_222 rfl rfl rfl ?_
  refine pw_iadd_n (q := 224) C dL_begin_223 rfl ?_
  refine pw_idiv_n (q := 225) C dL_begin_224 (by omega) (by omega) (by omega) rfl ?_
  refine pw_bipush_n (q := 227) C 9 dL_begin_225 (by decide +kernel) rfl ?_
  refine pw_irem_n (q := 228) C dL_begin_227 (by omega) (by omega) (by omega) rfl ?_
  refine pw_iadd_n (q := 229) C dL_begin_228 rfl ?_
  refine pw_iconst_n (q := 230) C 0 dL_begin_229 (by decide +kernel) rfl ?_
  refine pw_iconst_n (q := 231) C 0 dL_begin_230 (by decide +kernel) rfl ?_
  refine pw_iconst_n (q := 232) C 0 dL_begin_231 (by decide +kernel) rfl ?_
  refine pw_val (q := 235) (cr_s (j := iL_call) C dL_begin_232 lL_170 mL_call (ro_mk (by decide) (by decide))  (a_app hX (n := 10 + 4 * j + 3) (by omega) (by omega) (by rw [tq.2.2.2])) rfl rfl (Nat.le_of_ble_eq_true rfl) ⟨by omega, by omega⟩) rfl (fun M232 e232 => ?_)
  have hX := e232.1
  have hF9 := hF9.tr e232.2
  refine pw_if_le_n (q := 238) 251 C dL_begin_235 (by decide) rfl (by omega) (fun g235 => absurd g235 (by omega)) (fun g235 => ?_)
  refine pw_aload_n (q := 239) (j := 0) C dL_begin_238 rfl rfl rfl ?_
  refine pw_val (q := 242) (cr_v (j := iX10_errorPosition) C dL_begin_239 lL_216 mX10_errorPosition (ro_mk (by decide) (by decide)) hX.1 rfl (a_err hX (err_m hj)) rfl rfl (Nat.le_of_ble_eq_true rfl) ⟨by omega, by omega⟩) rfl (fun M239 e239 => ?_)
  have hX := e239.1
  have hF9 := hF9.tr e239.2
  refine pw_bipush (q := 244) (v := (-9)) C dL_begin_242 (by decide +kernel) rfl ?_
  refine pw_icmp_ne (q := 247) 251 C dL_begin_244 (by decide) rfl (fun g244 => absurd g244 (fun h => h rfl)) (fun g244 => ?_)
  refine pw_iconst_n (q := 248) C 1 dL_begin_247 (by decide +kernel) rfl ?_
  refine pw_goto (q := 0) 252 C dL_begin_248 (by decide) ?_
  refine pw_istore_n (q := 253) (j := 2) C dL_begin_252 rfl rfl (by decide) rfl ?_
  refine pw_iinc_n (q := 256) C 1 dL_begin_253 rfl (by decide +kernel) rfl (by decide) rfl ?_
  refine pw_goto (q := 0) 155 C dL_begin_256 (by decide) ?_
  exact K _ ⟨hX, hF9⟩
set_option maxHeartbeats 200000 in
set_option maxRecDepth 100000 in
theorem v_begin {M : PH} {x v : Nat} (hv : v < 2147483648) (hX : RepX M x (SB v 0)) : Run iL_begin [.ref x, .int (nI v)] M 64 400 (RV (.int (nI 1)) (fun M1 => RepX M1 x (begS v) ∧ Fr M M1 x)) := by
  have hF9 : Fr M M x := Fr.rf
  refine Run.of (l0 := [some (.ref x), some (.int (nI v)), none, none]) (by decide +kernel) (Nat.le_of_ble_eq_true rfl) (by rfl) (fun Γ G C => ?_)
  refine pw_aload_n (q := 1) (j := 0) C dL_begin_0 rfl rfl rfl ?_
  refine pw_iconst_n (q := 2) C 0 dL_begin_1 (by decide +kernel) rfl ?_
  refine pw_bipush_n (q := 4) C 76 dL_begin_2 (by decide +kernel) rfl ?_
  refine pw_iconst_n (q := 5) C 0 dL_begin_4 (by decide +kernel) rfl ?_
  refine pw_iconst_n (q := 6) C 0 dL_begin_5 (by decide +kernel) rfl ?_
  refine pw_iconst_n (q := 7) C 0 dL_begin_6 (by decide +kernel) rfl ?_
  refine pw_val (q := 10) (cr_s (j := iL_call) C dL_begin_7 lL_170 mL_call (ro_mk (by decide) (by decide))  (a_app hX (n := 0) (by omega) (by omega) ((txt_0 v).1)) rfl rfl (Nat.le_of_ble_eq_true rfl) ⟨by omega, by omega⟩) rfl (fun M7 e7 => ?_)
  have hX := e7.1
  have hF9 := hF9.tr e7.2
  refine pw_iconst_n (q := 11) C 1 dL_begin_10 (by decide +kernel) rfl ?_
  refine pw_icmp_ne_n (q := 14) 37 C dL_begin_11 (by decide) rfl (by omega) (by omega) (fun g11 => absurd g11 (by omega)) (fun g11 => ?_)
  refine pw_aload_n (q := 15) (j := 0) C dL_begin_14 rfl rfl rfl ?_
  refine pw_iconst_n (q := 16) C 0 dL_begin_15 (by decide +kernel) rfl ?_
  refine pw_bipush_n (q := 18) C 48 dL_begin_16 (by decide +kernel) rfl ?_
  refine pw_iload_n (q := 19) (j := 1) C dL_begin_18 rfl rfl rfl ?_
  refine pw_bipush_n (q := 21) C 10 dL_begin_19 (by decide +kernel) rfl ?_
  refine pw_irem_n (q := 22) C dL_begin_21 (by omega) (by omega) (by omega) rfl ?_
  refine pw_iadd_n (q := 23) C dL_begin_22 rfl ?_
  refine pw_iconst_n (q := 24) C 0 dL_begin_23 (by decide +kernel) rfl ?_
  refine pw_iconst_n (q := 25) C 0 dL_begin_24 (by decide +kernel) rfl ?_
  refine pw_iconst_n (q := 26) C 0 dL_begin_25 (by decide +kernel) rfl ?_
  refine pw_val (q := 29) (cr_s (j := iL_call) C dL_begin_26 lL_170 mL_call (ro_mk (by decide) (by decide))  (a_app hX (n := 1) (by omega) (by omega) ((txt_0 v).2)) rfl rfl (Nat.le_of_ble_eq_true rfl) ⟨by omega, by omega⟩) rfl (fun M26 e26 => ?_)
  have hX := e26.1
  have hF9 := hF9.tr e26.2
  refine pw_iconst_n (q := 30) C 2 dL_begin_29 (by decide +kernel) rfl ?_
  refine pw_icmp_ne_n (q := 33) 37 C dL_begin_30 (by decide) rfl (by omega) (by omega) (fun g30 => absurd g30 (by omega)) (fun g30 => ?_)
  refine pw_iconst_n (q := 34) C 1 dL_begin_33 (by decide +kernel) rfl ?_
  refine pw_goto (q := 0) 38 C dL_begin_34 (by decide) ?_
  refine pw_istore_n (q := 39) (j := 2) C dL_begin_38 rfl rfl (by decide) rfl ?_
  refine pw_iconst_n (q := 40) C 0 dL_begin_39 (by decide +kernel) rfl ?_
  refine pw_istore_n (q := 41) (j := 3) C dL_begin_40 rfl rfl (by decide) rfl ?_
  refine beg_c (j := 0) hv (by omega) hX hF9 C ⟨by omega, by omega⟩ (fun M1 e1 => ?_)
  clear hX hF9
  obtain ⟨hX, hF9⟩ := e1
  refine beg_c (j := 1) hv (by omega) hX hF9 C ⟨by omega, by omega⟩ (fun M2 e2 => ?_)
  clear hX hF9
  obtain ⟨hX, hF9⟩ := e2
  refine pw_iload_n (q := 42) (j := 3) C dL_begin_41 rfl rfl rfl ?_
  refine pw_iconst_n (q := 43) C 2 dL_begin_42 (by decide +kernel) rfl ?_
  refine pw_icmp_ge_n (q := 46) 153 C dL_begin_43 (by decide) rfl (by omega) (by omega) (fun g43 => ?_) (fun g43 => absurd g43 (by omega))
  refine pw_iconst_n (q := 154) C 0 dL_begin_153 (by decide +kernel) rfl ?_
  refine pw_istore_n (q := 155) (j := 3) C dL_begin_154 rfl rfl (by decide) rfl ?_
  refine beg_m (j := 0) hv (by omega) hX hF9 C ⟨by omega, by omega⟩ (fun M1 e1 => ?_)
  clear hX hF9
  obtain ⟨hX, hF9⟩ := e1
  refine beg_m (j := 1) hv (by omega) hX hF9 C ⟨by omega, by omega⟩ (fun M2 e2 => ?_)
  clear hX hF9
  obtain ⟨hX, hF9⟩ := e2
  refine pw_iload_n (q := 156) (j := 3) C dL_begin_155 rfl rfl rfl ?_
  refine pw_iconst_n (q := 157) C 2 dL_begin_156 (by decide +kernel) rfl ?_
  refine pw_icmp_ge_n (q := 160) 259 C dL_begin_157 (by decide) rfl (by omega) (by omega) (fun g157 => ?_) (fun g157 => absurd g157 (by omega))
  refine pw_iload_n (q := 260) (j := 2) C dL_begin_259 rfl rfl rfl ?_
  refine pw_if_eq_n (q := 263) 319 C dL_begin_260 (by decide) rfl (by omega) (fun g260 => absurd g260 (by decide)) (fun g260 => ?_)
  refine pw_aload_n (q := 264) (j := 0) C dL_begin_263 rfl rfl rfl ?_
  refine pw_iconst_n (q := 265) C 0 dL_begin_264 (by decide +kernel) rfl ?_
  refine pw_bipush_n (q := 267) C 115 dL_begin_265 (by decide +kernel) rfl ?_
  refine pw_iconst_n (q := 268) C 0 dL_begin_267 (by decide +kernel) rfl ?_
  refine pw_iconst_n (q := 269) C 0 dL_begin_268 (by decide +kernel) rfl ?_
  refine pw_iconst_n (q := 270) C 0 dL_begin_269 (by decide +kernel) rfl ?_
  refine pw_val (q := 273) (cr_s (j := iL_call) C dL_begin_270 lL_170 mL_call (ro_mk (by decide) (by decide))  (a_app hX (n := 18) (by omega) (by omega) (show txt v 18 = 115 from rfl)) rfl rfl (Nat.le_of_ble_eq_true rfl) ⟨by omega, by omega⟩) rfl (fun M270 e270 => ?_)
  have hX := e270.1
  have hF9 := hF9.tr e270.2
  refine pw_if_le_n (q := 276) 319 C dL_begin_273 (by decide) rfl (by omega) (fun g273 => absurd g273 (by omega)) (fun g273 => ?_)
  refine pw_aload_n (q := 277) (j := 0) C dL_begin_276 rfl rfl rfl ?_
  refine pw_iconst_n (q := 278) C 0 dL_begin_277 (by decide +kernel) rfl ?_
  refine pw_bipush_n (q := 280) C 49 dL_begin_278 (by decide +kernel) rfl ?_
  refine pw_iconst_n (q := 281) C 0 dL_begin_280 (by decide +kernel) rfl ?_
  refine pw_iconst_n (q := 282) C 0 dL_begin_281 (by decide +kernel) rfl ?_
  refine pw_iconst_n (q := 283) C 0 dL_begin_282 (by decide +kernel) rfl ?_
  refine pw_val (q := 286) (cr_s (j := iL_call) C dL_begin_283 lL_170 mL_call (ro_mk (by decide) (by decide))  (a_app hX (n := 19) (by omega) (by omega) (show txt v 19 = 49 from rfl)) rfl rfl (Nat.le_of_ble_eq_true rfl) ⟨by omega, by omega⟩) rfl (fun M283 e283 => ?_)
  have hX := e283.1
  have hF9 := hF9.tr e283.2
  refine pw_if_le_n (q := 289) 319 C dL_begin_286 (by decide) rfl (by omega) (fun g286 => absurd g286 (by omega)) (fun g286 => ?_)
  refine pw_aload_n (q := 290) (j := 0) C dL_begin_289 rfl rfl rfl ?_
  refine pw_iconst_n (q := 291) C 0 dL_begin_290 (by decide +kernel) rfl ?_
  refine pw_bipush_n (q := 293) C 48 dL_begin_291 (by decide +kernel) rfl ?_
  refine pw_iconst_n (q := 294) C 0 dL_begin_293 (by decide +kernel) rfl ?_
  refine pw_iconst_n (q := 295) C 0 dL_begin_294 (by decide +kernel) rfl ?_
  refine pw_iconst_n (q := 296) C 0 dL_begin_295 (by decide +kernel) rfl ?_
  refine pw_val (q := 299) (cr_s (j := iL_call) C dL_begin_296 lL_170 mL_call (ro_mk (by decide) (by decide))  (a_app hX (n := 20) (by omega) (by omega) (show txt v 20 = 48 from rfl)) rfl rfl (Nat.le_of_ble_eq_true rfl) ⟨by omega, by omega⟩) rfl (fun M296 e296 => ?_)
  have hX := e296.1
  have hF9 := hF9.tr e296.2
  refine pw_if_le_n (q := 302) 319 C dL_begin_299 (by decide) rfl (by omega) (fun g299 => absurd g299 (by omega)) (fun g299 => ?_)
  refine pw_aload_n (q := 303) (j := 0) C dL_begin_302 rfl rfl rfl ?_
  refine pw_iconst_n (q := 304) C 0 dL_begin_303 (by decide +kernel) rfl ?_
  refine pw_bipush_n (q := 306) C 50 dL_begin_304 (by decide +kernel) rfl ?_
  refine pw_iconst_n (q := 307) C 0 dL_begin_306 (by decide +kernel) rfl ?_
  refine pw_iconst_n (q := 308) C 0 dL_begin_307 (by decide +kernel) rfl ?_
  refine pw_iconst_n (q := 309) C 0 dL_begin_308 (by decide +kernel) rfl ?_
  refine pw_val (q := 312) (cr_s (j := iL_call) C dL_begin_309 lL_170 mL_call (ro_mk (by decide) (by decide))  (a_app hX (n := 21) (by omega) (by omega) (show txt v 21 = 50 from rfl)) rfl rfl (Nat.le_of_ble_eq_true rfl) ⟨by omega, by omega⟩) rfl (fun M309 e309 => ?_)
  have hX := e309.1
  have hF9 := hF9.tr e309.2
  refine pw_if_le_n (q := 315) 319 C dL_begin_312 (by decide) rfl (by omega) (fun g312 => absurd g312 (by omega)) (fun g312 => ?_)
  refine pw_iconst_n (q := 316) C 1 dL_begin_315 (by decide +kernel) rfl ?_
  refine pw_goto (q := 0) 320 C dL_begin_316 (by decide) ?_
  refine pw_istore_n (q := 321) (j := 2) C dL_begin_320 rfl rfl (by decide) rfl ?_
  refine pw_iload_n (q := 322) (j := 2) C dL_begin_321 rfl rfl rfl ?_
  refine pw_if_eq_n (q := 325) 342 C dL_begin_322 (by decide) rfl (by omega) (fun g322 => absurd g322 (by decide)) (fun g322 => ?_)
  refine pw_aload_n (q := 326) (j := 0) C dL_begin_325 rfl rfl rfl ?_
  refine pw_iconst_n (q := 327) C 1 dL_begin_326 (by decide +kernel) rfl ?_
  refine pw_iconst_n (q := 328) C 0 dL_begin_327 (by decide +kernel) rfl ?_
  refine pw_iconst_n (q := 329) C 0 dL_begin_328 (by decide +kernel) rfl ?_
  refine pw_iconst_n (q := 330) C 0 dL_begin_329 (by decide +kernel) rfl ?_
  refine pw_iconst_n (q := 331) C 0 dL_begin_330 (by decide +kernel) rfl ?_
  refine pw_val (q := 334) (cr_s (j := iL_call) C dL_begin_331 lL_170 mL_call (ro_mk (by decide) (by decide))  (a_load hX) rfl rfl (Nat.le_of_ble_eq_true rfl) ⟨by omega, by omega⟩) rfl (fun M331 e331 => ?_)
  have hX := e331.1
  have hF9 := hF9.tr e331.2
  refine pw_iconst_n (q := 335) C 1 dL_begin_334 (by decide +kernel) rfl ?_
  refine pw_icmp_ne_n (q := 338) 342 C dL_begin_335 (by decide) rfl (by omega) (by omega) (fun g335 => absurd g335 (by omega)) (fun g335 => ?_)
  refine pw_iconst_n (q := 339) C 1 dL_begin_338 (by decide +kernel) rfl ?_
  refine pw_goto (q := 0) 343 C dL_begin_339 (by decide) ?_
  exact pw_zret C dL_begin_343 rfl (by first | decide +kernel | exact nar_bN _ | exact nar_01 (by omega)) ⟨by omega, by omega⟩ (RV.mk rfl ⟨hX, hF9⟩)
