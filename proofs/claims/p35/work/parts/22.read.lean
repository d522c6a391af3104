/-! Reader. R: the page as it is read (work given at once, no frost in it), fr: whether frost was told. -/
abbrev Dg (T : Nat → Nat) (n q l h : Nat) : Prop := q < n ∧ l + 48 ≤ T q ∧ T q ≤ h + 48
def lo2 (v : Nat) : Nat := if v = 48 then 1 else 0
def hi2 (v : Nat) : Nat := if v = 48 then 9 else 2
def newMasonR (P : Nat → Nat) (x y : Nat) : Nat → Nat := updN (updN (updN (updN (updN P (26 + 4 * P 6) x) (26 + 4 * P 6 + 1) y) (26 + 4 * P 6 + 2) y) (26 + 4 * P 6 + 3) 0) 6 (P 6 + 1)
/-- flag, place, page, frost -/
abbrev TS := Nat × Nat × (Nat → Nat) × Nat
def crsS (T : Nat → Nat) (n p : Nat) (R : Nat → Nat) (fr : Nat) : TS :=
  if R 5 < 6 then (if Dg T n (p + 1) 1 9 then (if Dg T n (p + 2) 1 6 then (if Dg T n (p + 3) 1 9 then (1, p + 4, newCourseP R (T (p + 1) - 48) (T (p + 2) - 48) (T (p + 3) - 48), fr) else (0, p + 3, R, fr)) else (0, p + 2, R, fr)) else (0, p + 1, R, fr)) else (0, p, R, fr)
def masS (T : Nat → Nat) (n p : Nat) (R : Nat → Nat) (fr : Nat) : TS :=
  if R 6 < 6 then (if Dg T n (p + 1) 1 9 then (if Dg T n (p + 2) 0 1 then (if Dg T n (p + 3) (lo2 (T (p + 2))) (hi2 (T (p + 2))) then (1, p + 4, newMasonR R (T (p + 1) - 48) (10 * (T (p + 2) - 48) + (T (p + 3) - 48)), fr) else (0, p + 3, R, fr)) else (0, p + 2, R, fr)) else (0, p + 1, R, fr)) else (0, p, R, fr)
def stoS (T : Nat → Nat) (n p : Nat) (R : Nat → Nat) (fr : Nat) : TS :=
  if 0 < R 6 ∧ 0 < R 5 ∧ R 7 < 24 then (if Dg T n (p + 1) 0 (R 6 - 1) then (if Dg T n (p + 2) 0 (R 5 - 1) then (if Dg T n (p + 3) 0 9 then (1, p + 4, newStoneP R (T (p + 1) - 48) (T (p + 2) - 48) (T (p + 3) - 48), fr) else (0, p + 3, R, fr)) else (0, p + 2, R, fr)) else (0, p + 1, R, fr)) else (0, p, R, fr)
def froS (p : Nat) (R : Nat → Nat) (fr : Nat) : TS := if fr = 0 then (1, p + 1, R, 1) else (0, p, R, fr)
def parS (T : Nat → Nat) (n p : Nat) (R : Nat → Nat) (fr : Nat) : TS := if T p = 99 then crsS T n p R fr else if T p = 109 then masS T n p R fr else if T p = 115 then stoS T n p R fr else if T p = 102 then froS p R fr else (0, p, R, fr)
def readS (T : Nat → Nat) (n : Nat) : Nat → Nat → (Nat → Nat) → Nat → TS
  | 0, p, R, fr => (1, p, R, fr)
  | k + 1, p, R, fr => if p < n then (if (parS T n p R fr).1 = 1 then readS T n k (parS T n p R fr).2.1 (parS T n p R fr).2.2.1 (parS T n p R fr).2.2.2 else parS T n p R fr) else (1, p, R, fr)
def page0 (b : Nat) : Nat → Nat := fun k => if k = 0 then b else 0
def allS (T : Nat → Nat) (n : Nat) : TS := if 0 < n ∧ T 0 = 76 then (if Dg T n 1 0 9 then readS T n 80 2 (page0 (T 1 - 48)) 0 else (0, 1, page0 0, 0)) else (0, 0, page0 0, 0)
/-- the class's lodge while it reads -/
def clP (R : Nat → Nat) (fr : Nat) : Nat → Nat := fun k => if k = 2 then fr else if 26 ≤ k ∧ k < 50 ∧ (k - 26) % 4 = 2 then 0 else R k
theorem cl_course {R : Nat → Nat} {fr x y z : Nat} (h : R 5 < 6) : newCourseP (clP R fr) x y z = clP (newCourseP R x y z) fr := by
  have e : clP R fr 5 = R 5 := rfl
  funext k
  simp only [newCourseP, e, updN, clP]
  grind
theorem cl_mason {R : Nat → Nat} {fr x y : Nat} (h : R 6 < 6) : newMasonP (clP R fr) x y = clP (newMasonR R x y) fr := by
  have e : clP R fr 6 = R 6 := rfl
  funext k
  simp only [newMasonP, newMasonR, e, updN, clP]
  grind
theorem cl_stone {R : Nat → Nat} {fr m c f : Nat} (h : R 7 < 24) : newStoneP (clP R fr) m c f = clP (newStoneP R m c f) fr := by
  have e : clP R fr 7 = R 7 := rfl
  funext k
  simp only [newStoneP, e, updN, clP]
  grind
theorem cl_frost {R : Nat → Nat} {fr : Nat} : updN (clP R fr) 2 1 = clP R 1 := by
  funext k
  simp only [updN, clP]
  grind
theorem cl_new {b : Nat} : updN newP 0 b = clP (page0 b) 0 := by
  funext k
  simp only [updN, clP, page0, newP]
  grind
theorem dig_in {v l h : Nat} (hv : v < 65536) (hl : l < 65536) (hh : h < 65536) : (nI l ≤ nI v - nI 48 ∧ nI v - nI 48 ≤ nI h) ↔ (l + 48 ≤ v ∧ v ≤ h + 48) := by
  by_cases h48 : 48 ≤ v
  · rw [nI_sub h48, nI_leI (by omega) (by omega), nI_leI (by omega) (by omega)]
    omega
  · constructor
    · intro ⟨h1, _⟩
      exfalso
      have h2 := Int32.le_iff_toInt_le.mp h1
      rw [Int32.toInt_sub, nI_toInt (by omega), nI_toInt (by omega), nI_toInt (by omega), Int.bmod_eq_of_le (by omega) (by omega)] at h2
      omega
    · intro h9
      omega
def ReadAt (M : PH) (r t a p : Nat) : Prop := M.2 r = some (.inr (3, [.ref t, .ref a, .int (nI p)]))
def RdAt (M : PH) (r t tc a n : Nat) (T : Nat → Nat) (p : Nat) (R : Nat → Nat) (fr : Nat) : Prop := ReadAt M r t a p ∧ TextAt M t tc n T ∧ LodgeAt M a (clP R fr)
theorem st_b {T : Nat → Nat} {n p q l h : Nat} (hB : Dg T n p 0 1) (hC : Dg T n q l (hi2 h)) : 10 * (T p - 48) + (T q - 48) < 2147483648 := by
  have : hi2 h ≤ 9 := by unfold hi2; split <;> omega
  omega
theorem lk_def {v : Nat} (hv : v < 65536) (h1 : v ≠ 99) (h2 : v ≠ 102) (h3 : v ≠ 109) (h4 : v ≠ 115) : Op.lookupswitch.offset [(99, 41), (102, 56), (109, 46), (115, 51)] 61 (nI v).toInt = 61 := by
  rw [nI_toInt (by omega), Op.lookupswitch.offset_cons, if_neg (by omega), Op.lookupswitch.offset_cons, if_neg (by omega), Op.lookupswitch.offset_cons, if_neg (by omega), Op.lookupswitch.offset_cons, if_neg (by omega), Op.lookupswitch.offset_nil]
theorem crsS_1 (T : Nat → Nat) (n p : Nat) (R : Nat → Nat) (fr : Nat) : (crsS T n p R fr).1 ≤ 1 := by
  unfold crsS
  repeat' split
  all_goals simp
theorem masS_1 (T : Nat → Nat) (n p : Nat) (R : Nat → Nat) (fr : Nat) : (masS T n p R fr).1 ≤ 1 := by
  unfold masS
  repeat' split
  all_goals simp
theorem stoS_1 (T : Nat → Nat) (n p : Nat) (R : Nat → Nat) (fr : Nat) : (stoS T n p R fr).1 ≤ 1 := by
  unfold stoS
  repeat' split
  all_goals simp
theorem froS_1 (p : Nat) (R : Nat → Nat) (fr : Nat) : (froS p R fr).1 ≤ 1 := by
  unfold froS
  repeat' split
  all_goals simp
theorem parS_1 (T : Nat → Nat) (n p : Nat) (R : Nat → Nat) (fr : Nat) : (parS T n p R fr).1 ≤ 1 := by
  unfold parS
  split
  · exact crsS_1 ..
  · split
    · exact masS_1 ..
    · split
      · exact stoS_1 ..
      · split
        · exact froS_1 ..
        · simp
def Apart (r t tc a : Nat) : Prop := (r + 1 ≤ a ∨ a + 7 ≤ r) ∧ r ≠ t ∧ r ≠ tc ∧ (t < a ∨ a + 7 ≤ t) ∧ (tc < a ∨ a + 7 ≤ tc)
theorem TextAt.far {M M1 : PH} {t tc n lo hi : Nat} {T : Nat → Nat} (h : TextAt M t tc n T) (hs : Same M M1 lo hi) (h1 : t < lo ∨ hi ≤ t) (h2 : tc < lo ∨ hi ≤ tc) : TextAt M1 t tc n T := ⟨(hs.2 t h1).trans h.1, (hs.2 tc h2).trans h.2.1, h.2.2⟩
theorem ReadAt.put {M : PH} {r t a p : Nat} : ReadAt (hput M r (.inr (3, [.ref t, .ref a, .int (nI p)]))) r t a p := hput_at _ _ _
theorem Same.to2 {M M1 : PH} {lo hi l2 h2 : Nat} (h : Same M M1 lo hi) : Same2 M M1 lo hi l2 h2 := ⟨h.1, fun q g1 _ => h.2 q g1⟩
theorem Same2.then2 {M M1 M2 : PH} {lo hi l2 h2 : Nat} (h : Same2 M M1 lo hi l2 h2) (h9 : Same M1 M2 l2 h2) : Same2 M M2 lo hi l2 h2 := ⟨h9.1.trans h.1, fun q g1 g2 => (h9.2 q g2).trans (h.2 q g1 g2)⟩
theorem Same2.then1 {M M1 M2 : PH} {lo hi l2 h2 : Nat} (h : Same2 M M1 lo hi l2 h2) (h9 : Same M1 M2 lo hi) : Same2 M M2 lo hi l2 h2 := ⟨h9.1.trans h.1, fun q g1 g2 => (h9.2 q g1).trans (h.2 q g1 g2)⟩
theorem Same2.tt {M M1 M2 : PH} {lo hi l2 h2 : Nat} (h : Same2 M M1 lo hi l2 h2) (h9 : Same2 M1 M2 lo hi l2 h2) : Same2 M M2 lo hi l2 h2 := ⟨h9.1.trans h.1, fun q g1 g2 => (h9.2 q g1 g2).trans (h.2 q g1 g2)⟩
set_option maxHeartbeats 200000 in
set_option maxRecDepth 100000 in
theorem i_within {M : PH} {v l h : Int32} : Run iX10_isWithin [.int v, .int l, .int h] M 0 0 (RV (.int (nI (bN (l ≤ v ∧ v ≤ h)))) (fun M1 => M1 = M)) := by
  refine Run.of (l0 := [some (.int v), some (.int l), some (.int h)]) (by decide +kernel) (Nat.le_of_ble_eq_true rfl) (by rfl) (fun Γ G C => ?_)
  refine pw_iload_n (q := 1) (j := 0) C dX10_isWithin_0 rfl rfl rfl ?_
  refine pw_iload_n (q := 2) (j := 1) C dX10_isWithin_1 rfl rfl rfl ?_
  refine pw_icmp_lt (q := 5) 14 C dX10_isWithin_2 (by decide) rfl (fun g2 => ?_) (fun g2 => ?_)
  · refine pw_iconst_n (q := 15) C 0 dX10_isWithin_14 (by decide +kernel) rfl ?_
    exact pw_zret C dX10_isWithin_15 rfl (by first | decide +kernel | exact nar_bN _ | exact nar_01 (by omega)) ⟨by omega, by omega⟩ (RV.mk (v0 (fun q => absurd g2 (Int32.not_lt.mpr q.1))) rfl)
  · refine pw_iload_n (q := 6) (j := 0) C dX10_isWithin_5 rfl rfl rfl ?_
    refine pw_iload_n (q := 7) (j := 2) C dX10_isWithin_6 rfl rfl rfl ?_
    refine pw_icmp_gt (q := 10) 14 C dX10_isWithin_7 (by decide) rfl (fun g7 => ?_) (fun g7 => ?_)
    · refine pw_iconst_n (q := 15) C 0 dX10_isWithin_14 (by decide +kernel) rfl ?_
      exact pw_zret C dX10_isWithin_15 rfl (by first | decide +kernel | exact nar_bN _ | exact nar_01 (by omega)) ⟨by omega, by omega⟩ (RV.mk (v0 (fun q => absurd g7 (Int32.not_lt.mpr q.2))) rfl)
    · refine pw_iconst_n (q := 11) C 1 dX10_isWithin_10 (by decide +kernel) rfl ?_
      refine pw_goto (q := 0) 15 C dX10_isWithin_11 (by decide) ?_
      exact pw_zret C dX10_isWithin_15 rfl (by first | decide +kernel | exact nar_bN _ | exact nar_01 (by omega)) ⟨by omega, by omega⟩ (RV.mk (v1 ⟨Int32.not_lt.mp g2, Int32.not_lt.mp g7⟩) rfl)
set_option maxHeartbeats 200000 in
set_option maxRecDepth 100000 in
theorem d_yes {M : PH} {r t tc a n p l h : Nat} {T : Nat → Nat} (hR : ReadAt M r t a p) (hT : TextAt M t tc n T) (hp : p ≤ 100) (hl : l ≤ 9) (hh : h ≤ 9) (hD : Dg T n p l h) : Run iX4_takeDigit [.ref r, .int (nI l), .int (nI h)] M 0 0 (RV (.int (nI (T p - 48))) (fun M1 => ReadAt M1 r t a (p + 1) ∧ Same M M1 r (r + 1))) := by
  obtain ⟨hD1, hD2, hD3⟩ := hD
  have ht9 := hT.2.2.2.1 p hD1
  refine Run.of (l0 := [some (.ref r), some (.int (nI l)), some (.int (nI h)), none]) (by decide +kernel) (Nat.le_of_ble_eq_true rfl) (by rfl) (fun Γ G C => ?_)
  refine pw_aload_n (q := 1) (j := 0) C dX4_takeDigit_0 rfl rfl rfl ?_
  refine pw_getf (q := 4) C dX4_takeDigit_1 fX4_9 hR (by rfl) rfl ?_
  refine pw_aload_n (q := 5) (j := 0) C dX4_takeDigit_4 rfl rfl rfl ?_
  refine pw_getf (q := 8) C dX4_takeDigit_5 fX4_19 hR (by rfl) rfl ?_
  refine pw_rd (q := 11) (cr_v (j := iX9_at) C dX4_takeDigit_8 lX4_28 mX9_at (ro_mk (by decide) (by decide)) hT.1 rfl (x_at hT (by omega)) rfl rfl (Nat.le_of_ble_eq_true rfl) ⟨by omega, by omega⟩) rfl ?_
  rw [if_pos hD1]
  refine pw_bipush_n (q := 13) C 48 dX4_takeDigit_11 (by decide +kernel) rfl ?_
  refine pw_isub_n (q := 14) C dX4_takeDigit_13 (by omega) rfl ?_
  refine pw_istore_n (q := 15) (j := 3) C dX4_takeDigit_14 rfl rfl (by decide) rfl ?_
  refine pw_iload_n (q := 16) (j := 3) C dX4_takeDigit_15 rfl rfl rfl ?_
  refine pw_iload_n (q := 17) (j := 1) C dX4_takeDigit_16 rfl rfl rfl ?_
  refine pw_iload_n (q := 18) (j := 2) C dX4_takeDigit_17 rfl rfl rfl ?_
  refine pw_rd (q := 21) (cr_sn (j := iX10_isWithin) C dX4_takeDigit_18 lnX4_64 mX10_isWithin (ro_mk (by decide) (by decide)) RV.no (i_within) rfl rfl (Nat.le_of_ble_eq_true rfl) ⟨by omega, by omega⟩) rfl ?_
  refine pw_if_ne_b (q := 24) 27 C dX4_takeDigit_21 (by decide) rfl (fun g21 => ?_) (fun g21 => absurd g21 (fun q => q ⟨(nI_leI (by omega) (by omega)).mpr (by omega), (nI_leI (by omega) (by omega)).mpr (by omega)⟩))
  refine pw_aload_n (q := 28) (j := 0) C dX4_takeDigit_27 rfl rfl rfl ?_
  refine pw_dup (q := 29) C dX4_takeDigit_28 rfl rfl ?_
  refine pw_getf (q := 32) C dX4_takeDigit_29 fX4_19 hR (by rfl) rfl ?_
  refine pw_iconst_n (q := 33) C 1 dX4_takeDigit_32 (by decide +kernel) rfl ?_
  refine pw_iadd_n (q := 34) C dX4_takeDigit_33 rfl ?_
  refine pw_put (q := 37) C dX4_takeDigit_34 fX4_19 hR (by rfl) (by rfl) (Nat.le_of_ble_eq_true rfl) rfl ?_
  refine pw_iload_n (q := 38) (j := 3) C dX4_takeDigit_37 rfl rfl rfl ?_
  exact pw_iret C dX4_takeDigit_38 rfl ⟨by omega, by omega⟩ (RV.mk (by rfl) ⟨ReadAt.put, Same.put (by omega) (by omega)⟩)
set_option maxHeartbeats 200000 in
set_option maxRecDepth 100000 in
theorem d_no {M : PH} {r t tc a n p l h : Nat} {T : Nat → Nat} (hR : ReadAt M r t a p) (hT : TextAt M t tc n T) (hp : p ≤ 100) (hl : l ≤ 9) (hh : h ≤ 9) (hD : ¬ Dg T n p l h) : Run iX4_takeDigit [.ref r, .int (nI l), .int (nI h)] M 0 0 (RV (.int (-9)) (fun M1 => M1 = M)) := by
  have hv : (if p < n then T p else 0) < 65536 := by
    split
    · rename_i h9; have := hT.2.2.2.1 p h9; omega
    · omega
  have hn9 : ¬ (nI l ≤ nI (if p < n then T p else 0) - nI 48 ∧ nI (if p < n then T p else 0) - nI 48 ≤ nI h) := by
    rw [dig_in hv (by omega) (by omega)]
    intro ⟨h1, h2⟩
    split at h1
    · rename_i h9
      rw [if_pos h9] at h2
      exact hD ⟨h9, h1, h2⟩
    · omega
  refine Run.of (l0 := [some (.ref r), some (.int (nI l)), some (.int (nI h)), none]) (by decide +kernel) (Nat.le_of_ble_eq_true rfl) (by rfl) (fun Γ G C => ?_)
  refine pw_aload_n (q := 1) (j := 0) C dX4_takeDigit_0 rfl rfl rfl ?_
  refine pw_getf (q := 4) C dX4_takeDigit_1 fX4_9 hR (by rfl) rfl ?_
  refine pw_aload_n (q := 5) (j := 0) C dX4_takeDigit_4 rfl rfl rfl ?_
  refine pw_getf (q := 8) C dX4_takeDigit_5 fX4_19 hR (by rfl) rfl ?_
  refine pw_rd (q := 11) (cr_v (j := iX9_at) C dX4_takeDigit_8 lX4_28 mX9_at (ro_mk (by decide) (by decide)) hT.1 rfl (x_at hT (by omega)) rfl rfl (Nat.le_of_ble_eq_true rfl) ⟨by omega, by omega⟩) rfl ?_
  refine pw_bipush_n (q := 13) C 48 dX4_takeDigit_11 (by decide +kernel) rfl ?_
  refine pw_isub (q := 14) C dX4_takeDigit_13 rfl ?_
  refine pw_istore_n (q := 15) (j := 3) C dX4_takeDigit_14 rfl rfl (by decide) rfl ?_
  refine pw_iload_n (q := 16) (j := 3) C dX4_takeDigit_15 rfl rfl rfl ?_
  refine pw_iload_n (q := 17) (j := 1) C dX4_takeDigit_16 rfl rfl rfl ?_
  refine pw_iload_n (q := 18) (j := 2) C dX4_takeDigit_17 rfl rfl rfl ?_
  refine pw_rd (q := 21) (cr_sn (j := iX10_isWithin) C dX4_takeDigit_18 lnX4_64 mX10_isWithin (ro_mk (by decide) (by decide)) RV.no (i_within) rfl rfl (Nat.le_of_ble_eq_true rfl) ⟨by omega, by omega⟩) rfl ?_
  refine pw_if_ne_b (q := 24) 27 C dX4_takeDigit_21 (by decide) rfl (fun g21 => absurd g21 hn9) (fun g21 => ?_)
  refine pw_bipush (q := 26) (v := (-9)) C dX4_takeDigit_24 (by decide +kernel) rfl ?_
  exact pw_iret C dX4_takeDigit_26 rfl ⟨by omega, by omega⟩ (RV.mk (by rfl) rfl)
set_option maxHeartbeats 200000 in
set_option maxRecDepth 100000 in
theorem d_course {M : PH} {r t tc a n p fr : Nat} {T R : Nat → Nat} (hS : RdAt M r t tc a n T p R fr) (hx : Apart r t tc a) (hp : p ≤ 80) : Run iX4_takeCourse [.ref r] M 0 0 (RV (.int (nI (crsS T n p R fr).1)) (fun M1 => RdAt M1 r t tc a n T (crsS T n p R fr).2.1 (crsS T n p R fr).2.2.1 (crsS T n p R fr).2.2.2 ∧ Same2 M M1 r (r + 1) a (a + 7))) := by
  obtain ⟨hR, hT, hL⟩ := hS
  obtain ⟨x1, x2, x3, x4, x5⟩ := hx
  obtain ⟨fc, fm, fs, hG, hr⟩ := id hL
  have b5 : R 5 ≤ 6 := hG.2.1.2.2.1
  have b6 : R 6 ≤ 6 := hG.2.2.1.2.2.1
  have b7 : R 7 ≤ 24 := hG.2.2.2.2.2.1
  have c5 : clP R fr 5 = R 5 := rfl
  have c6 : clP R fr 6 = R 6 := rfl
  have c7 : clP R fr 7 = R 7 := rfl
  refine Run.of (l0 := [some (.ref r), none, none, none]) (by decide +kernel) (Nat.le_of_ble_eq_true rfl) (by rfl) (fun Γ G C => ?_)
  refine pw_aload_n (q := 1) (j := 0) C dX4_takeCourse_0 rfl rfl rfl ?_
  refine pw_getf (q := 4) C dX4_takeCourse_1 fX4_15 hR (by rfl) rfl ?_
  refine pw_getf (q := 7) C dX4_takeCourse_4 fX4_68 hG.1 (by rfl) rfl ?_
  refine pw_rd (q := 10) (cr_v (j := iX8_hasRoom) C dX4_takeCourse_7 lX4_72 mX8_hasRoom (ro_mk (by decide) (by decide)) hG.2.1.1 rfl (k_hasRoom hG.2.1) rfl rfl (Nat.le_of_ble_eq_true rfl) ⟨by omega, by omega⟩) rfl ?_
  refine pw_if_ne_b (q := 13) 15 C dX4_takeCourse_10 (by decide) rfl (fun g10 => ?_) (fun g10 => ?_)
  · refine pw_aload_n (q := 16) (j := 0) C dX4_takeCourse_15 rfl rfl rfl ?_
    refine pw_dup (q := 17) C dX4_takeCourse_16 rfl rfl ?_
    refine pw_getf (q := 20) C dX4_takeCourse_17 fX4_19 hR (by rfl) rfl ?_
    refine pw_iconst_n (q := 21) C 1 dX4_takeCourse_20 (by decide +kernel) rfl ?_
    refine pw_iadd_n (q := 22) C dX4_takeCourse_21 rfl ?_
    refine pw_put (q := 25) C dX4_takeCourse_22 fX4_19 hR (by rfl) (by rfl) (Nat.le_of_ble_eq_true rfl) rfl ?_
    refine pw_heap (fun M19 => ReadAt M19 r t a (p + 1) ∧ Same M M19 r (r + 1)) ⟨ReadAt.put, Same.put (by omega) (by omega)⟩ (fun M19 ⟨hR, sm9⟩ => ?_)
    have hT := hT.far sm9 (by omega) (by omega)
    have hL := hL.far sm9 (by omega)
    obtain ⟨fc, fm, fs, hG, hr⟩ := id hL
    have sm := sm9
    by_cases hA : Dg T n (p + 1) 1 9
    · refine pw_aload_n (q := 26) (j := 0) C dX4_takeCourse_25 rfl rfl rfl ?_
      refine pw_iconst_n (q := 27) C 1 dX4_takeCourse_26 (by decide +kernel) rfl ?_
      refine pw_bipush_n (q := 29) C 9 dX4_takeCourse_27 (by decide +kernel) rfl ?_
      refine pw_val (q := 32) (cr_v (j := iX4_takeDigit) C dX4_takeCourse_29 lX4_34 mX4_takeDigit (ro_mk (by decide) (by decide)) hR rfl (d_yes hR hT (by omega) (by omega) (by omega) hA) rfl rfl (Nat.le_of_ble_eq_true rfl) ⟨by omega, by omega⟩) rfl (fun M29 e29 => ?_)
      obtain ⟨hR, sm9⟩ := e29
      have hT := hT.far sm9 (by omega) (by omega)
      have hL := hL.far sm9 (by omega)
      obtain ⟨fc, fm, fs, hG, hr⟩ := id hL
      have sm := sm.tr sm9
      have hR : ReadAt M29 r t a (p + 2) := hR
      refine pw_istore_n (q := 33) (j := 1) C dX4_takeCourse_32 rfl rfl (by decide) rfl ?_
      refine pw_iload_n (q := 34) (j := 1) C dX4_takeCourse_33 rfl rfl rfl ?_
      refine pw_bipush (q := 36) (v := (-9)) C dX4_takeCourse_34 (by decide +kernel) rfl ?_
      refine pw_icmp_ne (q := 39) 44 C dX4_takeCourse_36 (by decide) rfl (fun g36 => ?_) (fun g36 => absurd g36 (optI_ne (by omega)))
      by_cases hB : Dg T n (p + 2) 1 6
      · refine pw_aload_n (q := 45) (j := 0) C dX4_takeCourse_44 rfl rfl rfl ?_
        refine pw_iconst_n (q := 46) C 1 dX4_takeCourse_45 (by decide +kernel) rfl ?_
        refine pw_bipush_n (q := 48) C 6 dX4_takeCourse_46 (by decide +kernel) rfl ?_
        refine pw_val (q := 51) (cr_v (j := iX4_takeDigit) C dX4_takeCourse_48 lX4_34 mX4_takeDigit (ro_mk (by decide) (by decide)) hR rfl (d_yes hR hT (by omega) (by omega) (by omega) hB) rfl rfl (Nat.le_of_ble_eq_true rfl) ⟨by omega, by omega⟩) rfl (fun M48 e48 => ?_)
        obtain ⟨hR, sm9⟩ := e48
        have hT := hT.far sm9 (by omega) (by omega)
        have hL := hL.far sm9 (by omega)
        obtain ⟨fc, fm, fs, hG, hr⟩ := id hL
        have sm := sm.tr sm9
        have hR : ReadAt M48 r t a (p + 3) := hR
        refine pw_istore_n (q := 52) (j := 2) C dX4_takeCourse_51 rfl rfl (by decide) rfl ?_
        refine pw_iload_n (q := 53) (j := 2) C dX4_takeCourse_52 rfl rfl rfl ?_
        refine pw_bipush (q := 55) (v := (-9)) C dX4_takeCourse_53 (by decide +kernel) rfl ?_
        refine pw_icmp_ne (q := 58) 63 C dX4_takeCourse_55 (by decide) rfl (fun g55 => ?_) (fun g55 => absurd g55 (optI_ne (by omega)))
        by_cases hC : Dg T n (p + 3) 1 9
        · refine pw_aload_n (q := 64) (j := 0) C dX4_takeCourse_63 rfl rfl rfl ?_
          refine pw_iconst_n (q := 65) C 1 dX4_takeCourse_64 (by decide +kernel) rfl ?_
          refine pw_bipush_n (q := 67) C 9 dX4_takeCourse_65 (by decide +kernel) rfl ?_
          refine pw_val (q := 70) (cr_v (j := iX4_takeDigit) C dX4_takeCourse_67 lX4_34 mX4_takeDigit (ro_mk (by decide) (by decide)) hR rfl (d_yes hR hT (by omega) (by omega) (by omega) hC) rfl rfl (Nat.le_of_ble_eq_true rfl) ⟨by omega, by omega⟩) rfl (fun M67 e67 => ?_)
          obtain ⟨hR, sm9⟩ := e67
          have hT := hT.far sm9 (by omega) (by omega)
          have hL := hL.far sm9 (by omega)
          obtain ⟨fc, fm, fs, hG, hr⟩ := id hL
          have sm := sm.tr sm9
          have hR : ReadAt M67 r t a (p + 4) := hR
          refine pw_istore_n (q := 71) (j := 3) C dX4_takeCourse_70 rfl rfl (by decide) rfl ?_
          refine pw_iload_n (q := 72) (j := 3) C dX4_takeCourse_71 rfl rfl rfl ?_
          refine pw_bipush (q := 74) (v := (-9)) C dX4_takeCourse_72 (by decide +kernel) rfl ?_
          refine pw_icmp_ne (q := 77) 79 C dX4_takeCourse_74 (by decide) rfl (fun g74 => ?_) (fun g74 => absurd g74 (optI_ne (by omega)))
          refine pw_aload_n (q := 80) (j := 0) C dX4_takeCourse_79 rfl rfl rfl ?_
          refine pw_getf (q := 83) C dX4_takeCourse_80 fX4_15 hR (by rfl) rfl ?_
          refine pw_iload_n (q := 84) (j := 1) C dX4_takeCourse_83 rfl rfl rfl ?_
          refine pw_iload_n (q := 85) (j := 2) C dX4_takeCourse_84 rfl rfl rfl ?_
          refine pw_iload_n (q := 86) (j := 3) C dX4_takeCourse_85 rfl rfl rfl ?_
          refine pw_val (q := 89) (cr_v (j := iX2_newCourse) C dX4_takeCourse_86 lX4_77 mX2_newCourse (ro_mk (by decide) (by decide)) hG.1 rfl (w_newCourse hL g10) rfl rfl (Nat.le_of_ble_eq_true rfl) ⟨by omega, by omega⟩) rfl (fun M86 e86 => ?_)
          obtain ⟨hL, sm8⟩ := e86
          rw [cl_course (show R 5 < 6 from g10)] at hL
          have hT := hT.far sm8 x4 x5
          have hR := (sm8.2 r (by omega)).trans hR
          refine pw_pop (q := 90) C dX4_takeCourse_89 rfl rfl ?_
          refine pw_iconst_n (q := 91) C 1 dX4_takeCourse_90 (by decide +kernel) rfl ?_
          exact pw_zret C dX4_takeCourse_91 rfl (by first | decide +kernel | exact nar_bN _ | exact nar_01 (by omega)) ⟨by omega, by omega⟩ (by
              have hs : crsS T n p R fr = (1, p + 4, newCourseP R (T (p + 1) - 48) (T (p + 2) - 48) (T (p + 3) - 48), fr) := by rw [crsS, if_pos (show R 5 < 6 from g10), if_pos hA, if_pos hB, if_pos hC]
              rw [hs]
              exact RV.mk (by rfl) ⟨⟨hR, hT, hL⟩, sm.to2.then2 sm8⟩)
        · refine pw_aload_n (q := 64) (j := 0) C dX4_takeCourse_63 rfl rfl rfl ?_
          refine pw_iconst_n (q := 65) C 1 dX4_takeCourse_64 (by decide +kernel) rfl ?_
          refine pw_bipush_n (q := 67) C 9 dX4_takeCourse_65 (by decide +kernel) rfl ?_
          refine pw_rd (q := 70) (cr_v (j := iX4_takeDigit) C dX4_takeCourse_67 lX4_34 mX4_takeDigit (ro_mk (by decide) (by decide)) hR rfl (d_no hR hT (by omega) (by omega) (by omega) hC) rfl rfl (Nat.le_of_ble_eq_true rfl) ⟨by omega, by omega⟩) rfl ?_
          refine pw_istore_n (q := 71) (j := 3) C dX4_takeCourse_70 rfl rfl (by decide) rfl ?_
          refine pw_iload_n (q := 72) (j := 3) C dX4_takeCourse_71 rfl rfl rfl ?_
          refine pw_bipush (q := 74) (v := (-9)) C dX4_takeCourse_72 (by decide +kernel) rfl ?_
          refine pw_icmp_ne (q := 77) 79 C dX4_takeCourse_74 (by decide) rfl (fun g74 => absurd g74 (fun q => q rfl)) (fun g74 => ?_)
          refine pw_iconst_n (q := 78) C 0 dX4_takeCourse_77 (by decide +kernel) rfl ?_
          exact pw_zret C dX4_takeCourse_78 rfl (by first | decide +kernel | exact nar_bN _ | exact nar_01 (by omega)) ⟨by omega, by omega⟩ (by
              have hs : crsS T n p R fr = (0, p + 3, R, fr) := by rw [crsS, if_pos (show R 5 < 6 from g10), if_pos hA, if_pos hB, if_neg hC]
              rw [hs]
              exact RV.mk (by rfl) ⟨⟨hR, hT, hL⟩, sm.to2⟩)
      · refine pw_aload_n (q := 45) (j := 0) C dX4_takeCourse_44 rfl rfl rfl ?_
        refine pw_iconst_n (q := 46) C 1 dX4_takeCourse_45 (by decide +kernel) rfl ?_
        refine pw_bipush_n (q := 48) C 6 dX4_takeCourse_46 (by decide +kernel) rfl ?_
        refine pw_rd (q := 51) (cr_v (j := iX4_takeDigit) C dX4_takeCourse_48 lX4_34 mX4_takeDigit (ro_mk (by decide) (by decide)) hR rfl (d_no hR hT (by omega) (by omega) (by omega) hB) rfl rfl (Nat.le_of_ble_eq_true rfl) ⟨by omega, by omega⟩) rfl ?_
        refine pw_istore_n (q := 52) (j := 2) C dX4_takeCourse_51 rfl rfl (by decide) rfl ?_
        refine pw_iload_n (q := 53) (j := 2) C dX4_takeCourse_52 rfl rfl rfl ?_
        refine pw_bipush (q := 55) (v := (-9)) C dX4_takeCourse_53 (by decide +kernel) rfl ?_
        refine pw_icmp_ne (q := 58) 63 C dX4_takeCourse_55 (by decide) rfl (fun g55 => absurd g55 (fun q => q rfl)) (fun g55 => ?_)
        refine pw_bipush (q := 60) (v := (-9)) C dX4_takeCourse_58 (by decide +kernel) rfl ?_
        refine pw_goto (q := 0) 70 C dX4_takeCourse_60 (by decide) ?_
        refine pw_istore_n (q := 71) (j := 3) C dX4_takeCourse_70 rfl rfl (by decide) rfl ?_
        refine pw_iload_n (q := 72) (j := 3) C dX4_takeCourse_71 rfl rfl rfl ?_
        refine pw_bipush (q := 74) (v := (-9)) C dX4_takeCourse_72 (by decide +kernel) rfl ?_
        refine pw_icmp_ne (q := 77) 79 C dX4_takeCourse_74 (by decide) rfl (fun g74 => absurd g74 (fun q => q rfl)) (fun g74 => ?_)
        refine pw_iconst_n (q := 78) C 0 dX4_takeCourse_77 (by decide +kernel) rfl ?_
        exact pw_zret C dX4_takeCourse_78 rfl (by first | decide +kernel | exact nar_bN _ | exact nar_01 (by omega)) ⟨by omega, by omega⟩ (by
            have hs : crsS T n p R fr = (0, p + 2, R, fr) := by rw [crsS, if_pos (show R 5 < 6 from g10), if_pos hA, if_neg hB]
            rw [hs]
            exact RV.mk (by rfl) ⟨⟨hR, hT, hL⟩, sm.to2⟩)
    · refine pw_aload_n (q := 26) (j := 0) C dX4_takeCourse_25 rfl rfl rfl ?_
      refine pw_iconst_n (q := 27) C 1 dX4_takeCourse_26 (by decide +kernel) rfl ?_
      refine pw_bipush_n (q := 29) C 9 dX4_takeCourse_27 (by decide +kernel) rfl ?_
      refine pw_rd (q := 32) (cr_v (j := iX4_takeDigit) C dX4_takeCourse_29 lX4_34 mX4_takeDigit (ro_mk (by decide) (by decide)) hR rfl (d_no hR hT (by omega) (by omega) (by omega) hA) rfl rfl (Nat.le_of_ble_eq_true rfl) ⟨by omega, by omega⟩) rfl ?_
      refine pw_istore_n (q := 33) (j := 1) C dX4_takeCourse_32 rfl rfl (by decide) rfl ?_
      refine pw_iload_n (q := 34) (j := 1) C dX4_takeCourse_33 rfl rfl rfl ?_
      refine pw_bipush (q := 36) (v := (-9)) C dX4_takeCourse_34 (by decide +kernel) rfl ?_
      refine pw_icmp_ne (q := 39) 44 C dX4_takeCourse_36 (by decide) rfl (fun g36 => absurd g36 (fun q => q rfl)) (fun g36 => ?_)
      refine pw_bipush (q := 41) (v := (-9)) C dX4_takeCourse_39 (by decide +kernel) rfl ?_
      refine pw_goto (q := 0) 51 C dX4_takeCourse_41 (by decide) ?_
      refine pw_istore_n (q := 52) (j := 2) C dX4_takeCourse_51 rfl rfl (by decide) rfl ?_
      refine pw_iload_n (q := 53) (j := 2) C dX4_takeCourse_52 rfl rfl rfl ?_
      refine pw_bipush (q := 55) (v := (-9)) C dX4_takeCourse_53 (by decide +kernel) rfl ?_
      refine pw_icmp_ne (q := 58) 63 C dX4_takeCourse_55 (by decide) rfl (fun g55 => absurd g55 (fun q => q rfl)) (fun g55 => ?_)
      refine pw_bipush (q := 60) (v := (-9)) C dX4_takeCourse_58 (by decide +kernel) rfl ?_
      refine pw_goto (q := 0) 70 C dX4_takeCourse_60 (by decide) ?_
      refine pw_istore_n (q := 71) (j := 3) C dX4_takeCourse_70 rfl rfl (by decide) rfl ?_
      refine pw_iload_n (q := 72) (j := 3) C dX4_takeCourse_71 rfl rfl rfl ?_
      refine pw_bipush (q := 74) (v := (-9)) C dX4_takeCourse_72 (by decide +kernel) rfl ?_
      refine pw_icmp_ne (q := 77) 79 C dX4_takeCourse_74 (by decide) rfl (fun g74 => absurd g74 (fun q => q rfl)) (fun g74 => ?_)
      refine pw_iconst_n (q := 78) C 0 dX4_takeCourse_77 (by decide +kernel) rfl ?_
      exact pw_zret C dX4_takeCourse_78 rfl (by first | decide +kernel | exact nar_bN _ | exact nar_01 (by omega)) ⟨by omega, by omega⟩ (by
          have hs : crsS T n p R fr = (0, p + 1, R, fr) := by rw [crsS, if_pos (show R 5 < 6 from g10), if_neg hA]
          rw [hs]
          exact RV.mk (by rfl) ⟨⟨hR, hT, hL⟩, sm.to2⟩)
  · refine pw_iconst_n (q := 14) C 0 dX4_takeCourse_13 (by decide +kernel) rfl ?_
    exact pw_zret C dX4_takeCourse_14 rfl (by first | decide +kernel | exact nar_bN _ | exact nar_01 (by omega)) ⟨by omega, by omega⟩ (by
        have hs : crsS T n p R fr = (0, p, R, fr) := by rw [crsS, if_neg (show ¬ R 5 < 6 from g10)]
        rw [hs]
        exact RV.mk (by rfl) ⟨⟨hR, hT, hL⟩, Same.rf.to2⟩)
set_option maxHeartbeats 200000 in
set_option maxRecDepth 100000 in
theorem d_stone {M : PH} {r t tc a n p fr : Nat} {T R : Nat → Nat} (hS : RdAt M r t tc a n T p R fr) (hx : Apart r t tc a) (hp : p ≤ 80) : Run iX4_takeStone [.ref r] M 0 0 (RV (.int (nI (stoS T n p R fr).1)) (fun M1 => RdAt M1 r t tc a n T (stoS T n p R fr).2.1 (stoS T n p R fr).2.2.1 (stoS T n p R fr).2.2.2 ∧ Same2 M M1 r (r + 1) a (a + 7))) := by
  obtain ⟨hR, hT, hL⟩ := hS
  obtain ⟨x1, x2, x3, x4, x5⟩ := hx
  obtain ⟨fc, fm, fs, hG, hr⟩ := id hL
  have b5 : R 5 ≤ 6 := hG.2.1.2.2.1
  have b6 : R 6 ≤ 6 := hG.2.2.1.2.2.1
  have b7 : R 7 ≤ 24 := hG.2.2.2.2.2.1
  have c5 : clP R fr 5 = R 5 := rfl
  have c6 : clP R fr 6 = R 6 := rfl
  have c7 : clP R fr 7 = R 7 := rfl
  refine Run.of (l0 := [some (.ref r), none, none, none]) (by decide +kernel) (Nat.le_of_ble_eq_true rfl) (by rfl) (fun Γ G C => ?_)
  refine pw_aload_n (q := 1) (j := 0) C dX4_takeStone_0 rfl rfl rfl ?_
  refine pw_getf (q := 4) C dX4_takeStone_1 fX4_15 hR (by rfl) rfl ?_
  refine pw_getf (q := 7) C dX4_takeStone_4 fX4_81 hG.1 (by rfl) rfl ?_
  refine pw_rd (q := 10) (cr_v (j := iX8_size) C dX4_takeStone_7 lX4_90 mX8_size (ro_mk (by decide) (by decide)) hG.2.2.1.1 rfl (k_size hG.2.2.1) rfl rfl (Nat.le_of_ble_eq_true rfl) ⟨by omega, by omega⟩) rfl ?_
  refine pw_if_eq_n (q := 13) 39 C dX4_takeStone_10 (by decide) rfl (by omega) (fun g10 => ?_) (fun g10 => ?_)
  · refine pw_iconst_n (q := 40) C 0 dX4_takeStone_39 (by decide +kernel) rfl ?_
    exact pw_zret C dX4_takeStone_40 rfl (by first | decide +kernel | exact nar_bN _ | exact nar_01 (by omega)) ⟨by omega, by omega⟩ (by
        have hs : stoS T n p R fr = (0, p, R, fr) := by rw [stoS, if_neg (by omega)]
        rw [hs]
        exact RV.mk (by rfl) ⟨⟨hR, hT, hL⟩, Same.rf.to2⟩)
  · refine pw_aload_n (q := 14) (j := 0) C dX4_takeStone_13 rfl rfl rfl ?_
    refine pw_getf (q := 17) C dX4_takeStone_14 fX4_15 hR (by rfl) rfl ?_
    refine pw_getf (q := 20) C dX4_takeStone_17 fX4_68 hG.1 (by rfl) rfl ?_
    refine pw_rd (q := 23) (cr_v (j := iX8_size) C dX4_takeStone_20 lX4_90 mX8_size (ro_mk (by decide) (by decide)) hG.2.1.1 rfl (k_size hG.2.1) rfl rfl (Nat.le_of_ble_eq_true rfl) ⟨by omega, by omega⟩) rfl ?_
    refine pw_if_eq_n (q := 26) 39 C dX4_takeStone_23 (by decide) rfl (by omega) (fun g23 => ?_) (fun g23 => ?_)
    · refine pw_iconst_n (q := 40) C 0 dX4_takeStone_39 (by decide +kernel) rfl ?_
      exact pw_zret C dX4_takeStone_40 rfl (by first | decide +kernel | exact nar_bN _ | exact nar_01 (by omega)) ⟨by omega, by omega⟩ (by
          have hs : stoS T n p R fr = (0, p, R, fr) := by rw [stoS, if_neg (by omega)]
          rw [hs]
          exact RV.mk (by rfl) ⟨⟨hR, hT, hL⟩, Same.rf.to2⟩)
    · refine pw_aload_n (q := 27) (j := 0) C dX4_takeStone_26 rfl rfl rfl ?_
      refine pw_getf (q := 30) C dX4_takeStone_27 fX4_15 hR (by rfl) rfl ?_
      refine pw_getf (q := 33) C dX4_takeStone_30 fX4_91 hG.1 (by rfl) rfl ?_
      refine pw_rd (q := 36) (cr_v (j := iX8_hasRoom) C dX4_takeStone_33 lX4_72 mX8_hasRoom (ro_mk (by decide) (by decide)) hG.2.2.2.1 rfl (k_hasRoom hG.2.2.2) rfl rfl (Nat.le_of_ble_eq_true rfl) ⟨by omega, by omega⟩) rfl ?_
      refine pw_if_ne_b (q := 39) 41 C dX4_takeStone_36 (by decide) rfl (fun g36 => ?_) (fun g36 => ?_)
      · refine pw_aload_n (q := 42) (j := 0) C dX4_takeStone_41 rfl rfl rfl ?_
        refine pw_dup (q := 43) C dX4_takeStone_42 rfl rfl ?_
        refine pw_getf (q := 46) C dX4_takeStone_43 fX4_19 hR (by rfl) rfl ?_
        refine pw_iconst_n (q := 47) C 1 dX4_takeStone_46 (by decide +kernel) rfl ?_
        refine pw_iadd_n (q := 48) C dX4_takeStone_47 rfl ?_
        refine pw_put (q := 51) C dX4_takeStone_48 fX4_19 hR (by rfl) (by rfl) (Nat.le_of_ble_eq_true rfl) rfl ?_
        refine pw_heap (fun M19 => ReadAt M19 r t a (p + 1) ∧ Same M M19 r (r + 1)) ⟨ReadAt.put, Same.put (by omega) (by omega)⟩ (fun M19 ⟨hR, sm9⟩ => ?_)
        have hT := hT.far sm9 (by omega) (by omega)
        have hL := hL.far sm9 (by omega)
        obtain ⟨fc, fm, fs, hG, hr⟩ := id hL
        have sm := sm9
        by_cases hA : Dg T n (p + 1) 0 (R 6 - 1)
        · refine pw_aload_n (q := 52) (j := 0) C dX4_takeStone_51 rfl rfl rfl ?_
          refine pw_iconst_n (q := 53) C 0 dX4_takeStone_52 (by decide +kernel) rfl ?_
          refine pw_aload_n (q := 54) (j := 0) C dX4_takeStone_53 rfl rfl rfl ?_
          refine pw_getf (q := 57) C dX4_takeStone_54 fX4_15 hR (by rfl) rfl ?_
          refine pw_getf (q := 60) C dX4_takeStone_57 fX4_81 hG.1 (by rfl) rfl ?_
          refine pw_rd (q := 63) (cr_v (j := iX8_size) C dX4_takeStone_60 lX4_90 mX8_size (ro_mk (by decide) (by decide)) hG.2.2.1.1 rfl (k_size hG.2.2.1) rfl rfl (Nat.le_of_ble_eq_true rfl) ⟨by omega, by omega⟩) rfl ?_
          refine pw_iconst_n (q := 64) C 1 dX4_takeStone_63 (by decide +kernel) rfl ?_
          refine pw_isub_n (q := 65) C dX4_takeStone_64 (by omega) rfl ?_
          refine pw_val (q := 68) (cr_v (j := iX4_takeDigit) C dX4_takeStone_65 lX4_34 mX4_takeDigit (ro_mk (by decide) (by decide)) hR rfl (d_yes hR hT (by omega) (by omega) (by omega) hA) rfl rfl (Nat.le_of_ble_eq_true rfl) ⟨by omega, by omega⟩) rfl (fun M65 e65 => ?_)
          obtain ⟨hR, sm9⟩ := e65
          have hT := hT.far sm9 (by omega) (by omega)
          have hL := hL.far sm9 (by omega)
          obtain ⟨fc, fm, fs, hG, hr⟩ := id hL
          have sm := sm.tr sm9
          have hR : ReadAt M65 r t a (p + 2) := hR
          refine pw_istore_n (q := 69) (j := 1) C dX4_takeStone_68 rfl rfl (by decide) rfl ?_
          refine pw_iload_n (q := 70) (j := 1) C dX4_takeStone_69 rfl rfl rfl ?_
          refine pw_bipush (q := 72) (v := (-9)) C dX4_takeStone_70 (by decide +kernel) rfl ?_
          refine pw_icmp_ne (q := 75) 80 C dX4_takeStone_72 (by decide) rfl (fun g72 => ?_) (fun g72 => absurd g72 (optI_ne (by omega)))
          by_cases hB : Dg T n (p + 2) 0 (R 5 - 1)
          · refine pw_aload_n (q := 81) (j := 0) C dX4_takeStone_80 rfl rfl rfl ?_
            refine pw_iconst_n (q := 82) C 0 dX4_takeStone_81 (by decide +kernel) rfl ?_
            refine pw_aload_n (q := 83) (j := 0) C dX4_takeStone_82 rfl rfl rfl ?_
            refine pw_getf (q := 86) C dX4_takeStone_83 fX4_15 hR (by rfl) rfl ?_
            refine pw_getf (q := 89) C dX4_takeStone_86 fX4_68 hG.1 (by rfl) rfl ?_
            refine pw_rd (q := 92) (cr_v (j := iX8_size) C dX4_takeStone_89 lX4_90 mX8_size (ro_mk (by decide) (by decide)) hG.2.1.1 rfl (k_size hG.2.1) rfl rfl (Nat.le_of_ble_eq_true rfl) ⟨by omega, by omega⟩) rfl ?_
            refine pw_iconst_n (q := 93) C 1 dX4_takeStone_92 (by decide +kernel) rfl ?_
            refine pw_isub_n (q := 94) C dX4_takeStone_93 (by omega) rfl ?_
            refine pw_val (q := 97) (cr_v (j := iX4_takeDigit) C dX4_takeStone_94 lX4_34 mX4_takeDigit (ro_mk (by decide) (by decide)) hR rfl (d_yes hR hT (by omega) (by omega) (by omega) hB) rfl rfl (Nat.le_of_ble_eq_true rfl) ⟨by omega, by omega⟩) rfl (fun M94 e94 => ?_)
            obtain ⟨hR, sm9⟩ := e94
            have hT := hT.far sm9 (by omega) (by omega)
            have hL := hL.far sm9 (by omega)
            obtain ⟨fc, fm, fs, hG, hr⟩ := id hL
            have sm := sm.tr sm9
            have hR : ReadAt M94 r t a (p + 3) := hR
            refine pw_istore_n (q := 98) (j := 2) C dX4_takeStone_97 rfl rfl (by decide) rfl ?_
            refine pw_iload_n (q := 99) (j := 2) C dX4_takeStone_98 rfl rfl rfl ?_
            refine pw_bipush (q := 101) (v := (-9)) C dX4_takeStone_99 (by decide +kernel) rfl ?_
            refine pw_icmp_ne (q := 104) 109 C dX4_takeStone_101 (by decide) rfl (fun g101 => ?_) (fun g101 => absurd g101 (optI_ne (by omega)))
            by_cases hC : Dg T n (p + 3) 0 9
            · refine pw_aload_n (q := 110) (j := 0) C dX4_takeStone_109 rfl rfl rfl ?_
              refine pw_iconst_n (q := 111) C 0 dX4_takeStone_110 (by decide +kernel) rfl ?_
              refine pw_bipush_n (q := 113) C 9 dX4_takeStone_111 (by decide +kernel) rfl ?_
              refine pw_val (q := 116) (cr_v (j := iX4_takeDigit) C dX4_takeStone_113 lX4_34 mX4_takeDigit (ro_mk (by decide) (by decide)) hR rfl (d_yes hR hT (by omega) (by omega) (by omega) hC) rfl rfl (Nat.le_of_ble_eq_true rfl) ⟨by omega, by omega⟩) rfl (fun M113 e113 => ?_)
              obtain ⟨hR, sm9⟩ := e113
              have hT := hT.far sm9 (by omega) (by omega)
              have hL := hL.far sm9 (by omega)
              obtain ⟨fc, fm, fs, hG, hr⟩ := id hL
              have sm := sm.tr sm9
              have hR : ReadAt M113 r t a (p + 4) := hR
              refine pw_istore_n (q := 117) (j := 3) C dX4_takeStone_116 rfl rfl (by decide) rfl ?_
              refine pw_iload_n (q := 118) (j := 3) C dX4_takeStone_117 rfl rfl rfl ?_
              refine pw_bipush (q := 120) (v := (-9)) C dX4_takeStone_118 (by decide +kernel) rfl ?_
              refine pw_icmp_ne (q := 123) 125 C dX4_takeStone_120 (by decide) rfl (fun g120 => ?_) (fun g120 => absurd g120 (optI_ne (by omega)))
              refine pw_aload_n (q := 126) (j := 0) C dX4_takeStone_125 rfl rfl rfl ?_
              refine pw_getf (q := 129) C dX4_takeStone_126 fX4_15 hR (by rfl) rfl ?_
              refine pw_iload_n (q := 130) (j := 1) C dX4_takeStone_129 rfl rfl rfl ?_
              refine pw_iload_n (q := 131) (j := 2) C dX4_takeStone_130 rfl rfl rfl ?_
              refine pw_iload_n (q := 132) (j := 3) C dX4_takeStone_131 rfl rfl rfl ?_
              refine pw_val (q := 135) (cr_v (j := iX2_newStone) C dX4_takeStone_132 lX4_94 mX2_newStone (ro_mk (by decide) (by decide)) hG.1 rfl (w_newStone hL g36) rfl rfl (Nat.le_of_ble_eq_true rfl) ⟨by omega, by omega⟩) rfl (fun M132 e132 => ?_)
              obtain ⟨hL, sm8⟩ := e132
              rw [cl_stone (show R 7 < 24 from g36)] at hL
              have hT := hT.far sm8 x4 x5
              have hR := (sm8.2 r (by omega)).trans hR
              refine pw_pop (q := 136) C dX4_takeStone_135 rfl rfl ?_
              refine pw_iconst_n (q := 137) C 1 dX4_takeStone_136 (by decide +kernel) rfl ?_
              exact pw_zret C dX4_takeStone_137 rfl (by first | decide +kernel | exact nar_bN _ | exact nar_01 (by omega)) ⟨by omega, by omega⟩ (by
                  have hs : stoS T n p R fr = (1, p + 4, newStoneP R (T (p + 1) - 48) (T (p + 2) - 48) (T (p + 3) - 48), fr) := by rw [stoS, if_pos (show 0 < R 6 ∧ 0 < R 5 ∧ R 7 < 24 from ⟨by omega, by omega, g36⟩), if_pos hA, if_pos hB, if_pos hC]
                  rw [hs]
                  exact RV.mk (by rfl) ⟨⟨hR, hT, hL⟩, sm.to2.then2 sm8⟩)
            · refine pw_aload_n (q := 110) (j := 0) C dX4_takeStone_109 rfl rfl rfl ?_
              refine pw_iconst_n (q := 111) C 0 dX4_takeStone_110 (by decide +kernel) rfl ?_
              refine pw_bipush_n (q := 113) C 9 dX4_takeStone_111 (by decide +kernel) rfl ?_
              refine pw_rd (q := 116) (cr_v (j := iX4_takeDigit) C dX4_takeStone_113 lX4_34 mX4_takeDigit (ro_mk (by decide) (by decide)) hR rfl (d_no hR hT (by omega) (by omega) (by omega) hC) rfl rfl (Nat.le_of_ble_eq_true rfl) ⟨by omega, by omega⟩) rfl ?_
              refine pw_istore_n (q := 117) (j := 3) C dX4_takeStone_116 rfl rfl (by decide) rfl ?_
              refine pw_iload_n (q := 118) (j := 3) C dX4_takeStone_117 rfl rfl rfl ?_
              refine pw_bipush (q := 120) (v := (-9)) C dX4_takeStone_118 (by decide +kernel) rfl ?_
              refine pw_icmp_ne (q := 123) 125 C dX4_takeStone_120 (by decide) rfl (fun g120 => absurd g120 (fun q => q rfl)) (fun g120 => ?_)
              refine pw_iconst_n (q := 124) C 0 dX4_takeStone_123 (by decide +kernel) rfl ?_
              exact pw_zret C dX4_takeStone_124 rfl (by first | decide +kernel | exact nar_bN _ | exact nar_01 (by omega)) ⟨by omega, by omega⟩ (by
                  have hs : stoS T n p R fr = (0, p + 3, R, fr) := by rw [stoS, if_pos (show 0 < R 6 ∧ 0 < R 5 ∧ R 7 < 24 from ⟨by omega, by omega, g36⟩), if_pos hA, if_pos hB, if_neg hC]
                  rw [hs]
                  exact RV.mk (by rfl) ⟨⟨hR, hT, hL⟩, sm.to2⟩)
          · refine pw_aload_n (q := 81) (j := 0) C dX4_takeStone_80 rfl rfl rfl ?_
            refine pw_iconst_n (q := 82) C 0 dX4_takeStone_81 (by decide +kernel) rfl ?_
            refine pw_aload_n (q := 83) (j := 0) C dX4_takeStone_82 rfl rfl rfl ?_
            refine pw_getf (q := 86) C dX4_takeStone_83 fX4_15 hR (by rfl) rfl ?_
            refine pw_getf (q := 89) C dX4_takeStone_86 fX4_68 hG.1 (by rfl) rfl ?_
            refine pw_rd (q := 92) (cr_v (j := iX8_size) C dX4_takeStone_89 lX4_90 mX8_size (ro_mk (by decide) (by decide)) hG.2.1.1 rfl (k_size hG.2.1) rfl rfl (Nat.le_of_ble_eq_true rfl) ⟨by omega, by omega⟩) rfl ?_
            refine pw_iconst_n (q := 93) C 1 dX4_takeStone_92 (by decide +kernel) rfl ?_
            refine pw_isub_n (q := 94) C dX4_takeStone_93 (by omega) rfl ?_
            refine pw_rd (q := 97) (cr_v (j := iX4_takeDigit) C dX4_takeStone_94 lX4_34 mX4_takeDigit (ro_mk (by decide) (by decide)) hR rfl (d_no hR hT (by omega) (by omega) (by omega) hB) rfl rfl (Nat.le_of_ble_eq_true rfl) ⟨by omega, by omega⟩) rfl ?_
            refine pw_istore_n (q := 98) (j := 2) C dX4_takeStone_97 rfl rfl (by decide) rfl ?_
            refine pw_iload_n (q := 99) (j := 2) C dX4_takeStone_98 rfl rfl rfl ?_
            refine pw_bipush (q := 101) (v := (-9)) C dX4_takeStone_99 (by decide +kernel) rfl ?_
            refine pw_icmp_ne (q := 104) 109 C dX4_takeStone_101 (by decide) rfl (fun g101 => absurd g101 (fun q => q rfl)) (fun g101 => ?_)
            refine pw_bipush (q := 106) (v := (-9)) C dX4_takeStone_104 (by decide +kernel) rfl ?_
            refine pw_goto (q := 0) 116 C dX4_takeStone_106 (by decide) ?_
            refine pw_istore_n (q := 117) (j := 3) C dX4_takeStone_116 rfl rfl (by decide) rfl ?_
            refine pw_iload_n (q := 118) (j := 3) C dX4_takeStone_117 rfl rfl rfl ?_
            refine pw_bipush (q := 120) (v := (-9)) C dX4_takeStone_118 (by decide +kernel) rfl ?_
            refine pw_icmp_ne (q := 123) 125 C dX4_takeStone_120 (by decide) rfl (fun g120 => absurd g120 (fun q => q rfl)) (fun g120 => ?_)
            refine pw_iconst_n (q := 124) C 0 dX4_takeStone_123 (by decide +kernel) rfl ?_
            exact pw_zret C dX4_takeStone_124 rfl (by first | decide +kernel | exact nar_bN _ | exact nar_01 (by omega)) ⟨by omega, by omega⟩ (by
                have hs : stoS T n p R fr = (0, p + 2, R, fr) := by rw [stoS, if_pos (show 0 < R 6 ∧ 0 < R 5 ∧ R 7 < 24 from ⟨by omega, by omega, g36⟩), if_pos hA, if_neg hB]
                rw [hs]
                exact RV.mk (by rfl) ⟨⟨hR, hT, hL⟩, sm.to2⟩)
        · refine pw_aload_n (q := 52) (j := 0) C dX4_takeStone_51 rfl rfl rfl ?_
          refine pw_iconst_n (q := 53) C 0 dX4_takeStone_52 (by decide +kernel) rfl ?_
          refine pw_aload_n (q := 54) (j := 0) C dX4_takeStone_53 rfl rfl rfl ?_
          refine pw_getf (q := 57) C dX4_takeStone_54 fX4_15 hR (by rfl) rfl ?_
          refine pw_getf (q := 60) C dX4_takeStone_57 fX4_81 hG.1 (by rfl) rfl ?_
          refine pw_rd (q := 63) (cr_v (j := iX8_size) C dX4_takeStone_60 lX4_90 mX8_size (ro_mk (by decide) (by decide)) hG.2.2.1.1 rfl (k_size hG.2.2.1) rfl rfl (Nat.le_of_ble_eq_true rfl) ⟨by omega, by omega⟩) rfl ?_
          refine pw_iconst_n (q := 64) C 1 dX4_takeStone_63 (by decide +kernel) rfl ?_
          refine pw_isub_n (q := 65) C dX4_takeStone_64 (by omega) rfl ?_
          refine pw_rd (q := 68) (cr_v (j := iX4_takeDigit) C dX4_takeStone_65 lX4_34 mX4_takeDigit (ro_mk (by decide) (by decide)) hR rfl (d_no hR hT (by omega) (by omega) (by omega) hA) rfl rfl (Nat.le_of_ble_eq_true rfl) ⟨by omega, by omega⟩) rfl ?_
          refine pw_istore_n (q := 69) (j := 1) C dX4_takeStone_68 rfl rfl (by decide) rfl ?_
          refine pw_iload_n (q := 70) (j := 1) C dX4_takeStone_69 rfl rfl rfl ?_
          refine pw_bipush (q := 72) (v := (-9)) C dX4_takeStone_70 (by decide +kernel) rfl ?_
          refine pw_icmp_ne (q := 75) 80 C dX4_takeStone_72 (by decide) rfl (fun g72 => absurd g72 (fun q => q rfl)) (fun g72 => ?_)
          refine pw_bipush (q := 77) (v := (-9)) C dX4_takeStone_75 (by decide +kernel) rfl ?_
          refine pw_goto (q := 0) 97 C dX4_takeStone_77 (by decide) ?_
          refine pw_istore_n (q := 98) (j := 2) C dX4_takeStone_97 rfl rfl (by decide) rfl ?_
          refine pw_iload_n (q := 99) (j := 2) C dX4_takeStone_98 rfl rfl rfl ?_
          refine pw_bipush (q := 101) (v := (-9)) C dX4_takeStone_99 (by decide +kernel) rfl ?_
          refine pw_icmp_ne (q := 104) 109 C dX4_takeStone_101 (by decide) rfl (fun g101 => absurd g101 (fun q => q rfl)) (fun g101 => ?_)
          refine pw_bipush (q := 106) (v := (-9)) C dX4_takeStone_104 (by decide +kernel) rfl ?_
          refine pw_goto (q := 0) 116 C dX4_takeStone_106 (by decide) ?_
          refine pw_istore_n (q := 117) (j := 3) C dX4_takeStone_116 rfl rfl (by decide) rfl ?_
          refine pw_iload_n (q := 118) (j := 3) C dX4_takeStone_117 rfl rfl rfl ?_
          refine pw_bipush (q := 120) (v := (-9)) C dX4_takeStone_118 (by decide +kernel) rfl ?_
          refine pw_icmp_ne (q := 123) 125 C dX4_takeStone_120 (by decide) rfl (fun g120 => absurd g120 (fun q => q rfl)) (fun g120 => ?_)
          refine pw_iconst_n (q := 124) C 0 dX4_takeStone_123 (by decide +kernel) rfl ?_
          exact pw_zret C dX4_takeStone_124 rfl (by first | decide +kernel | exact nar_bN _ | exact nar_01 (by omega)) ⟨by omega, by omega⟩ (by
              have hs : stoS T n p R fr = (0, p + 1, R, fr) := by rw [stoS, if_pos (show 0 < R 6 ∧ 0 < R 5 ∧ R 7 < 24 from ⟨by omega, by omega, g36⟩), if_neg hA]
              rw [hs]
              exact RV.mk (by rfl) ⟨⟨hR, hT, hL⟩, sm.to2⟩)
      · refine pw_iconst_n (q := 40) C 0 dX4_takeStone_39 (by decide +kernel) rfl ?_
        exact pw_zret C dX4_takeStone_40 rfl (by first | decide +kernel | exact nar_bN _ | exact nar_01 (by omega)) ⟨by omega, by omega⟩ (by
            have hs : stoS T n p R fr = (0, p, R, fr) := by rw [stoS, if_neg (fun q => g36 q.2.2)]
            rw [hs]
            exact RV.mk (by rfl) ⟨⟨hR, hT, hL⟩, Same.rf.to2⟩)
set_option maxHeartbeats 200000 in
set_option maxRecDepth 100000 in
theorem sg_no1 {M : PH} {r t tc a n p : Nat} {T : Nat → Nat} (hR : ReadAt M r t a p) (hT : TextAt M t tc n T) (hp : p ≤ 90) (x2 : r ≠ t) (x3 : r ≠ tc) (hA : ¬ Dg T n p 0 1) : Run iX4_takeStrength [.ref r] M 0 0 (RV (.int (-9)) (fun M1 => M1 = M)) := by
  refine Run.of (l0 := [some (.ref r), none, none]) (by decide +kernel) (Nat.le_of_ble_eq_true rfl) (by rfl) (fun Γ G C => ?_)
  refine pw_aload_n (q := 1) (j := 0) C dX4_takeStrength_0 rfl rfl rfl ?_
  refine pw_iconst_n (q := 2) C 0 dX4_takeStrength_1 (by decide +kernel) rfl ?_
  refine pw_iconst_n (q := 3) C 1 dX4_takeStrength_2 (by decide +kernel) rfl ?_
  refine pw_rd (q := 6) (cr_v (j := iX4_takeDigit) C dX4_takeStrength_3 lX4_34 mX4_takeDigit (ro_mk (by decide) (by decide)) hR rfl (d_no hR hT (by omega) (by omega) (by omega) hA) rfl rfl (Nat.le_of_ble_eq_true rfl) ⟨by omega, by omega⟩) rfl ?_
  refine pw_istore_n (q := 7) (j := 1) C dX4_takeStrength_6 rfl rfl (by decide) rfl ?_
  refine pw_iload_n (q := 8) (j := 1) C dX4_takeStrength_7 rfl rfl rfl ?_
  refine pw_bipush (q := 10) (v := (-9)) C dX4_takeStrength_8 (by decide +kernel) rfl ?_
  refine pw_icmp_ne (q := 13) 16 C dX4_takeStrength_10 (by decide) rfl (fun g10 => absurd g10 (fun q => q rfl)) (fun g10 => ?_)
  refine pw_bipush (q := 15) (v := (-9)) C dX4_takeStrength_13 (by decide +kernel) rfl ?_
  exact pw_iret C dX4_takeStrength_15 rfl ⟨by omega, by omega⟩ (RV.mk (by rfl) rfl)
set_option maxHeartbeats 200000 in
set_option maxRecDepth 100000 in
theorem sg_no2 {M : PH} {r t tc a n p : Nat} {T : Nat → Nat} (hR : ReadAt M r t a p) (hT : TextAt M t tc n T) (hp : p ≤ 90) (x2 : r ≠ t) (x3 : r ≠ tc) (hA : Dg T n p 0 1) (hB : ¬ Dg T n (p + 1) (lo2 (T p)) (hi2 (T p))) : Run iX4_takeStrength [.ref r] M 0 0 (RV (.int (-9)) (fun M1 => ReadAt M1 r t a (p + 1) ∧ Same M M1 r (r + 1))) := by
  refine Run.of (l0 := [some (.ref r), none, none]) (by decide +kernel) (Nat.le_of_ble_eq_true rfl) (by rfl) (fun Γ G C => ?_)
  refine pw_aload_n (q := 1) (j := 0) C dX4_takeStrength_0 rfl rfl rfl ?_
  refine pw_iconst_n (q := 2) C 0 dX4_takeStrength_1 (by decide +kernel) rfl ?_
  refine pw_iconst_n (q := 3) C 1 dX4_takeStrength_2 (by decide +kernel) rfl ?_
  refine pw_val (q := 6) (cr_v (j := iX4_takeDigit) C dX4_takeStrength_3 lX4_34 mX4_takeDigit (ro_mk (by decide) (by decide)) hR rfl (d_yes hR hT (by omega) (by omega) (by omega) hA) rfl rfl (Nat.le_of_ble_eq_true rfl) ⟨by omega, by omega⟩) rfl (fun M3 e3 => ?_)
  obtain ⟨hR, sm9⟩ := e3
  have hT := hT.far sm9 (by omega) (by omega)
  have sm := sm9
  refine pw_istore_n (q := 7) (j := 1) C dX4_takeStrength_6 rfl rfl (by decide) rfl ?_
  refine pw_iload_n (q := 8) (j := 1) C dX4_takeStrength_7 rfl rfl rfl ?_
  refine pw_bipush (q := 10) (v := (-9)) C dX4_takeStrength_8 (by decide +kernel) rfl ?_
  refine pw_icmp_ne (q := 13) 16 C dX4_takeStrength_10 (by decide) rfl (fun g10 => ?_) (fun g10 => absurd g10 (optI_ne (by omega)))
  refine pw_iload_n (q := 17) (j := 1) C dX4_takeStrength_16 rfl rfl rfl ?_
  refine pw_if_ne_n (q := 20) 30 C dX4_takeStrength_17 (by decide) rfl (by omega) (fun g17 => ?_) (fun g17 => ?_)
  · rw [show lo2 (T p) = 0 from if_neg (by omega), show hi2 (T p) = 2 from if_neg (by omega)] at hB
    refine pw_aload_n (q := 31) (j := 0) C dX4_takeStrength_30 rfl rfl rfl ?_
    refine pw_iconst_n (q := 32) C 0 dX4_takeStrength_31 (by decide +kernel) rfl ?_
    refine pw_iconst_n (q := 33) C 2 dX4_takeStrength_32 (by decide +kernel) rfl ?_
    refine pw_rd (q := 36) (cr_v (j := iX4_takeDigit) C dX4_takeStrength_33 lX4_34 mX4_takeDigit (ro_mk (by decide) (by decide)) hR rfl (d_no hR hT (by omega) (by omega) (by omega) hB) rfl rfl (Nat.le_of_ble_eq_true rfl) ⟨by omega, by omega⟩) rfl ?_
    refine pw_istore_n (q := 37) (j := 2) C dX4_takeStrength_36 rfl rfl (by decide) rfl ?_
    refine pw_iload_n (q := 38) (j := 2) C dX4_takeStrength_37 rfl rfl rfl ?_
    refine pw_bipush (q := 40) (v := (-9)) C dX4_takeStrength_38 (by decide +kernel) rfl ?_
    refine pw_icmp_ne (q := 43) 48 C dX4_takeStrength_40 (by decide) rfl (fun g40 => absurd g40 (fun q => q rfl)) (fun g40 => ?_)
    refine pw_bipush (q := 45) (v := (-9)) C dX4_takeStrength_43 (by decide +kernel) rfl ?_
    refine pw_goto (q := 0) 54 C dX4_takeStrength_45 (by decide) ?_
    exact pw_iret C dX4_takeStrength_54 rfl ⟨by omega, by omega⟩ (RV.mk (by rfl) ⟨hR, sm⟩)
  · rw [show lo2 (T p) = 1 from if_pos (by omega), show hi2 (T p) = 9 from if_pos (by omega)] at hB
    refine pw_aload_n (q := 21) (j := 0) C dX4_takeStrength_20 rfl rfl rfl ?_
    refine pw_iconst_n (q := 22) C 1 dX4_takeStrength_21 (by decide +kernel) rfl ?_
    refine pw_bipush_n (q := 24) C 9 dX4_takeStrength_22 (by decide +kernel) rfl ?_
    refine pw_rd (q := 27) (cr_v (j := iX4_takeDigit) C dX4_takeStrength_24 lX4_34 mX4_takeDigit (ro_mk (by decide) (by decide)) hR rfl (d_no hR hT (by omega) (by omega) (by omega) hB) rfl rfl (Nat.le_of_ble_eq_true rfl) ⟨by omega, by omega⟩) rfl ?_
    refine pw_goto (q := 0) 36 C dX4_takeStrength_27 (by decide) ?_
    refine pw_istore_n (q := 37) (j := 2) C dX4_takeStrength_36 rfl rfl (by decide) rfl ?_
    refine pw_iload_n (q := 38) (j := 2) C dX4_takeStrength_37 rfl rfl rfl ?_
    refine pw_bipush (q := 40) (v := (-9)) C dX4_takeStrength_38 (by decide +kernel) rfl ?_
    refine pw_icmp_ne (q := 43) 48 C dX4_takeStrength_40 (by decide) rfl (fun g40 => absurd g40 (fun q => q rfl)) (fun g40 => ?_)
    refine pw_bipush (q := 45) (v := (-9)) C dX4_takeStrength_43 (by decide +kernel) rfl ?_
    refine pw_goto (q := 0) 54 C dX4_takeStrength_45 (by decide) ?_
    exact pw_iret C dX4_takeStrength_54 rfl ⟨by omega, by omega⟩ (RV.mk (by rfl) ⟨hR, sm⟩)
set_option maxHeartbeats 200000 in
set_option maxRecDepth 100000 in
theorem sg_yes {M : PH} {r t tc a n p : Nat} {T : Nat → Nat} (hR : ReadAt M r t a p) (hT : TextAt M t tc n T) (hp : p ≤ 90) (x2 : r ≠ t) (x3 : r ≠ tc) (hA : Dg T n p 0 1) (hB : Dg T n (p + 1) (lo2 (T p)) (hi2 (T p))) : Run iX4_takeStrength [.ref r] M 0 0 (RV (.int (nI (10 * (T p - 48) + (T (p + 1) - 48)))) (fun M1 => ReadAt M1 r t a (p + 2) ∧ Same M M1 r (r + 1))) := by
  refine Run.of (l0 := [some (.ref r), none, none]) (by decide +kernel) (Nat.le_of_ble_eq_true rfl) (by rfl) (fun Γ G C => ?_)
  refine pw_aload_n (q := 1) (j := 0) C dX4_takeStrength_0 rfl rfl rfl ?_
  refine pw_iconst_n (q := 2) C 0 dX4_takeStrength_1 (by decide +kernel) rfl ?_
  refine pw_iconst_n (q := 3) C 1 dX4_takeStrength_2 (by decide +kernel) rfl ?_
  refine pw_val (q := 6) (cr_v (j := iX4_takeDigit) C dX4_takeStrength_3 lX4_34 mX4_takeDigit (ro_mk (by decide) (by decide)) hR rfl (d_yes hR hT (by omega) (by omega) (by omega) hA) rfl rfl (Nat.le_of_ble_eq_true rfl) ⟨by omega, by omega⟩) rfl (fun M3 e3 => ?_)
  obtain ⟨hR, sm9⟩ := e3
  have hT := hT.far sm9 (by omega) (by omega)
  have sm := sm9
  refine pw_istore_n (q := 7) (j := 1) C dX4_takeStrength_6 rfl rfl (by decide) rfl ?_
  refine pw_iload_n (q := 8) (j := 1) C dX4_takeStrength_7 rfl rfl rfl ?_
  refine pw_bipush (q := 10) (v := (-9)) C dX4_takeStrength_8 (by decide +kernel) rfl ?_
  refine pw_icmp_ne (q := 13) 16 C dX4_takeStrength_10 (by decide) rfl (fun g10 => ?_) (fun g10 => absurd g10 (optI_ne (by omega)))
  refine pw_iload_n (q := 17) (j := 1) C dX4_takeStrength_16 rfl rfl rfl ?_
  refine pw_if_ne_n (q := 20) 30 C dX4_takeStrength_17 (by decide) rfl (by omega) (fun g17 => ?_) (fun g17 => ?_)
  · rw [show lo2 (T p) = 0 from if_neg (by omega), show hi2 (T p) = 2 from if_neg (by omega)] at hB
    refine pw_aload_n (q := 31) (j := 0) C dX4_takeStrength_30 rfl rfl rfl ?_
    refine pw_iconst_n (q := 32) C 0 dX4_takeStrength_31 (by decide +kernel) rfl ?_
    refine pw_iconst_n (q := 33) C 2 dX4_takeStrength_32 (by decide +kernel) rfl ?_
    refine pw_val (q := 36) (cr_v (j := iX4_takeDigit) C dX4_takeStrength_33 lX4_34 mX4_takeDigit (ro_mk (by decide) (by decide)) hR rfl (d_yes hR hT (by omega) (by omega) (by omega) hB) rfl rfl (Nat.le_of_ble_eq_true rfl) ⟨by omega, by omega⟩) rfl (fun M33 e33 => ?_)
    obtain ⟨hR, sm9⟩ := e33
    have hT := hT.far sm9 (by omega) (by omega)
    have sm := sm.tr sm9
    refine pw_istore_n (q := 37) (j := 2) C dX4_takeStrength_36 rfl rfl (by decide) rfl ?_
    refine pw_iload_n (q := 38) (j := 2) C dX4_takeStrength_37 rfl rfl rfl ?_
    refine pw_bipush (q := 40) (v := (-9)) C dX4_takeStrength_38 (by decide +kernel) rfl ?_
    refine pw_icmp_ne (q := 43) 48 C dX4_takeStrength_40 (by decide) rfl (fun g40 => ?_) (fun g40 => absurd g40 (optI_ne (by omega)))
    refine pw_bipush_n (q := 50) C 10 dX4_takeStrength_48 (by decide +kernel) rfl ?_
    refine pw_iload_n (q := 51) (j := 1) C dX4_takeStrength_50 rfl rfl rfl ?_
    refine pw_imul_n (q := 52) C dX4_takeStrength_51 rfl ?_
    refine pw_iload_n (q := 53) (j := 2) C dX4_takeStrength_52 rfl rfl rfl ?_
    refine pw_iadd_n (q := 54) C dX4_takeStrength_53 rfl ?_
    exact pw_iret C dX4_takeStrength_54 rfl ⟨by omega, by omega⟩ (RV.mk (by rfl) ⟨hR, sm⟩)
  · rw [show lo2 (T p) = 1 from if_pos (by omega), show hi2 (T p) = 9 from if_pos (by omega)] at hB
    refine pw_aload_n (q := 21) (j := 0) C dX4_takeStrength_20 rfl rfl rfl ?_
    refine pw_iconst_n (q := 22) C 1 dX4_takeStrength_21 (by decide +kernel) rfl ?_
    refine pw_bipush_n (q := 24) C 9 dX4_takeStrength_22 (by decide +kernel) rfl ?_
    refine pw_val (q := 27) (cr_v (j := iX4_takeDigit) C dX4_takeStrength_24 lX4_34 mX4_takeDigit (ro_mk (by decide) (by decide)) hR rfl (d_yes hR hT (by omega) (by omega) (by omega) hB) rfl rfl (Nat.le_of_ble_eq_true rfl) ⟨by omega, by omega⟩) rfl (fun M24 e24 => ?_)
    obtain ⟨hR, sm9⟩ := e24
    have hT := hT.far sm9 (by omega) (by omega)
    have sm := sm.tr sm9
    refine pw_goto (q := 0) 36 C dX4_takeStrength_27 (by decide) ?_
    refine pw_istore_n (q := 37) (j := 2) C dX4_takeStrength_36 rfl rfl (by decide) rfl ?_
    refine pw_iload_n (q := 38) (j := 2) C dX4_takeStrength_37 rfl rfl rfl ?_
    refine pw_bipush (q := 40) (v := (-9)) C dX4_takeStrength_38 (by decide +kernel) rfl ?_
    refine pw_icmp_ne (q := 43) 48 C dX4_takeStrength_40 (by decide) rfl (fun g40 => ?_) (fun g40 => absurd g40 (optI_ne (by omega)))
    refine pw_bipush_n (q := 50) C 10 dX4_takeStrength_48 (by decide +kernel) rfl ?_
    refine pw_iload_n (q := 51) (j := 1) C dX4_takeStrength_50 rfl rfl rfl ?_
    refine pw_imul_n (q := 52) C dX4_takeStrength_51 rfl ?_
    refine pw_iload_n (q := 53) (j := 2) C dX4_takeStrength_52 rfl rfl rfl ?_
    refine pw_iadd_n (q := 54) C dX4_takeStrength_53 rfl ?_
    exact pw_iret C dX4_takeStrength_54 rfl ⟨by omega, by omega⟩ (RV.mk (by rfl) ⟨hR, sm⟩)
set_option maxHeartbeats 200000 in
set_option maxRecDepth 100000 in
theorem d_mason {M : PH} {r t tc a n p fr : Nat} {T R : Nat → Nat} (hS : RdAt M r t tc a n T p R fr) (hx : Apart r t tc a) (hp : p ≤ 80) : Run iX4_takeMason [.ref r] M 0 0 (RV (.int (nI (masS T n p R fr).1)) (fun M1 => RdAt M1 r t tc a n T (masS T n p R fr).2.1 (masS T n p R fr).2.2.1 (masS T n p R fr).2.2.2 ∧ Same2 M M1 r (r + 1) a (a + 7))) := by
  obtain ⟨hR, hT, hL⟩ := hS
  obtain ⟨x1, x2, x3, x4, x5⟩ := hx
  obtain ⟨fc, fm, fs, hG, hr⟩ := id hL
  have b5 : R 5 ≤ 6 := hG.2.1.2.2.1
  have b6 : R 6 ≤ 6 := hG.2.2.1.2.2.1
  have b7 : R 7 ≤ 24 := hG.2.2.2.2.2.1
  have c5 : clP R fr 5 = R 5 := rfl
  have c6 : clP R fr 6 = R 6 := rfl
  have c7 : clP R fr 7 = R 7 := rfl
  refine Run.of (l0 := [some (.ref r), none, none]) (by decide +kernel) (Nat.le_of_ble_eq_true rfl) (by rfl) (fun Γ G C => ?_)
  refine pw_aload_n (q := 1) (j := 0) C dX4_takeMason_0 rfl rfl rfl ?_
  refine pw_getf (q := 4) C dX4_takeMason_1 fX4_15 hR (by rfl) rfl ?_
  refine pw_getf (q := 7) C dX4_takeMason_4 fX4_81 hG.1 (by rfl) rfl ?_
  refine pw_rd (q := 10) (cr_v (j := iX8_hasRoom) C dX4_takeMason_7 lX4_72 mX8_hasRoom (ro_mk (by decide) (by decide)) hG.2.2.1.1 rfl (k_hasRoom hG.2.2.1) rfl rfl (Nat.le_of_ble_eq_true rfl) ⟨by omega, by omega⟩) rfl ?_
  refine pw_if_ne_b (q := 13) 15 C dX4_takeMason_10 (by decide) rfl (fun g10 => ?_) (fun g10 => ?_)
  · refine pw_aload_n (q := 16) (j := 0) C dX4_takeMason_15 rfl rfl rfl ?_
    refine pw_dup (q := 17) C dX4_takeMason_16 rfl rfl ?_
    refine pw_getf (q := 20) C dX4_takeMason_17 fX4_19 hR (by rfl) rfl ?_
    refine pw_iconst_n (q := 21) C 1 dX4_takeMason_20 (by decide +kernel) rfl ?_
    refine pw_iadd_n (q := 22) C dX4_takeMason_21 rfl ?_
    refine pw_put (q := 25) C dX4_takeMason_22 fX4_19 hR (by rfl) (by rfl) (Nat.le_of_ble_eq_true rfl) rfl ?_
    refine pw_heap (fun M19 => ReadAt M19 r t a (p + 1) ∧ Same M M19 r (r + 1)) ⟨ReadAt.put, Same.put (by omega) (by omega)⟩ (fun M19 ⟨hR, sm9⟩ => ?_)
    have hT := hT.far sm9 (by omega) (by omega)
    have hL := hL.far sm9 (by omega)
    obtain ⟨fc, fm, fs, hG, hr⟩ := id hL
    have sm := sm9
    by_cases hA : Dg T n (p + 1) 1 9
    · refine pw_aload_n (q := 26) (j := 0) C dX4_takeMason_25 rfl rfl rfl ?_
      refine pw_iconst_n (q := 27) C 1 dX4_takeMason_26 (by decide +kernel) rfl ?_
      refine pw_bipush_n (q := 29) C 9 dX4_takeMason_27 (by decide +kernel) rfl ?_
      refine pw_val (q := 32) (cr_v (j := iX4_takeDigit) C dX4_takeMason_29 lX4_34 mX4_takeDigit (ro_mk (by decide) (by decide)) hR rfl (d_yes hR hT (by omega) (by omega) (by omega) hA) rfl rfl (Nat.le_of_ble_eq_true rfl) ⟨by omega, by omega⟩) rfl (fun M29 e29 => ?_)
      obtain ⟨hR, sm9⟩ := e29
      have hT := hT.far sm9 (by omega) (by omega)
      have hL := hL.far sm9 (by omega)
      obtain ⟨fc, fm, fs, hG, hr⟩ := id hL
      have sm := sm.tr sm9
      have hR : ReadAt M29 r t a (p + 2) := hR
      refine pw_istore_n (q := 33) (j := 1) C dX4_takeMason_32 rfl rfl (by decide) rfl ?_
      refine pw_iload_n (q := 34) (j := 1) C dX4_takeMason_33 rfl rfl rfl ?_
      refine pw_bipush (q := 36) (v := (-9)) C dX4_takeMason_34 (by decide +kernel) rfl ?_
      refine pw_icmp_ne (q := 39) 44 C dX4_takeMason_36 (by decide) rfl (fun g36 => ?_) (fun g36 => absurd g36 (optI_ne (by omega)))
      by_cases hB : Dg T n (p + 2) 0 1
      · by_cases hC : Dg T n (p + 3) (lo2 (T (p + 2))) (hi2 (T (p + 2)))
        · refine pw_aload_n (q := 45) (j := 0) C dX4_takeMason_44 rfl rfl rfl ?_
          refine pw_val (q := 48) (cr_v (j := iX4_takeStrength) C dX4_takeMason_45 lX4_84 mX4_takeStrength (ro_mk (by decide) (by decide)) hR rfl (sg_yes hR hT (by omega) x2 x3 hB hC) rfl rfl (Nat.le_of_ble_eq_true rfl) ⟨by omega, by omega⟩) rfl (fun M45 e45 => ?_)
          obtain ⟨hR, sm9⟩ := e45
          have hT := hT.far sm9 (by omega) (by omega)
          have hL := hL.far sm9 (by omega)
          obtain ⟨fc, fm, fs, hG, hr⟩ := id hL
          have sm := sm.tr sm9
          have hR : ReadAt M45 r t a (p + 4) := hR
          refine pw_istore_n (q := 49) (j := 2) C dX4_takeMason_48 rfl rfl (by decide) rfl ?_
          refine pw_iload_n (q := 50) (j := 2) C dX4_takeMason_49 rfl rfl rfl ?_
          refine pw_bipush (q := 52) (v := (-9)) C dX4_takeMason_50 (by decide +kernel) rfl ?_
          refine pw_icmp_ne (q := 55) 57 C dX4_takeMason_52 (by decide) rfl (fun g52 => ?_) (fun g52 => absurd g52 (optI_ne (st_b hB hC)))
          refine pw_aload_n (q := 58) (j := 0) C dX4_takeMason_57 rfl rfl rfl ?_
          refine pw_getf (q := 61) C dX4_takeMason_58 fX4_15 hR (by rfl) rfl ?_
          refine pw_iload_n (q := 62) (j := 1) C dX4_takeMason_61 rfl rfl rfl ?_
          refine pw_iload_n (q := 63) (j := 2) C dX4_takeMason_62 rfl rfl rfl ?_
          refine pw_val (q := 66) (cr_v (j := iX2_newMason) C dX4_takeMason_63 lX4_87 mX2_newMason (ro_mk (by decide) (by decide)) hG.1 rfl (w_newMason hL g10) rfl rfl (Nat.le_of_ble_eq_true rfl) ⟨by omega, by omega⟩) rfl (fun M63 e63 => ?_)
          obtain ⟨hL, sm8⟩ := e63
          rw [cl_mason (show R 6 < 6 from g10)] at hL
          have hT := hT.far sm8 x4 x5
          have hR := (sm8.2 r (by omega)).trans hR
          refine pw_pop (q := 67) C dX4_takeMason_66 rfl rfl ?_
          refine pw_iconst_n (q := 68) C 1 dX4_takeMason_67 (by decide +kernel) rfl ?_
          exact pw_zret C dX4_takeMason_68 rfl (by first | decide +kernel | exact nar_bN _ | exact nar_01 (by omega)) ⟨by omega, by omega⟩ (by
              have hs : masS T n p R fr = (1, p + 4, newMasonR R (T (p + 1) - 48) (10 * (T (p + 2) - 48) + (T (p + 3) - 48)), fr) := by rw [masS, if_pos (show R 6 < 6 from g10), if_pos hA, if_pos hB, if_pos hC]
              rw [hs]
              exact RV.mk (by rfl) ⟨⟨hR, hT, hL⟩, sm.to2.then2 sm8⟩)
        · refine pw_aload_n (q := 45) (j := 0) C dX4_takeMason_44 rfl rfl rfl ?_
          refine pw_val (q := 48) (cr_v (j := iX4_takeStrength) C dX4_takeMason_45 lX4_84 mX4_takeStrength (ro_mk (by decide) (by decide)) hR rfl (sg_no2 hR hT (by omega) x2 x3 hB hC) rfl rfl (Nat.le_of_ble_eq_true rfl) ⟨by omega, by omega⟩) rfl (fun M45 e45 => ?_)
          obtain ⟨hR, sm9⟩ := e45
          have hT := hT.far sm9 (by omega) (by omega)
          have hL := hL.far sm9 (by omega)
          obtain ⟨fc, fm, fs, hG, hr⟩ := id hL
          have sm := sm.tr sm9
          have hR : ReadAt M45 r t a (p + 3) := hR
          refine pw_istore_n (q := 49) (j := 2) C dX4_takeMason_48 rfl rfl (by decide) rfl ?_
          refine pw_iload_n (q := 50) (j := 2) C dX4_takeMason_49 rfl rfl rfl ?_
          refine pw_bipush (q := 52) (v := (-9)) C dX4_takeMason_50 (by decide +kernel) rfl ?_
          refine pw_icmp_ne (q := 55) 57 C dX4_takeMason_52 (by decide) rfl (fun g52 => absurd g52 (fun q => q rfl)) (fun g52 => ?_)
          refine pw_iconst_n (q := 56) C 0 dX4_takeMason_55 (by decide +kernel) rfl ?_
          exact pw_zret C dX4_takeMason_56 rfl (by first | decide +kernel | exact nar_bN _ | exact nar_01 (by omega)) ⟨by omega, by omega⟩ (by
              have hs : masS T n p R fr = (0, p + 3, R, fr) := by rw [masS, if_pos (show R 6 < 6 from g10), if_pos hA, if_pos hB, if_neg hC]
              rw [hs]
              exact RV.mk (by rfl) ⟨⟨hR, hT, hL⟩, sm.to2⟩)
      · refine pw_aload_n (q := 45) (j := 0) C dX4_takeMason_44 rfl rfl rfl ?_
        refine pw_rd (q := 48) (cr_v (j := iX4_takeStrength) C dX4_takeMason_45 lX4_84 mX4_takeStrength (ro_mk (by decide) (by decide)) hR rfl (sg_no1 hR hT (by omega) x2 x3 hB) rfl rfl (Nat.le_of_ble_eq_true rfl) ⟨by omega, by omega⟩) rfl ?_
        refine pw_istore_n (q := 49) (j := 2) C dX4_takeMason_48 rfl rfl (by decide) rfl ?_
        refine pw_iload_n (q := 50) (j := 2) C dX4_takeMason_49 rfl rfl rfl ?_
        refine pw_bipush (q := 52) (v := (-9)) C dX4_takeMason_50 (by decide +kernel) rfl ?_
        refine pw_icmp_ne (q := 55) 57 C dX4_takeMason_52 (by decide) rfl (fun g52 => absurd g52 (fun q => q rfl)) (fun g52 => ?_)
        refine pw_iconst_n (q := 56) C 0 dX4_takeMason_55 (by decide +kernel) rfl ?_
        exact pw_zret C dX4_takeMason_56 rfl (by first | decide +kernel | exact nar_bN _ | exact nar_01 (by omega)) ⟨by omega, by omega⟩ (by
            have hs : masS T n p R fr = (0, p + 2, R, fr) := by rw [masS, if_pos (show R 6 < 6 from g10), if_pos hA, if_neg hB]
            rw [hs]
            exact RV.mk (by rfl) ⟨⟨hR, hT, hL⟩, sm.to2⟩)
    · refine pw_aload_n (q := 26) (j := 0) C dX4_takeMason_25 rfl rfl rfl ?_
      refine pw_iconst_n (q := 27) C 1 dX4_takeMason_26 (by decide +kernel) rfl ?_
      refine pw_bipush_n (q := 29) C 9 dX4_takeMason_27 (by decide +kernel) rfl ?_
      refine pw_rd (q := 32) (cr_v (j := iX4_takeDigit) C dX4_takeMason_29 lX4_34 mX4_takeDigit (ro_mk (by decide) (by decide)) hR rfl (d_no hR hT (by omega) (by omega) (by omega) hA) rfl rfl (Nat.le_of_ble_eq_true rfl) ⟨by omega, by omega⟩) rfl ?_
      refine pw_istore_n (q := 33) (j := 1) C dX4_takeMason_32 rfl rfl (by decide) rfl ?_
      refine pw_iload_n (q := 34) (j := 1) C dX4_takeMason_33 rfl rfl rfl ?_
      refine pw_bipush (q := 36) (v := (-9)) C dX4_takeMason_34 (by decide +kernel) rfl ?_
      refine pw_icmp_ne (q := 39) 44 C dX4_takeMason_36 (by decide) rfl (fun g36 => absurd g36 (fun q => q rfl)) (fun g36 => ?_)
      refine pw_bipush (q := 41) (v := (-9)) C dX4_takeMason_39 (by decide +kernel) rfl ?_
      refine pw_goto (q := 0) 48 C dX4_takeMason_41 (by decide) ?_
      refine pw_istore_n (q := 49) (j := 2) C dX4_takeMason_48 rfl rfl (by decide) rfl ?_
      refine pw_iload_n (q := 50) (j := 2) C dX4_takeMason_49 rfl rfl rfl ?_
      refine pw_bipush (q := 52) (v := (-9)) C dX4_takeMason_50 (by decide +kernel) rfl ?_
      refine pw_icmp_ne (q := 55) 57 C dX4_takeMason_52 (by decide) rfl (fun g52 => absurd g52 (fun q => q rfl)) (fun g52 => ?_)
      refine pw_iconst_n (q := 56) C 0 dX4_takeMason_55 (by decide +kernel) rfl ?_
      exact pw_zret C dX4_takeMason_56 rfl (by first | decide +kernel | exact nar_bN _ | exact nar_01 (by omega)) ⟨by omega, by omega⟩ (by
          have hs : masS T n p R fr = (0, p + 1, R, fr) := by rw [masS, if_pos (show R 6 < 6 from g10), if_neg hA]
          rw [hs]
          exact RV.mk (by rfl) ⟨⟨hR, hT, hL⟩, sm.to2⟩)
  · refine pw_iconst_n (q := 14) C 0 dX4_takeMason_13 (by decide +kernel) rfl ?_
    exact pw_zret C dX4_takeMason_14 rfl (by first | decide +kernel | exact nar_bN _ | exact nar_01 (by omega)) ⟨by omega, by omega⟩ (by
        have hs : masS T n p R fr = (0, p, R, fr) := by rw [masS, if_neg (show ¬ R 6 < 6 from g10)]
        rw [hs]
        exact RV.mk (by rfl) ⟨⟨hR, hT, hL⟩, Same.rf.to2⟩)
set_option maxHeartbeats 200000 in
set_option maxRecDepth 100000 in
theorem d_frost {M : PH} {r t tc a n p fr : Nat} {T R : Nat → Nat} (hS : RdAt M r t tc a n T p R fr) (hx : Apart r t tc a) (hp : p ≤ 80) (hfr : fr ≤ 1) : Run iX4_takeFrost [.ref r] M 0 0 (RV (.int (nI (froS p R fr).1)) (fun M1 => RdAt M1 r t tc a n T (froS p R fr).2.1 (froS p R fr).2.2.1 (froS p R fr).2.2.2 ∧ Same2 M M1 r (r + 1) a (a + 7))) := by
  obtain ⟨hR, hT, hL⟩ := hS
  obtain ⟨x1, x2, x3, x4, x5⟩ := hx
  obtain ⟨fc, fm, fs, hG, hr⟩ := id hL
  have b5 : R 5 ≤ 6 := hG.2.1.2.2.1
  have b6 : R 6 ≤ 6 := hG.2.2.1.2.2.1
  have b7 : R 7 ≤ 24 := hG.2.2.2.2.2.1
  have c5 : clP R fr 5 = R 5 := rfl
  have c6 : clP R fr 6 = R 6 := rfl
  have c7 : clP R fr 7 = R 7 := rfl
  have c2 : clP R fr 2 = fr := rfl
  refine Run.of (l0 := [some (.ref r)]) (by decide +kernel) (Nat.le_of_ble_eq_true rfl) (by rfl) (fun Γ G C => ?_)
  refine pw_aload_n (q := 1) (j := 0) C dX4_takeFrost_0 rfl rfl rfl ?_
  refine pw_getf (q := 4) C dX4_takeFrost_1 fX4_15 hR (by rfl) rfl ?_
  refine pw_getf (q := 7) C dX4_takeFrost_4 fX4_97 hG.1 (by rfl) rfl ?_
  refine pw_if_eq_n (q := 10) 12 C dX4_takeFrost_7 (by decide) rfl (by omega) (fun g7 => ?_) (fun g7 => ?_)
  · refine pw_aload_n (q := 13) (j := 0) C dX4_takeFrost_12 rfl rfl rfl ?_
    refine pw_dup (q := 14) C dX4_takeFrost_13 rfl rfl ?_
    refine pw_getf (q := 17) C dX4_takeFrost_14 fX4_19 hR (by rfl) rfl ?_
    refine pw_iconst_n (q := 18) C 1 dX4_takeFrost_17 (by decide +kernel) rfl ?_
    refine pw_iadd_n (q := 19) C dX4_takeFrost_18 rfl ?_
    refine pw_put (q := 22) C dX4_takeFrost_19 fX4_19 hR (by rfl) (by rfl) (Nat.le_of_ble_eq_true rfl) rfl ?_
    refine pw_heap (fun M19 => ReadAt M19 r t a (p + 1) ∧ Same M M19 r (r + 1)) ⟨ReadAt.put, Same.put (by omega) (by omega)⟩ (fun M19 ⟨hR, sm9⟩ => ?_)
    have hT := hT.far sm9 (by omega) (by omega)
    have hL := hL.far sm9 (by omega)
    obtain ⟨fc, fm, fs, hG, hr⟩ := id hL
    have sm := sm9
    refine pw_aload_n (q := 23) (j := 0) C dX4_takeFrost_22 rfl rfl rfl ?_
    refine pw_getf (q := 26) C dX4_takeFrost_23 fX4_15 hR (by rfl) rfl ?_
    refine pw_iconst_n (q := 27) C 1 dX4_takeFrost_26 (by decide +kernel) rfl ?_
    refine pw_put (q := 30) C dX4_takeFrost_27 fX4_97 hG.1 (nar_01 (by omega)) (fit_01 (by omega)) (Nat.le_of_ble_eq_true rfl) rfl ?_
    refine pw_heap (fun M9 => LodgeAt M9 a (updN (clP R fr) 2 1) ∧ Same M19 M9 a (a + 7)) ⟨hL.sc 2 1 (by omega), Same.put (by omega) (by omega)⟩ (fun M9 ⟨hL, sm8⟩ => ?_)
    rw [cl_frost] at hL
    have hT := hT.far sm8 x4 x5
    have hR : ReadAt M9 r t a (p + 1) := (sm8.2 r (by omega)).trans hR
    refine pw_iconst_n (q := 31) C 1 dX4_takeFrost_30 (by decide +kernel) rfl ?_
    exact pw_zret C dX4_takeFrost_31 rfl (by first | decide +kernel | exact nar_bN _ | exact nar_01 (by omega)) ⟨by omega, by omega⟩ (by
        have hs : froS p R fr = (1, p + 1, R, 1) := by rw [froS, if_pos (by omega)]
        rw [hs]
        exact RV.mk (by rfl) ⟨⟨hR, hT, hL⟩, sm.to2.then2 sm8⟩)
  · refine pw_iconst_n (q := 11) C 0 dX4_takeFrost_10 (by decide +kernel) rfl ?_
    exact pw_zret C dX4_takeFrost_11 rfl (by first | decide +kernel | exact nar_bN _ | exact nar_01 (by omega)) ⟨by omega, by omega⟩ (by
        have hs : froS p R fr = (0, p, R, fr) := by rw [froS, if_neg (by omega)]
        rw [hs]
        exact RV.mk (by rfl) ⟨⟨hR, hT, hL⟩, Same.rf.to2⟩)
set_option maxHeartbeats 200000 in
set_option maxRecDepth 100000 in
theorem d_part {M : PH} {r t tc a n p fr : Nat} {T R : Nat → Nat} (hS : RdAt M r t tc a n T p R fr) (hx : Apart r t tc a) (hp : p ≤ 80) (hpn : p < n) (hfr : fr ≤ 1) : Run iX4_takePart [.ref r] M 0 0 (RV (.int (nI (parS T n p R fr).1)) (fun M1 => RdAt M1 r t tc a n T (parS T n p R fr).2.1 (parS T n p R fr).2.2.1 (parS T n p R fr).2.2.2 ∧ Same2 M M1 r (r + 1) a (a + 7))) := by
  obtain ⟨hR, hT, hL⟩ := id hS
  have ht9 := hT.2.2.2.1 p hpn
  refine Run.of (l0 := [some (.ref r)]) (by decide +kernel) (Nat.le_of_ble_eq_true rfl) (by rfl) (fun Γ G C => ?_)
  refine pw_aload_n (q := 1) (j := 0) C dX4_takePart_0 rfl rfl rfl ?_
  refine pw_getf (q := 4) C dX4_takePart_1 fX4_9 hR (by rfl) rfl ?_
  refine pw_aload_n (q := 5) (j := 0) C dX4_takePart_4 rfl rfl rfl ?_
  refine pw_getf (q := 8) C dX4_takePart_5 fX4_19 hR (by rfl) rfl ?_
  refine pw_rd (q := 11) (cr_v (j := iX9_at) C dX4_takePart_8 lX4_28 mX9_at (ro_mk (by decide) (by decide)) hT.1 rfl (x_at hT (by omega)) rfl rfl (Nat.le_of_ble_eq_true rfl) ⟨by omega, by omega⟩) rfl ?_
  rw [if_pos hpn]
  rcases (show T p = 99 ∨ T p = 102 ∨ T p = 109 ∨ T p = 115 ∨ (T p ≠ 99 ∧ T p ≠ 102 ∧ T p ≠ 109 ∧ T p ≠ 115) by omega) with h8 | h8 | h8 | h8 | ⟨h1, h2, h3, h4⟩
  · rw [h8]
    refine pw_lookup (q := 0) (off := 41) 52 C dX4_takePart_11 (by decide +kernel) (by decide +kernel) (by decide) ?_
    refine pw_aload_n (q := 53) (j := 0) C dX4_takePart_52 rfl rfl rfl ?_
    refine pw_val (q := 56) (cr_v (j := iX4_takeCourse) C dX4_takePart_53 lX4_52 mX4_takeCourse (ro_mk (by decide) (by decide)) hR rfl (d_course hS hx hp) rfl rfl (Nat.le_of_ble_eq_true rfl) ⟨by omega, by omega⟩) rfl (fun M53 e53 => ?_)
    exact pw_zret C dX4_takePart_56 rfl (nar_01 (crsS_1 ..)) ⟨by omega, by omega⟩ (by
        have hs : parS T n p R fr = crsS T n p R fr := by rw [parS, if_pos (by omega)]
        rw [hs]
        exact RV.mk (by rfl) e53)
  · rw [h8]
    refine pw_lookup (q := 0) (off := 56) 67 C dX4_takePart_11 (by decide +kernel) (by decide +kernel) (by decide) ?_
    refine pw_aload_n (q := 68) (j := 0) C dX4_takePart_67 rfl rfl rfl ?_
    refine pw_val (q := 71) (cr_v (j := iX4_takeFrost) C dX4_takePart_68 lX4_61 mX4_takeFrost (ro_mk (by decide) (by decide)) hR rfl (d_frost hS hx hp hfr) rfl rfl (Nat.le_of_ble_eq_true rfl) ⟨by omega, by omega⟩) rfl (fun M68 e68 => ?_)
    exact pw_zret C dX4_takePart_71 rfl (nar_01 (froS_1 ..)) ⟨by omega, by omega⟩ (by
        have hs : parS T n p R fr = froS p R fr := by rw [parS, if_neg (by omega), if_neg (by omega), if_neg (by omega), if_pos (by omega)]
        rw [hs]
        exact RV.mk (by rfl) e68)
  · rw [h8]
    refine pw_lookup (q := 0) (off := 46) 57 C dX4_takePart_11 (by decide +kernel) (by decide +kernel) (by decide) ?_
    refine pw_aload_n (q := 58) (j := 0) C dX4_takePart_57 rfl rfl rfl ?_
    refine pw_val (q := 61) (cr_v (j := iX4_takeMason) C dX4_takePart_58 lX4_55 mX4_takeMason (ro_mk (by decide) (by decide)) hR rfl (d_mason hS hx hp) rfl rfl (Nat.le_of_ble_eq_true rfl) ⟨by omega, by omega⟩) rfl (fun M58 e58 => ?_)
    exact pw_zret C dX4_takePart_61 rfl (nar_01 (masS_1 ..)) ⟨by omega, by omega⟩ (by
        have hs : parS T n p R fr = masS T n p R fr := by rw [parS, if_neg (by omega), if_pos (by omega)]
        rw [hs]
        exact RV.mk (by rfl) e58)
  · rw [h8]
    refine pw_lookup (q := 0) (off := 51) 62 C dX4_takePart_11 (by decide +kernel) (by decide +kernel) (by decide) ?_
    refine pw_aload_n (q := 63) (j := 0) C dX4_takePart_62 rfl rfl rfl ?_
    refine pw_val (q := 66) (cr_v (j := iX4_takeStone) C dX4_takePart_63 lX4_58 mX4_takeStone (ro_mk (by decide) (by decide)) hR rfl (d_stone hS hx hp) rfl rfl (Nat.le_of_ble_eq_true rfl) ⟨by omega, by omega⟩) rfl (fun M63 e63 => ?_)
    exact pw_zret C dX4_takePart_66 rfl (nar_01 (stoS_1 ..)) ⟨by omega, by omega⟩ (by
        have hs : parS T n p R fr = stoS T n p R fr := by rw [parS, if_neg (by omega), if_neg (by omega), if_pos (by omega)]
        rw [hs]
        exact RV.mk (by rfl) e63)
  · 
    refine pw_lookup (q := 0) (off := 61) 72 C dX4_takePart_11 (by decide +kernel) (lk_def (by omega) h1 h2 h3 h4) (by decide) ?_
    refine pw_iconst_n (q := 73) C 0 dX4_takePart_72 (by decide +kernel) rfl ?_
    exact pw_zret C dX4_takePart_73 rfl (by first | decide +kernel | exact nar_bN _ | exact nar_01 (by omega)) ⟨by omega, by omega⟩ (by
        have hs : parS T n p R fr = (0, p, R, fr) := by rw [parS, if_neg h1, if_neg h3, if_neg h4, if_neg h2]
        rw [hs]
        exact RV.mk (by rfl) ⟨hS, Same.rf.to2⟩)
def errS (T : Nat → Nat) (n : Nat) : Int32 := if (allS T n).1 = 1 then -9 else nI (allS T n).2.1
theorem parS_p {T : Nat → Nat} {n p : Nat} {R : Nat → Nat} {fr : Nat} : (parS T n p R fr).2.1 ≤ p + 4 := by
  unfold parS crsS masS stoS froS
  repeat' split
  all_goals (dsimp only; omega)
theorem parS_fail {T : Nat → Nat} {n p : Nat} {R : Nat → Nat} {fr : Nat} (h : ¬ (parS T n p R fr).1 = 1) : (parS T n p R fr).2.2 = (R, fr) := by
  revert h
  unfold parS crsS masS stoS froS
  repeat' split
  all_goals (intro h; first | rfl | exact absurd rfl h)
theorem Inv.clfrost {R : Nat → Nat} {fr f9 : Nat} (hI : Inv (clP R fr)) (h : f9 ≤ 1) : Inv (clP R f9) := hI.like hI.1 (show f9 ≤ 1 from h) hI.2.2.2.2.2.1 rfl rfl rfl (fun k h1 h2 => by unfold clP; rw [if_neg (by omega), if_neg (by omega), if_neg (by omega)]) (fun k h1 h2 => by unfold clP; rw [if_neg (by omega), if_neg (by omega), if_neg (by omega)]) (fun m hm => by
  have := hI.m hm
  refine ⟨?_, ?_, ?_⟩ <;> (simp only [clP] at *; grind))
theorem parS_inv {T : Nat → Nat} {n p : Nat} {R : Nat → Nat} {fr : Nat} (hI : Inv (clP R fr)) (hfr : fr ≤ 1) : Inv (clP (parS T n p R fr).2.2.1 (parS T n p R fr).2.2.2) ∧ (parS T n p R fr).2.2.2 ≤ 1 := by
  unfold parS
  split
  · unfold crsS
    repeat' split
    all_goals first | exact ⟨hI, hfr⟩ | skip
    rename_i h5 hA hB hC
    dsimp only
    rw [← cl_course h5]
    exact ⟨hI.newCourse (by omega) (by omega) (by omega) h5, hfr⟩
  · split
    · unfold masS
      repeat' split
      all_goals first | exact ⟨hI, hfr⟩ | skip
      rename_i h6 hA hB hC
      dsimp only
      rw [← cl_mason h6]
      refine ⟨hI.newMason (by omega) ?_ h6, hfr⟩
      obtain ⟨_, h1, h2⟩ := hB
      obtain ⟨_, h3, h4⟩ := hC
      by_cases h0 : T (p + 2) = 48
      · rw [h0] at h3 h4 ⊢
        have : lo2 48 = 1 := rfl
        have : hi2 48 = 9 := rfl
        omega
      · rw [lo2, if_neg h0] at h3
        rw [hi2, if_neg h0] at h4
        omega
    · split
      · unfold stoS
        repeat' split
        all_goals first | exact ⟨hI, hfr⟩ | skip
        rename_i h7 hA hB hC
        dsimp only
        rw [← cl_stone h7.2.2]
        exact ⟨hI.newStone (show _ < R 6 by omega) (show _ < R 5 by omega) (by omega) h7.2.2, hfr⟩
      · split
        · unfold froS
          split
          · exact ⟨hI.clfrost (Nat.le_refl 1), Nat.le_refl 1⟩
          · exact ⟨hI, hfr⟩
        · exact ⟨hI, hfr⟩
set_option maxHeartbeats 200000 in
set_option maxRecDepth 100000 in
theorem d_read {M : PH} {r t tc a n p0 : Nat} {T P : Nat → Nat} (hR : ReadAt M r t a p0) (hT : TextAt M t tc n T) (hL : LodgeAt M a P) (hx : Apart r t tc a) : Run iX4_read [.ref r] M 0 0 (RV (.int (errS T n)) (fun M1 => (∃ Q, LodgeAt M1 a Q) ∧ ((allS T n).1 = 1 → LodgeAt M1 a (workAt (clP (allS T n).2.2.1 (allS T n).2.2.2) ((allS T n).2.2.1 6)) ∧ Inv (clP (allS T n).2.2.1 (allS T n).2.2.2) ∧ (allS T n).2.2.2 ≤ 1) ∧ Same2 M M1 r (r + 1) a (a + 7))) := by
  obtain ⟨x1, x2, x3, x4, x5⟩ := id hx
  obtain ⟨fc, fm, fs, hG, hr⟩ := id hL
  refine Run.of (l0 := [some (.ref r), none, none]) (by decide +kernel) (Nat.le_of_ble_eq_true rfl) (by rfl) (fun Γ G C => ?_)
  refine pw_aload_n (q := 1) (j := 0) C dX4_read_0 rfl rfl rfl ?_
  refine pw_iconst_n (q := 2) C 0 dX4_read_1 (by decide +kernel) rfl ?_
  refine pw_put (q := 5) C dX4_read_2 fX4_19 hR (by rfl) (by rfl) (Nat.le_of_ble_eq_true rfl) rfl ?_
  refine pw_heap (fun M2 => ReadAt M2 r t a 0 ∧ Same M M2 r (r + 1)) ⟨ReadAt.put, Same.put (by omega) (by omega)⟩ (fun M2 ⟨hR, sm9⟩ => ?_)
  have hT := hT.far sm9 (by omega) (by omega)
  have hL := hL.far sm9 (by omega)
  obtain ⟨fc, fm, fs, hG, hr⟩ := id hL
  have sm : Same2 M M2 r (r + 1) a (a + 7) := sm9.to2
  refine pw_aload_n (q := 6) (j := 0) C dX4_read_5 rfl rfl rfl ?_
  refine pw_getf (q := 9) C dX4_read_6 fX4_15 hR (by rfl) rfl ?_
  refine pw_void (q := 12) (cr_v (j := iX2_makeNew) C dX4_read_9 lX4_23 mX2_makeNew (ro_mk (by decide) (by decide)) hG.1 rfl (w_makeNew hL) rfl rfl (Nat.le_of_ble_eq_true rfl) ⟨by omega, by omega⟩) rfl (fun M9 e9 => ?_)
  obtain ⟨hL, sm8⟩ := e9
  have hT := hT.far sm8 x4 x5
  have hR := (sm8.2 r (by omega)).trans hR
  obtain ⟨fc, fm, fs, hG, hr⟩ := id hL
  have sm := sm.then2 sm8
  refine pw_aload_n (q := 13) (j := 0) C dX4_read_12 rfl rfl rfl ?_
  refine pw_getf (q := 16) C dX4_read_13 fX4_9 hR (by rfl) rfl ?_
  refine pw_aload_n (q := 17) (j := 0) C dX4_read_16 rfl rfl rfl ?_
  refine pw_getf (q := 20) C dX4_read_17 fX4_19 hR (by rfl) rfl ?_
  refine pw_rd (q := 23) (cr_v (j := iX9_at) C dX4_read_20 lX4_28 mX9_at (ro_mk (by decide) (by decide)) hT.1 rfl (x_at hT (by omega)) rfl rfl (Nat.le_of_ble_eq_true rfl) ⟨by omega, by omega⟩) rfl ?_
  rcases (show (0 < n ∧ T 0 = 76) ∨ (0 < n ∧ T 0 ≠ 76) ∨ n = 0 by omega) with ⟨h1, h2⟩ | ⟨h1, h2⟩ | h1
  · rw [if_pos h1, h2]
    refine pw_bipush_n (q := 25) C 76 dX4_read_23 (by decide +kernel) rfl ?_
    refine pw_icmp_eq_n (q := 28) 33 C dX4_read_25 (by decide) rfl (by omega) (by omega) (fun g25 => ?_) (fun g25 => absurd g25 (fun q => q rfl))
    refine pw_aload_n (q := 34) (j := 0) C dX4_read_33 rfl rfl rfl ?_
    refine pw_dup (q := 35) C dX4_read_34 rfl rfl ?_
    refine pw_getf (q := 38) C dX4_read_35 fX4_19 hR (by rfl) rfl ?_
    refine pw_iconst_n (q := 39) C 1 dX4_read_38 (by decide +kernel) rfl ?_
    refine pw_iadd_n (q := 40) C dX4_read_39 rfl ?_
    refine pw_put (q := 43) C dX4_read_40 fX4_19 hR (by rfl) (by rfl) (Nat.le_of_ble_eq_true rfl) rfl ?_
    refine pw_heap (fun M40 => ReadAt M40 r t a 1 ∧ Same M9 M40 r (r + 1)) ⟨ReadAt.put, Same.put (by omega) (by omega)⟩ (fun M40 ⟨hR, sm9⟩ => ?_)
    have hT := hT.far sm9 (by omega) (by omega)
    have hL := hL.far sm9 (by omega)
    obtain ⟨fc, fm, fs, hG, hr⟩ := id hL
    have sm := sm.then1 sm9
    by_cases hD : Dg T n 1 0 9
    · refine pw_aload_n (q := 44) (j := 0) C dX4_read_43 rfl rfl rfl ?_
      refine pw_iconst_n (q := 45) C 0 dX4_read_44 (by decide +kernel) rfl ?_
      refine pw_bipush_n (q := 47) C 9 dX4_read_45 (by decide +kernel) rfl ?_
      refine pw_val (q := 50) (cr_v (j := iX4_takeDigit) C dX4_read_47 lX4_34 mX4_takeDigit (ro_mk (by decide) (by decide)) hR rfl (d_yes hR hT (by omega) (by omega) (by omega) hD) rfl rfl (Nat.le_of_ble_eq_true rfl) ⟨by omega, by omega⟩) rfl (fun M47 e47 => ?_)
      obtain ⟨hR, sm9⟩ := e47
      have hR : ReadAt M47 r t a 2 := hR
      have hT := hT.far sm9 (by omega) (by omega)
      have hL := hL.far sm9 (by omega)
      obtain ⟨fc, fm, fs, hG, hr⟩ := id hL
      have sm := sm.then1 sm9
      refine pw_istore_n (q := 51) (j := 1) C dX4_read_50 rfl rfl (by decide) rfl ?_
      refine pw_iload_n (q := 52) (j := 1) C dX4_read_51 rfl rfl rfl ?_
      refine pw_bipush (q := 54) (v := (-9)) C dX4_read_52 (by decide +kernel) rfl ?_
      refine pw_icmp_ne (q := 57) 62 C dX4_read_54 (by decide) rfl (fun g54 => ?_) (fun g54 => absurd g54 (optI_ne (by omega)))
      refine pw_aload_n (q := 63) (j := 0) C dX4_read_62 rfl rfl rfl ?_
      refine pw_getf (q := 66) C dX4_read_63 fX4_15 hR (by rfl) rfl ?_
      refine pw_iload_n (q := 67) (j := 1) C dX4_read_66 rfl rfl rfl ?_
      refine pw_put (q := 70) C dX4_read_67 fX4_38 hG.1 (by rfl) (by rfl) (Nat.le_of_ble_eq_true rfl) rfl ?_
      refine pw_heap (fun M67 => LodgeAt M67 a (updN newP 0 (T 1 - 48)) ∧ Same M47 M67 a (a + 7)) ⟨hL.sc 0 (T 1 - 48) (by omega), Same.put (by omega) (by omega)⟩ (fun M67 ⟨hL, sm8⟩ => ?_)
      rw [cl_new] at hL
      have hT := hT.far sm8 x4 x5
      have hR := (sm8.2 r (by omega)).trans hR
      obtain ⟨fc, fm, fs, hG, hr⟩ := id hL
      have sm := sm.then2 sm8
      refine pw_iconst_n (q := 71) C 0 dX4_read_70 (by decide +kernel) rfl ?_
      refine pw_istore_n (q := 72) (j := 2) C dX4_read_71 rfl rfl (by decide) rfl ?_
      have loop : ∀ (d i : Nat), i + d = 80 → ∀ (M2 : PH) (p fr : Nat) (R : Nat → Nat), RdAt M2 r t tc a n T p R fr → Same2 M M2 r (r + 1) a (a + 7) → p ≤ 100 → Inv (clP R fr) → fr ≤ 1 → readS T n d p R fr = allS T n → PW Γ G (ZJ Γ G 0 0 (RV (.int (errS T n)) (fun M1 => (∃ Q, LodgeAt M1 a Q) ∧ ((allS T n).1 = 1 → LodgeAt M1 a (workAt (clP (allS T n).2.2.1 (allS T n).2.2.2) ((allS T n).2.2.1 6)) ∧ Inv (clP (allS T n).2.2.1 (allS T n).2.2.2) ∧ (allS T n).2.2.2 ≤ 1) ∧ Same2 M M1 r (r + 1) a (a + 7)))) 72 [some (.ref r), some (.int (nI (T 1 - 48))), some (.int (nI i))] [] M2 0 0 := by
        intro d
        induction d with
        | zero =>
          intro i hd
          intro M2 p fr R hS sm hp hI hfr hall
          obtain ⟨hR, hT, hL⟩ := id hS
          obtain ⟨fc, fm, fs, hG, hr⟩ := id hL
          have hn9 := hT.2.2.1
          refine pw_iload_n (q := 73) (j := 2) C dX4_read_72 rfl rfl rfl ?_
          refine pw_bipush_n (q := 75) C 80 dX4_read_73 (by decide +kernel) rfl ?_
          refine pw_icmp_ge_n (q := 78) 110 C dX4_read_75 (by decide) rfl (by omega) (by omega) (fun g75 => ?_) (fun g75 => absurd g75 (by omega))
          refine pw_aload_n (q := 111) (j := 0) C dX4_read_110 rfl rfl rfl ?_
          refine pw_getf (q := 114) C dX4_read_111 fX4_15 hR (by rfl) rfl ?_
          refine pw_void (q := 117) (cr_v (j := iX2_handOutWork) C dX4_read_114 lX4_49 mX2_handOutWork (ro_mk (by decide) (by decide)) hG.1 rfl (w_handOut hL (show fr ≤ 1 from hfr) (fun m hm => (hI.m hm).2.2.2.1)) rfl rfl (Nat.le_of_ble_eq_true rfl) ⟨by omega, by omega⟩) rfl (fun M114 e114 => ?_)
          obtain ⟨hL, sm8⟩ := e114
          have sm := sm.then2 sm8
          have hs : allS T n = (1, p, R, fr) := by rw [← hall, readS]
          refine pw_bipush (q := 119) (v := (-9)) C dX4_read_117 (by decide +kernel) rfl ?_
          exact pw_iret C dX4_read_119 rfl ⟨by omega, by omega⟩ (RV.mk (by rw [errS, hs]; rfl) ⟨⟨_, hL⟩, fun _ => by rw [hs]; exact ⟨hL, hI, hfr⟩, sm⟩)
        | succ d ih =>
          intro i hd
          intro M2 p fr R hS sm hp hI hfr hall
          obtain ⟨hR, hT, hL⟩ := id hS
          obtain ⟨fc, fm, fs, hG, hr⟩ := id hL
          have hn9 := hT.2.2.1
          refine pw_iload_n (q := 73) (j := 2) C dX4_read_72 rfl rfl rfl ?_
          refine pw_bipush_n (q := 75) C 80 dX4_read_73 (by decide +kernel) rfl ?_
          refine pw_icmp_ge_n (q := 78) 110 C dX4_read_75 (by decide) rfl (by omega) (by omega) (fun g75 => absurd g75 (by omega)) (fun g75 => ?_)
          refine pw_aload_n (q := 79) (j := 0) C dX4_read_78 rfl rfl rfl ?_
          refine pw_getf (q := 82) C dX4_read_79 fX4_19 hR (by rfl) rfl ?_
          refine pw_aload_n (q := 83) (j := 0) C dX4_read_82 rfl rfl rfl ?_
          refine pw_getf (q := 86) C dX4_read_83 fX4_9 hR (by rfl) rfl ?_
          refine pw_rd (q := 89) (cr_v (j := iX9_size) C dX4_read_86 lX4_41 mX9_size (ro_mk (by decide) (by decide)) hT.1 rfl (x_size hT) rfl rfl (Nat.le_of_ble_eq_true rfl) ⟨by omega, by omega⟩) rfl ?_
          refine pw_icmp_ge_n (q := 92) 110 C dX4_read_89 (by decide) rfl (by omega) (by omega) (fun g89 => ?_) (fun g89 => ?_)
          · refine pw_aload_n (q := 111) (j := 0) C dX4_read_110 rfl rfl rfl ?_
            refine pw_getf (q := 114) C dX4_read_111 fX4_15 hR (by rfl) rfl ?_
            refine pw_void (q := 117) (cr_v (j := iX2_handOutWork) C dX4_read_114 lX4_49 mX2_handOutWork (ro_mk (by decide) (by decide)) hG.1 rfl (w_handOut hL (show fr ≤ 1 from hfr) (fun m hm => (hI.m hm).2.2.2.1)) rfl rfl (Nat.le_of_ble_eq_true rfl) ⟨by omega, by omega⟩) rfl (fun M114 e114 => ?_)
            obtain ⟨hL, sm8⟩ := e114
            have sm := sm.then2 sm8
            have hs : allS T n = (1, p, R, fr) := by rw [← hall, readS, if_neg (by omega)]
            refine pw_bipush (q := 119) (v := (-9)) C dX4_read_117 (by decide +kernel) rfl ?_
            exact pw_iret C dX4_read_119 rfl ⟨by omega, by omega⟩ (RV.mk (by rw [errS, hs]; rfl) ⟨⟨_, hL⟩, fun _ => by rw [hs]; exact ⟨hL, hI, hfr⟩, sm⟩)
          · refine pw_aload_n (q := 93) (j := 0) C dX4_read_92 rfl rfl rfl ?_
            refine pw_val (q := 96) (cr_v (j := iX4_takePart) C dX4_read_93 lX4_45 mX4_takePart (ro_mk (by decide) (by decide)) hR rfl (d_part hS hx (by omega) (by omega) hfr) rfl rfl (Nat.le_of_ble_eq_true rfl) ⟨by omega, by omega⟩) rfl (fun M93 e93 => ?_)
            obtain ⟨hS9, sm7⟩ := e93
            have hq1 := parS_1 T n p R fr
            refine pw_if_ne_n (q := 99) 104 C dX4_read_96 (by decide) rfl (by omega) (fun g96 => ?_) (fun g96 => ?_)
            · refine pw_iinc_n (q := 107) C 1 dX4_read_104 rfl (by decide +kernel) rfl (by decide) rfl ?_
              refine pw_goto (q := 0) 72 C dX4_read_107 (by decide) ?_
              have hq2 := @parS_p T n p R fr
              exact ih (i + 1) (by omega) _ _ _ _ hS9 (sm.tt sm7) (by omega) (parS_inv hI hfr).1 (parS_inv hI hfr).2 (by rw [← hall, readS, if_pos (by omega), if_pos (by omega)])
            · refine pw_aload_n (q := 100) (j := 0) C dX4_read_99 rfl rfl rfl ?_
              have hR := hS9.1
              have hq2 := @parS_p T n p R fr
              refine pw_getf (q := 103) C dX4_read_100 fX4_19 hR (by rfl) rfl ?_
              exact pw_iret C dX4_read_103 rfl ⟨by omega, by omega⟩ (by
                  have hs : allS T n = parS T n p R fr := by rw [← hall, readS, if_pos (by omega), if_neg (by omega)]
                  exact RV.mk (by rw [errS, hs, if_neg (by omega)]) ⟨⟨_, hS9.2.2⟩, fun q => absurd q (by rw [hs]; omega), sm.tt sm7⟩)
      exact loop 80 0 (by omega) _ 2 0 (page0 (T 1 - 48)) ⟨hR, hT, hL⟩ sm (by omega) (by rw [← cl_new]; exact Inv.new.bound (by omega)) (by omega) (by rw [allS, if_pos ⟨h1, h2⟩, if_pos hD])
    · refine pw_aload_n (q := 44) (j := 0) C dX4_read_43 rfl rfl rfl ?_
      refine pw_iconst_n (q := 45) C 0 dX4_read_44 (by decide +kernel) rfl ?_
      refine pw_bipush_n (q := 47) C 9 dX4_read_45 (by decide +kernel) rfl ?_
      refine pw_rd (q := 50) (cr_v (j := iX4_takeDigit) C dX4_read_47 lX4_34 mX4_takeDigit (ro_mk (by decide) (by decide)) hR rfl (d_no hR hT (by omega) (by omega) (by omega) hD) rfl rfl (Nat.le_of_ble_eq_true rfl) ⟨by omega, by omega⟩) rfl ?_
      refine pw_istore_n (q := 51) (j := 1) C dX4_read_50 rfl rfl (by decide) rfl ?_
      refine pw_iload_n (q := 52) (j := 1) C dX4_read_51 rfl rfl rfl ?_
      refine pw_bipush (q := 54) (v := (-9)) C dX4_read_52 (by decide +kernel) rfl ?_
      refine pw_icmp_ne (q := 57) 62 C dX4_read_54 (by decide) rfl (fun g54 => absurd g54 (fun q => q rfl)) (fun g54 => ?_)
      refine pw_aload_n (q := 58) (j := 0) C dX4_read_57 rfl rfl rfl ?_
      refine pw_getf (q := 61) C dX4_read_58 fX4_19 hR (by rfl) rfl ?_
      exact pw_iret C dX4_read_61 rfl ⟨by omega, by omega⟩ (by
          have hs : allS T n = (0, 1, page0 0, 0) := by rw [allS, if_pos ⟨h1, h2⟩, if_neg hD]
          exact RV.mk (by rw [errS, hs]; rfl) ⟨⟨_, hL⟩, fun q => absurd q (by rw [hs]; exact Nat.zero_ne_one), sm⟩)
  · rw [if_pos h1]
    have ht9 := hT.2.2.2.1 0 h1
    refine pw_bipush_n (q := 25) C 76 dX4_read_23 (by decide +kernel) rfl ?_
    refine pw_icmp_eq_n (q := 28) 33 C dX4_read_25 (by decide) rfl (by omega) (by omega) (fun g25 => absurd g25 (by omega)) (fun g25 => ?_)
    refine pw_aload_n (q := 29) (j := 0) C dX4_read_28 rfl rfl rfl ?_
    refine pw_getf (q := 32) C dX4_read_29 fX4_19 hR (by rfl) rfl ?_
    exact pw_iret C dX4_read_32 rfl ⟨by omega, by omega⟩ (by
        have hs : allS T n = (0, 0, page0 0, 0) := by rw [allS, if_neg (fun q => h2 q.2)]
        exact RV.mk (by rw [errS, hs]; rfl) ⟨⟨_, hL⟩, fun q => absurd q (by rw [hs]; exact Nat.zero_ne_one), sm⟩)
  · rw [if_neg (by omega)]
    refine pw_bipush_n (q := 25) C 76 dX4_read_23 (by decide +kernel) rfl ?_
    refine pw_icmp_eq_n (q := 28) 33 C dX4_read_25 (by decide) rfl (by omega) (by omega) (fun g25 => absurd g25 (by omega)) (fun g25 => ?_)
    refine pw_aload_n (q := 29) (j := 0) C dX4_read_28 rfl rfl rfl ?_
    refine pw_getf (q := 32) C dX4_read_29 fX4_19 hR (by rfl) rfl ?_
    exact pw_iret C dX4_read_32 rfl ⟨by omega, by omega⟩ (by
        have hs : allS T n = (0, 0, page0 0, 0) := by rw [allS, if_neg (by omega)]
        exact RV.mk (by rw [errS, hs]; rfl) ⟨⟨_, hL⟩, fun q => absurd q (by rw [hs]; exact Nat.zero_ne_one), sm⟩)
set_option maxHeartbeats 200000 in
set_option maxRecDepth 100000 in
theorem d_init {M : PH} {r t a : Nat} (h0 : M.2 r = some (.inr (3, [.null, .null, .int 0]))) : Run iX4_init [.ref r, .ref t, .ref a] M 0 0 (RN (fun M1 => ReadAt M1 r t a 0 ∧ Same M M1 r (r + 1))) := by
  refine Run.of (l0 := [some (.ref r), some (.ref t), some (.ref a)]) (by decide +kernel) (Nat.le_of_ble_eq_true rfl) (by rfl) (fun Γ G C => ?_)
  refine pw_aload_n (q := 1) (j := 0) C dX4_init_0 rfl rfl rfl ?_
  refine pw_objInit (rest := []) (q := 4) C dX4_init_1 lX4_3 mObj.1 mObj.2 ⟨by decide, Nat.le_of_ble_eq_true rfl⟩ rfl ?_
  refine pw_aload_n (q := 5) (j := 0) C dX4_init_4 rfl rfl rfl ?_
  refine pw_aload_n (q := 6) (j := 1) C dX4_init_5 rfl rfl rfl ?_
  refine pw_putF (q := 9) C dX4_init_6 rfl fX4_9 rfl h0 (by rfl) (by rfl) (Nat.le_of_ble_eq_true rfl) rfl ?_
  have h0 := hput_at M r (.inr (3, [.ref t, .null, .int 0]))
  refine pw_aload_n (q := 10) (j := 0) C dX4_init_9 rfl rfl rfl ?_
  refine pw_aload_n (q := 11) (j := 2) C dX4_init_10 rfl rfl rfl ?_
  refine pw_putF (q := 14) C dX4_init_11 rfl fX4_15 rfl h0 (by rfl) (by rfl) (Nat.le_of_ble_eq_true rfl) rfl ?_
  rw [hput2]
  exact pw_vret C dX4_init_14 rfl ⟨by omega, by omega⟩ (RN.mk ⟨hput_at _ _ _, Same.put (by omega) (by omega)⟩)
