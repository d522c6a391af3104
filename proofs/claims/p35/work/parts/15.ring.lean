/-! Memory, Shelf. -/
/-- the ring: the object at y, its row at y + 1, the lodges from y + 2 on -/
def RingAt (M : PH) (y nx rem : Nat) (h : Nat → Nat → Nat) : Prop := M.2 y = some (.inr (2, [.ref (y + 1), .int (nI nx), .int (nI rem)])) ∧ (∃ f : Nat → Option Nat, M.2 (y + 1) = some (.inl (4, 14, .inr (.inr (.inr (.inr f))))) ∧ ∀ i, i < 14 → f i = some (y + 2 + 7 * i)) ∧ nx < 14 ∧ rem ≤ 14 ∧ (∀ i, i < 14 → ∃ X, LodgeAt M (y + 2 + 7 * i) X) ∧ ∀ j, j < rem → LodgeAt M (y + 2 + 7 * ((nx + 14 - rem + j) % 14)) (h j)
/-- one state more is remembered -/
def noteH (rem : Nat) (h : Nat → Nat → Nat) (P : Nat → Nat) : Nat → Nat → Nat := if rem < 14 then (fun j => if j = rem then P else h j) else (fun j => if j = 13 then P else h (j + 1))
theorem RingAt.keep {M M1 : PH} {y nx rem : Nat} {h : Nat → Nat → Nat} (hR : RingAt M y nx rem h) (hs : ∀ q, y ≤ q → q < y + 100 → M1.2 q = M.2 q) : RingAt M1 y nx rem h := by
  obtain ⟨h0, ⟨f, h1, h2⟩, h3, h4, h5, h6⟩ := hR
  refine ⟨(hs _ (by omega) (by omega)).trans h0, ⟨f, (hs _ (by omega) (by omega)).trans h1, h2⟩, h3, h4, fun i hi => ?_, fun j hj => ?_⟩
  · obtain ⟨X, hX⟩ := h5 i hi
    exact ⟨X, hX.keep (fun q g1 g2 => hs q (by omega) (by omega))⟩
  · exact (h6 j hj).keep (fun q g1 g2 => hs q (by omega) (by omega))
theorem Same.out {M M1 : PH} {lo hi q : Nat} (h : Same M M1 lo hi) (hq : q < lo ∨ hi ≤ q) : M1.2 q = M.2 q := h.2 q hq
theorem Same.wide {M M1 : PH} {lo hi lo1 hi1 : Nat} (h : Same M M1 lo hi) (h1 : lo1 ≤ lo) (h2 : hi ≤ hi1) : Same M M1 lo1 hi1 := ⟨h.1, fun q hq => h.2 q (by omega)⟩
/-- what remember does to the ring -/
theorem ring_note {M M1 M2 : PH} {y nx rem : Nat} {h : Nat → Nat → Nat} {P : Nat → Nat} (hR : RingAt M y nx rem h) (h1 : LodgeAt M1 (y + 2 + 7 * nx) P) (s1 : Same M M1 (y + 2 + 7 * nx) (y + 2 + 7 * nx + 7)) (h0 : M2.2 y = some (.inr (2, [.ref (y + 1), .int (nI (if nx + 1 < 14 then nx + 1 else 0)), .int (nI (min (rem + 1) 14))]))) (s2 : Same M1 M2 y (y + 1)) : RingAt M2 y (if nx + 1 < 14 then nx + 1 else 0) (min (rem + 1) 14) (noteH rem h P) := by
  obtain ⟨g0, ⟨f, g1, g2⟩, g3, g4, g5, g6⟩ := hR
  have L1 : ∀ i, i < 14 → i ≠ nx → ∀ X, LodgeAt M (y + 2 + 7 * i) X → LodgeAt M2 (y + 2 + 7 * i) X := fun i hi hn X hX => hX.keep (fun q q1 q2 => by rw [s2.out (by omega), s1.out (by omega)])
  have L2 : LodgeAt M2 (y + 2 + 7 * nx) P := h1.keep (fun q q1 q2 => s2.out (by omega))
  refine ⟨h0, ⟨f, by rw [s2.out (by omega), s1.out (by omega)]; exact g1, g2⟩, by split <;> omega, by omega, fun i hi => ?_, fun j hj => ?_⟩
  · by_cases hn : i = nx
    · subst hn; exact ⟨P, L2⟩
    · obtain ⟨X, hX⟩ := g5 i hi
      exact ⟨X, L1 i hi hn X hX⟩
  · unfold noteH
    have hnx : (if nx + 1 < 14 then nx + 1 else 0) = (nx + 1) % 14 := by split <;> omega
    rw [hnx]
    by_cases hr : rem < 14
    · rw [if_pos hr]
      rw [show min (rem + 1) 14 = rem + 1 by omega] at hj ⊢
      by_cases hjr : j = rem
      · subst hjr
        rw [if_pos rfl, show ((nx + 1) % 14 + 14 - (j + 1) + j) % 14 = nx by omega]
        exact L2
      · rw [if_neg hjr]
        have e : ((nx + 1) % 14 + 14 - (rem + 1) + j) % 14 = (nx + 14 - rem + j) % 14 := by omega
        rw [e]
        exact L1 _ (by omega) (by omega) _ (g6 j (by omega))
    · rw [if_neg hr]
      have e14 : rem = 14 := by omega
      subst e14
      rw [show min (14 + 1) 14 = 14 by omega] at hj ⊢
      by_cases hjr : j = 13
      · subst hjr
        rw [if_pos rfl, show ((nx + 1) % 14 + 14 - 14 + 13) % 14 = nx by omega]
        exact L2
      · rw [if_neg hjr]
        have e : ((nx + 1) % 14 + 14 - 14 + j) % 14 = (nx + 14 - 14 + (j + 1)) % 14 := by omega
        rw [e]
        exact L1 _ (by omega) (by omega) _ (g6 (j + 1) (by omega))
set_option maxHeartbeats 200000 in
set_option maxRecDepth 100000 in
theorem r_remember {M : PH} {y nx rem a : Nat} {h : Nat → Nat → Nat} {P : Nat → Nat} (hR : RingAt M y nx rem h) (hL : LodgeAt M a P) (hQ : P 2 ≤ 1) (hda : a + 7 ≤ y ∨ y + 100 ≤ a) : Run iX3_remember [.ref y, .ref a] M 0 0 (RN (fun M1 => RingAt M1 y (if nx + 1 < 14 then nx + 1 else 0) (min (rem + 1) 14) (noteH rem h P) ∧ Same M M1 y (y + 100))) := by
  obtain ⟨h0, ⟨f, h1, hf⟩, hnx, hrem, hX9, -⟩ := id hR
  obtain ⟨X, hX⟩ := hX9 nx hnx
  have hd : y + 2 + 7 * nx + 7 ≤ a ∨ a + 7 ≤ y + 2 + 7 * nx := by omega
  refine Run.of (l0 := [some (.ref y), some (.ref a)]) (by decide +kernel) (Nat.le_of_ble_eq_true rfl) (by rfl) (fun Γ G C => ?_)
  refine pw_aload_n (q := 1) (j := 0) C dX3_remember_0 rfl rfl rfl ?_
  refine pw_getf (q := 4) C dX3_remember_1 fX3_22 h0 (by rfl) rfl ?_
  refine pw_if_lt (q := 7) 32 C dX3_remember_4 (by decide) rfl (fun g4 => absurd g4 (nI_pos (by omega))) (fun g4 => ?_)
  refine pw_aload_n (q := 8) (j := 0) C dX3_remember_7 rfl rfl rfl ?_
  refine pw_getf (q := 11) C dX3_remember_8 fX3_22 h0 (by rfl) rfl ?_
  refine pw_aload_n (q := 12) (j := 0) C dX3_remember_11 rfl rfl rfl ?_
  refine pw_getf (q := 15) C dX3_remember_12 fX3_11 h0 (by rfl) rfl ?_
  refine pw_alen_n (q := 16) C dX3_remember_15 h1 (by rfl) rfl ?_
  refine pw_icmp_ge_n (q := 19) 32 C dX3_remember_16 (by decide) rfl (by omega) (by omega) (fun g16 => absurd g16 (by omega)) (fun g16 => ?_)
  refine pw_aload_n (q := 20) (j := 1) C dX3_remember_19 rfl rfl rfl ?_
  refine pw_aload_n (q := 21) (j := 0) C dX3_remember_20 rfl rfl rfl ?_
  refine pw_getf (q := 24) C dX3_remember_21 fX3_11 h0 (by rfl) rfl ?_
  refine pw_aload_n (q := 25) (j := 0) C dX3_remember_24 rfl rfl rfl ?_
  refine pw_getf (q := 28) C dX3_remember_25 fX3_22 h0 (by rfl) rfl ?_
  refine pw_aald_n (q := 29) C dX3_remember_28 h1 (by omega) (by omega) (hf nx hnx) rfl ?_
  refine pw_void (q := 32) (cr_sn (j := iX10_copyLodge) C dX3_remember_29 lnX3_25 mX10_copyLodge (ro_mk (by decide) (by decide)) RN.no (w_copyLodge hX hL hd hQ) rfl rfl (Nat.le_of_ble_eq_true rfl) ⟨by omega, by omega⟩) rfl (fun M29 e29 => ?_)
  obtain ⟨hC, sC⟩ := e29
  have h0 := (sC.out (show y < y + 2 + 7 * nx ∨ y + 2 + 7 * nx + 7 ≤ y by omega)).trans h0
  refine pw_aload_n (q := 33) (j := 0) C dX3_remember_32 rfl rfl rfl ?_
  refine pw_aload_n (q := 34) (j := 0) C dX3_remember_33 rfl rfl rfl ?_
  refine pw_getf (q := 37) C dX3_remember_34 fX3_22 h0 (by rfl) rfl ?_
  refine pw_iconst_n (q := 38) C 1 dX3_remember_37 (by decide +kernel) rfl ?_
  refine pw_iadd_n (q := 39) C dX3_remember_38 rfl ?_
  refine pw_bipush_n (q := 41) C 14 dX3_remember_39 (by decide +kernel) rfl ?_
  refine pw_icmp_ge_n (q := 44) 53 C dX3_remember_41 (by decide) rfl (by omega) (by omega) (fun g41 => ?_) (fun g41 => ?_)
  · refine pw_iconst_n (q := 54) C 0 dX3_remember_53 (by decide +kernel) rfl ?_
    refine pw_put (q := 57) C dX3_remember_54 fX3_22 h0 (by rfl) (by rfl) (Nat.le_of_ble_eq_true rfl) rfl ?_
    refine pw_heap (fun M9 => M9.2 y = some (.inr (2, [.ref (y + 1), .int (nI ((if nx + 1 < 14 then nx + 1 else 0))), .int (nI (rem))])) ∧ Same M29 M9 y (y + 1)) ⟨by rw [if_neg (show ¬ nx + 1 < 14 by omega)]; exact hput_at _ _ _, (Same.put (by omega) (by omega))⟩ (fun M9 ⟨h0, s2⟩ => ?_)
    refine pw_aload_n (q := 58) (j := 0) C dX3_remember_57 rfl rfl rfl ?_
    refine pw_aload_n (q := 59) (j := 0) C dX3_remember_58 rfl rfl rfl ?_
    refine pw_getf (q := 62) C dX3_remember_59 fX3_18 h0 (by rfl) rfl ?_
    refine pw_iconst_n (q := 63) C 1 dX3_remember_62 (by decide +kernel) rfl ?_
    refine pw_iadd_n (q := 64) C dX3_remember_63 rfl ?_
    refine pw_bipush_n (q := 66) C 14 dX3_remember_64 (by decide +kernel) rfl ?_
    refine pw_min_n (q := 69) C dX3_remember_66 lX3_29 mMmin.1 mMmin.2.1 mMmin.2.2 ⟨by decide, Nat.le_of_ble_eq_true rfl⟩ ⟨by omega, by omega⟩ (by omega) (by omega) rfl ?_
    refine pw_put (q := 72) C dX3_remember_69 fX3_18 h0 (by rfl) (by rfl) (Nat.le_of_ble_eq_true rfl) rfl ?_
    refine pw_heap (fun M9 => M9.2 y = some (.inr (2, [.ref (y + 1), .int (nI ((if nx + 1 < 14 then nx + 1 else 0))), .int (nI (min (rem + 1) 14))])) ∧ Same M29 M9 y (y + 1)) ⟨hput_at _ _ _, s2.tr (Same.put (by omega) (by omega))⟩ (fun M9 ⟨h0, s2⟩ => ?_)
    exact pw_vret C dX3_remember_72 rfl ⟨by omega, by omega⟩ (RN.mk ⟨ring_note hR hC sC h0 s2, (sC.wide (by omega) (by omega)).tr (s2.wide (by omega) (by omega))⟩)
  · refine pw_aload_n (q := 45) (j := 0) C dX3_remember_44 rfl rfl rfl ?_
    refine pw_getf (q := 48) C dX3_remember_45 fX3_22 h0 (by rfl) rfl ?_
    refine pw_iconst_n (q := 49) C 1 dX3_remember_48 (by decide +kernel) rfl ?_
    refine pw_iadd_n (q := 50) C dX3_remember_49 rfl ?_
    refine pw_goto (q := 0) 54 C dX3_remember_50 (by decide) ?_
    refine pw_put (q := 57) C dX3_remember_54 fX3_22 h0 (by rfl) (by rfl) (Nat.le_of_ble_eq_true rfl) rfl ?_
    refine pw_heap (fun M9 => M9.2 y = some (.inr (2, [.ref (y + 1), .int (nI ((if nx + 1 < 14 then nx + 1 else 0))), .int (nI (rem))])) ∧ Same M29 M9 y (y + 1)) ⟨by rw [if_pos (show nx + 1 < 14 by omega)]; exact hput_at _ _ _, (Same.put (by omega) (by omega))⟩ (fun M9 ⟨h0, s2⟩ => ?_)
    refine pw_aload_n (q := 58) (j := 0) C dX3_remember_57 rfl rfl rfl ?_
    refine pw_aload_n (q := 59) (j := 0) C dX3_remember_58 rfl rfl rfl ?_
    refine pw_getf (q := 62) C dX3_remember_59 fX3_18 h0 (by rfl) rfl ?_
    refine pw_iconst_n (q := 63) C 1 dX3_remember_62 (by decide +kernel) rfl ?_
    refine pw_iadd_n (q := 64) C dX3_remember_63 rfl ?_
    refine pw_bipush_n (q := 66) C 14 dX3_remember_64 (by decide +kernel) rfl ?_
    refine pw_min_n (q := 69) C dX3_remember_66 lX3_29 mMmin.1 mMmin.2.1 mMmin.2.2 ⟨by decide, Nat.le_of_ble_eq_true rfl⟩ ⟨by omega, by omega⟩ (by omega) (by omega) rfl ?_
    refine pw_put (q := 72) C dX3_remember_69 fX3_18 h0 (by rfl) (by rfl) (Nat.le_of_ble_eq_true rfl) rfl ?_
    refine pw_heap (fun M9 => M9.2 y = some (.inr (2, [.ref (y + 1), .int (nI ((if nx + 1 < 14 then nx + 1 else 0))), .int (nI (min (rem + 1) 14))])) ∧ Same M29 M9 y (y + 1)) ⟨hput_at _ _ _, s2.tr (Same.put (by omega) (by omega))⟩ (fun M9 ⟨h0, s2⟩ => ?_)
    exact pw_vret C dX3_remember_72 rfl ⟨by omega, by omega⟩ (RN.mk ⟨ring_note hR hC sC h0 s2, (sC.wide (by omega) (by omega)).tr (s2.wide (by omega) (by omega))⟩)
/-- same but in two places -/
def Same2 (M M1 : PH) (lo hi lo2 hi2 : Nat) : Prop := M1.1 = M.1 ∧ ∀ q, (q < lo ∨ hi ≤ q) → (q < lo2 ∨ hi2 ≤ q) → M1.2 q = M.2 q
set_option maxHeartbeats 200000 in
set_option maxRecDepth 100000 in
theorem r_takeBack {M : PH} {y nx rem a : Nat} {h : Nat → Nat → Nat} {P : Nat → Nat} (hR : RingAt M y nx rem h) (hL : LodgeAt M a P) (hh : ∀ j, j < rem → h j 2 ≤ 1) (hda : a + 7 ≤ y ∨ y + 100 ≤ a) (hr0 : 0 < rem) : Run iX3_takeBack [.ref y, .ref a] M 0 0 (RV (.int (nI (rem - 1))) (fun M1 => RingAt M1 y (if 0 < nx then nx - 1 else 13) (rem - 1) h ∧ LodgeAt M1 a (h (rem - 1)) ∧ Same2 M M1 y (y + 1) a (a + 7))) := by
  obtain ⟨h0, ⟨f, h1, hf⟩, hnx, hrem, hX9, hj9⟩ := id hR
  obtain ⟨nx2, hnx2⟩ : ∃ z, z = (if 0 < nx then nx - 1 else 13) := ⟨_, rfl⟩
  have hn14 : nx2 < 14 := by rw [hnx2]; split <;> omega
  have e9 : ∀ j, j < rem → (nx2 + 14 - (rem - 1) + j) % 14 = (nx + 14 - rem + j) % 14 := fun j hj => by rw [hnx2]; split <;> omega
  have e8 : (nx + 14 - rem + (rem - 1)) % 14 = nx2 := by rw [hnx2]; split <;> omega
  have hd : a + 7 ≤ y + 2 + 7 * nx2 ∨ y + 2 + 7 * nx2 + 7 ≤ a := by omega
  refine Run.of (l0 := [some (.ref y), some (.ref a)]) (by decide +kernel) (Nat.le_of_ble_eq_true rfl) (by rfl) (fun Γ G C => ?_)
  refine pw_aload_n (q := 1) (j := 0) C dX3_takeBack_0 rfl rfl rfl ?_
  refine pw_aload_n (q := 2) (j := 0) C dX3_takeBack_1 rfl rfl rfl ?_
  refine pw_getf (q := 5) C dX3_takeBack_2 fX3_22 h0 (by rfl) rfl ?_
  refine pw_if_le_n (q := 8) 17 C dX3_takeBack_5 (by decide) rfl (by omega) (fun g5 => ?_) (fun g5 => ?_)
  · refine pw_bipush_n (q := 19) C 13 dX3_takeBack_17 (by decide +kernel) rfl ?_
    refine pw_put (q := 22) C dX3_takeBack_19 fX3_22 h0 (by rfl) (by rfl) (Nat.le_of_ble_eq_true rfl) rfl ?_
    refine pw_heap (fun M9 => M9.2 y = some (.inr (2, [.ref (y + 1), .int (nI (nx2)), .int (nI (rem))])) ∧ Same M M9 y (y + 1)) ⟨by rw [hnx2, if_neg (by omega)]; exact hput_at _ _ _, (Same.put (by omega) (by omega))⟩ (fun M9 ⟨h0, s2⟩ => ?_)
    have h1 := (s2.out (show y + 1 < y ∨ y + 1 ≤ y + 1 by omega)).trans h1
    refine pw_aload_n (q := 23) (j := 0) C dX3_takeBack_22 rfl rfl rfl ?_
    refine pw_dup (q := 24) C dX3_takeBack_23 rfl rfl ?_
    refine pw_getf (q := 27) C dX3_takeBack_24 fX3_18 h0 (by rfl) rfl ?_
    refine pw_iconst_n (q := 28) C 1 dX3_takeBack_27 (by decide +kernel) rfl ?_
    refine pw_isub_n (q := 29) C dX3_takeBack_28 (by omega) rfl ?_
    refine pw_put (q := 32) C dX3_takeBack_29 fX3_18 h0 (by rfl) (by rfl) (Nat.le_of_ble_eq_true rfl) rfl ?_
    refine pw_heap (fun M9 => M9.2 y = some (.inr (2, [.ref (y + 1), .int (nI (nx2)), .int (nI (rem - 1))])) ∧ Same M M9 y (y + 1)) ⟨hput_at _ _ _, s2.tr (Same.put (by omega) (by omega))⟩ (fun M9 ⟨h0, s3⟩ => ?_)
    have h1 := (s3.out (show y + 1 < y ∨ y + 1 ≤ y + 1 by omega)).trans (show M.2 (y + 1) = _ from hR.2.1.choose_spec.1)
    have hf := hR.2.1.choose_spec.2
    have hLa : LodgeAt M9 a P := hL.keep (fun q q1 q2 => s3.out (by omega))
    have hLb : LodgeAt M9 (y + 2 + 7 * nx2) (h (rem - 1)) := by
      have g := hj9 (rem - 1) (by omega)
      rw [e8] at g
      exact g.keep (fun q q1 q2 => s3.out (by omega))
    refine pw_aload_n (q := 33) (j := 0) C dX3_takeBack_32 rfl rfl rfl ?_
    refine pw_getf (q := 36) C dX3_takeBack_33 fX3_22 h0 (by rfl) rfl ?_
    refine pw_if_lt (q := 39) 64 C dX3_takeBack_36 (by decide) rfl (fun g36 => absurd g36 (nI_pos (by omega))) (fun g36 => ?_)
    refine pw_aload_n (q := 40) (j := 0) C dX3_takeBack_39 rfl rfl rfl ?_
    refine pw_getf (q := 43) C dX3_takeBack_40 fX3_22 h0 (by rfl) rfl ?_
    refine pw_aload_n (q := 44) (j := 0) C dX3_takeBack_43 rfl rfl rfl ?_
    refine pw_getf (q := 47) C dX3_takeBack_44 fX3_11 h0 (by rfl) rfl ?_
    refine pw_alen_n (q := 48) C dX3_takeBack_47 h1 (by rfl) rfl ?_
    refine pw_icmp_ge_n (q := 51) 64 C dX3_takeBack_48 (by decide) rfl (by omega) (by omega) (fun g48 => absurd g48 (by omega)) (fun g48 => ?_)
    refine pw_aload_n (q := 52) (j := 0) C dX3_takeBack_51 rfl rfl rfl ?_
    refine pw_getf (q := 55) C dX3_takeBack_52 fX3_11 h0 (by rfl) rfl ?_
    refine pw_aload_n (q := 56) (j := 0) C dX3_takeBack_55 rfl rfl rfl ?_
    refine pw_getf (q := 59) C dX3_takeBack_56 fX3_22 h0 (by rfl) rfl ?_
    refine pw_aald_n (q := 60) C dX3_takeBack_59 h1 (by omega) (by omega) (hf nx2 hn14) rfl ?_
    refine pw_aload_n (q := 61) (j := 1) C dX3_takeBack_60 rfl rfl rfl ?_
    refine pw_void (q := 64) (cr_sn (j := iX10_copyLodge) C dX3_takeBack_61 lnX3_25 mX10_copyLodge (ro_mk (by decide) (by decide)) RN.no (w_copyLodge hLa hLb hd (hh _ (by omega))) rfl rfl (Nat.le_of_ble_eq_true rfl) ⟨by omega, by omega⟩) rfl (fun M61 e61 => ?_)
    obtain ⟨hC, sC⟩ := e61
    have h0 := (sC.out (show y < a ∨ a + 7 ≤ y by omega)).trans h0
    refine pw_aload_n (q := 65) (j := 0) C dX3_takeBack_64 rfl rfl rfl ?_
    refine pw_getf (q := 68) C dX3_takeBack_65 fX3_18 h0 (by rfl) rfl ?_
    exact pw_iret C dX3_takeBack_68 rfl ⟨by omega, by omega⟩ (RV.mk rfl ⟨by
        rw [← hnx2]
        exact ⟨h0, ⟨_, (sC.out (by omega)).trans h1, hf⟩, hn14, by omega, fun i hi => by
          obtain ⟨X, hX⟩ := hX9 i hi
          exact ⟨X, hX.keep (fun q q1 q2 => by rw [sC.out (by omega), s3.out (by omega)])⟩, fun j hj => by
          rw [e9 j (by omega)]
          exact (hj9 j (by omega)).keep (fun q q1 q2 => by rw [sC.out (by omega), s3.out (by omega)])⟩, hC, sC.1.trans s3.1, fun q q1 q2 => by rw [sC.out q2, s3.out q1]⟩)
  · refine pw_aload_n (q := 9) (j := 0) C dX3_takeBack_8 rfl rfl rfl ?_
    refine pw_getf (q := 12) C dX3_takeBack_9 fX3_22 h0 (by rfl) rfl ?_
    refine pw_iconst_n (q := 13) C 1 dX3_takeBack_12 (by decide +kernel) rfl ?_
    refine pw_isub_n (q := 14) C dX3_takeBack_13 (by omega) rfl ?_
    refine pw_goto (q := 0) 19 C dX3_takeBack_14 (by decide) ?_
    refine pw_put (q := 22) C dX3_takeBack_19 fX3_22 h0 (by rfl) (by rfl) (Nat.le_of_ble_eq_true rfl) rfl ?_
    refine pw_heap (fun M9 => M9.2 y = some (.inr (2, [.ref (y + 1), .int (nI (nx2)), .int (nI (rem))])) ∧ Same M M9 y (y + 1)) ⟨by rw [hnx2, if_pos (by omega)]; exact hput_at _ _ _, (Same.put (by omega) (by omega))⟩ (fun M9 ⟨h0, s2⟩ => ?_)
    have h1 := (s2.out (show y + 1 < y ∨ y + 1 ≤ y + 1 by omega)).trans h1
    refine pw_aload_n (q := 23) (j := 0) C dX3_takeBack_22 rfl rfl rfl ?_
    refine pw_dup (q := 24) C dX3_takeBack_23 rfl rfl ?_
    refine pw_getf (q := 27) C dX3_takeBack_24 fX3_18 h0 (by rfl) rfl ?_
    refine pw_iconst_n (q := 28) C 1 dX3_takeBack_27 (by decide +kernel) rfl ?_
    refine pw_isub_n (q := 29) C dX3_takeBack_28 (by omega) rfl ?_
    refine pw_put (q := 32) C dX3_takeBack_29 fX3_18 h0 (by rfl) (by rfl) (Nat.le_of_ble_eq_true rfl) rfl ?_
    refine pw_heap (fun M9 => M9.2 y = some (.inr (2, [.ref (y + 1), .int (nI (nx2)), .int (nI (rem - 1))])) ∧ Same M M9 y (y + 1)) ⟨hput_at _ _ _, s2.tr (Same.put (by omega) (by omega))⟩ (fun M9 ⟨h0, s3⟩ => ?_)
    have h1 := (s3.out (show y + 1 < y ∨ y + 1 ≤ y + 1 by omega)).trans (show M.2 (y + 1) = _ from hR.2.1.choose_spec.1)
    have hf := hR.2.1.choose_spec.2
    have hLa : LodgeAt M9 a P := hL.keep (fun q q1 q2 => s3.out (by omega))
    have hLb : LodgeAt M9 (y + 2 + 7 * nx2) (h (rem - 1)) := by
      have g := hj9 (rem - 1) (by omega)
      rw [e8] at g
      exact g.keep (fun q q1 q2 => s3.out (by omega))
    refine pw_aload_n (q := 33) (j := 0) C dX3_takeBack_32 rfl rfl rfl ?_
    refine pw_getf (q := 36) C dX3_takeBack_33 fX3_22 h0 (by rfl) rfl ?_
    refine pw_if_lt (q := 39) 64 C dX3_takeBack_36 (by decide) rfl (fun g36 => absurd g36 (nI_pos (by omega))) (fun g36 => ?_)
    refine pw_aload_n (q := 40) (j := 0) C dX3_takeBack_39 rfl rfl rfl ?_
    refine pw_getf (q := 43) C dX3_takeBack_40 fX3_22 h0 (by rfl) rfl ?_
    refine pw_aload_n (q := 44) (j := 0) C dX3_takeBack_43 rfl rfl rfl ?_
    refine pw_getf (q := 47) C dX3_takeBack_44 fX3_11 h0 (by rfl) rfl ?_
    refine pw_alen_n (q := 48) C dX3_takeBack_47 h1 (by rfl) rfl ?_
    refine pw_icmp_ge_n (q := 51) 64 C dX3_takeBack_48 (by decide) rfl (by omega) (by omega) (fun g48 => absurd g48 (by omega)) (fun g48 => ?_)
    refine pw_aload_n (q := 52) (j := 0) C dX3_takeBack_51 rfl rfl rfl ?_
    refine pw_getf (q := 55) C dX3_takeBack_52 fX3_11 h0 (by rfl) rfl ?_
    refine pw_aload_n (q := 56) (j := 0) C dX3_takeBack_55 rfl rfl rfl ?_
    refine pw_getf (q := 59) C dX3_takeBack_56 fX3_22 h0 (by rfl) rfl ?_
    refine pw_aald_n (q := 60) C dX3_takeBack_59 h1 (by omega) (by omega) (hf nx2 hn14) rfl ?_
    refine pw_aload_n (q := 61) (j := 1) C dX3_takeBack_60 rfl rfl rfl ?_
    refine pw_void (q := 64) (cr_sn (j := iX10_copyLodge) C dX3_takeBack_61 lnX3_25 mX10_copyLodge (ro_mk (by decide) (by decide)) RN.no (w_copyLodge hLa hLb hd (hh _ (by omega))) rfl rfl (Nat.le_of_ble_eq_true rfl) ⟨by omega, by omega⟩) rfl (fun M61 e61 => ?_)
    obtain ⟨hC, sC⟩ := e61
    have h0 := (sC.out (show y < a ∨ a + 7 ≤ y by omega)).trans h0
    refine pw_aload_n (q := 65) (j := 0) C dX3_takeBack_64 rfl rfl rfl ?_
    refine pw_getf (q := 68) C dX3_takeBack_65 fX3_18 h0 (by rfl) rfl ?_
    exact pw_iret C dX3_takeBack_68 rfl ⟨by omega, by omega⟩ (RV.mk rfl ⟨by
        rw [← hnx2]
        exact ⟨h0, ⟨_, (sC.out (by omega)).trans h1, hf⟩, hn14, by omega, fun i hi => by
          obtain ⟨X, hX⟩ := hX9 i hi
          exact ⟨X, hX.keep (fun q q1 q2 => by rw [sC.out (by omega), s3.out (by omega)])⟩, fun j hj => by
          rw [e9 j (by omega)]
          exact (hj9 j (by omega)).keep (fun q q1 q2 => by rw [sC.out (by omega), s3.out (by omega)])⟩, hC, sC.1.trans s3.1, fun q q1 q2 => by rw [sC.out q2, s3.out q1]⟩)
set_option maxHeartbeats 200000 in
set_option maxRecDepth 100000 in
theorem r_isEmpty {M : PH} {y nx rem : Nat} {h : Nat → Nat → Nat} (hR : RingAt M y nx rem h) : Run iX3_isEmpty [.ref y] M 0 0 (RV (.int (nI (bN (rem = 0)))) (fun M1 => M1 = M)) := by
  obtain ⟨h0, -, hnx, hrem, -⟩ := id hR
  refine Run.of (l0 := [some (.ref y)]) (by decide +kernel) (Nat.le_of_ble_eq_true rfl) (by rfl) (fun Γ G C => ?_)
  refine pw_aload_n (q := 1) (j := 0) C dX3_isEmpty_0 rfl rfl rfl ?_
  refine pw_getf (q := 4) C dX3_isEmpty_1 fX3_18 h0 (by rfl) rfl ?_
  refine pw_if_ne_n (q := 7) 11 C dX3_isEmpty_4 (by decide) rfl (by omega) (fun g4 => ?_) (fun g4 => ?_)
  · refine pw_iconst_n (q := 12) C 0 dX3_isEmpty_11 (by decide +kernel) rfl ?_
    exact pw_zret C dX3_isEmpty_12 rfl (by first | decide +kernel | exact nar_bN _ | exact nar_01 (by omega)) ⟨by omega, by omega⟩ (RV.mk (v0 g4) rfl)
  · refine pw_iconst_n (q := 8) C 1 dX3_isEmpty_7 (by decide +kernel) rfl ?_
    refine pw_goto (q := 0) 12 C dX3_isEmpty_8 (by decide) ?_
    exact pw_zret C dX3_isEmpty_12 rfl (by first | decide +kernel | exact nar_bN _ | exact nar_01 (by omega)) ⟨by omega, by omega⟩ (RV.mk (v1 g4) rfl)
set_option maxHeartbeats 200000 in
set_option maxRecDepth 100000 in
theorem r_forget {M : PH} {y nx rem : Nat} {h : Nat → Nat → Nat} (hR : RingAt M y nx rem h) : Run iX3_forgetAll [.ref y] M 0 0 (RN (fun M1 => RingAt M1 y nx 0 h ∧ Same M M1 y (y + 1))) := by
  obtain ⟨h0, ⟨f, h1, hf⟩, hnx, hrem, hX9, -⟩ := id hR
  refine Run.of (l0 := [some (.ref y)]) (by decide +kernel) (Nat.le_of_ble_eq_true rfl) (by rfl) (fun Γ G C => ?_)
  refine pw_aload_n (q := 1) (j := 0) C dX3_forgetAll_0 rfl rfl rfl ?_
  refine pw_iconst_n (q := 2) C 0 dX3_forgetAll_1 (by decide +kernel) rfl ?_
  refine pw_put (q := 5) C dX3_forgetAll_2 fX3_18 h0 (by rfl) (by rfl) (Nat.le_of_ble_eq_true rfl) rfl ?_
  exact pw_vret C dX3_forgetAll_5 rfl ⟨by omega, by omega⟩ (RN.mk ⟨⟨hput_at _ _ _, ⟨f, (hput_ne (by omega)).trans h1, hf⟩, hnx, by omega, fun i hi => by
      obtain ⟨X, hX⟩ := hX9 i hi
      exact ⟨X, hX.keep (fun q q1 q2 => hput_ne (by omega))⟩, fun j hj => absurd hj (Nat.not_lt_zero j)⟩, Same.put (by omega) (by omega)⟩)
/-- the save slots: the object at y, its rows at y + 1 and y + 2, the lodges from y + 3 on -/
def ShelfAt (M : PH) (y : Nat) (B : Nat → Nat) (K : Nat → Nat → Nat) : Prop := M.2 y = some (.inr (4, [.ref (y + 1), .ref (y + 2)])) ∧ (∃ f : Nat → Option Nat, M.2 (y + 1) = some (.inl (4, 2, .inr (.inr (.inr (.inr f))))) ∧ ∀ i, i < 2 → f i = some (y + 3 + 7 * i)) ∧ M.2 (y + 2) = some (.inl (2, 2, .inl (pg B))) ∧ (∀ i, i < 2 → B i ≤ 1 ∧ ∃ X, LodgeAt M (y + 3 + 7 * i) X) ∧ ∀ i, i < 2 → B i = 1 → LodgeAt M (y + 3 + 7 * i) (K i)
theorem ShelfAt.keep {M M1 : PH} {y : Nat} {B : Nat → Nat} {K : Nat → Nat → Nat} (hR : ShelfAt M y B K) (hs : ∀ q, y ≤ q → q < y + 17 → M1.2 q = M.2 q) : ShelfAt M1 y B K := by
  obtain ⟨h0, ⟨f, h1, h2⟩, h3, h4, h5⟩ := hR
  refine ⟨(hs _ (by omega) (by omega)).trans h0, ⟨f, (hs _ (by omega) (by omega)).trans h1, h2⟩, (hs _ (by omega) (by omega)).trans h3, fun i hi => ⟨(h4 i hi).1, ?_⟩, fun i hi hb => ?_⟩
  · obtain ⟨X, hX⟩ := (h4 i hi).2
    exact ⟨X, hX.keep (fun q g1 g2 => hs q (by omega) (by omega))⟩
  · exact (h5 i hi hb).keep (fun q g1 g2 => hs q (by omega) (by omega))
theorem nar_z1 : vp_nar .boolean (nI 1) = nI 1 := by decide +kernel
theorem nar_z0 : vp_nar .boolean (nI 0) = nI 0 := by decide +kernel
set_option maxHeartbeats 200000 in
set_option maxRecDepth 100000 in
theorem s_isFilled {M : PH} {y : Nat} {B : Nat → Nat} {K : Nat → Nat → Nat} (hR : ShelfAt M y B K) {s : Nat} (hs : s < 2) : Run iX6_isFilled [.ref y, .int (nI s)] M 0 0 (RV (.int (nI (bN (B s = 1)))) (fun M1 => M1 = M)) := by
  obtain ⟨h0, ⟨f, h1, hf⟩, h2, hX9, hK9⟩ := id hR
  have hb := (hX9 s hs).1
  refine Run.of (l0 := [some (.ref y), some (.int (nI s))]) (by decide +kernel) (Nat.le_of_ble_eq_true rfl) (by rfl) (fun Γ G C => ?_)
  refine pw_iload_n (q := 1) (j := 1) C dX6_isFilled_0 rfl rfl rfl ?_
  refine pw_if_lt (q := 4) 26 C dX6_isFilled_1 (by decide) rfl (fun g1 => absurd g1 (nI_pos (by omega))) (fun g1 => ?_)
  refine pw_iload_n (q := 5) (j := 1) C dX6_isFilled_4 rfl rfl rfl ?_
  refine pw_aload_n (q := 6) (j := 0) C dX6_isFilled_5 rfl rfl rfl ?_
  refine pw_getf (q := 9) C dX6_isFilled_6 fX6_17 h0 (by rfl) rfl ?_
  refine pw_alen_n (q := 10) C dX6_isFilled_9 h2 (by rfl) rfl ?_
  refine pw_icmp_ge_n (q := 13) 26 C dX6_isFilled_10 (by decide) rfl (by omega) (by omega) (fun g10 => absurd g10 (by omega)) (fun g10 => ?_)
  refine pw_aload_n (q := 14) (j := 0) C dX6_isFilled_13 rfl rfl rfl ?_
  refine pw_getf (q := 17) C dX6_isFilled_14 fX6_17 h0 (by rfl) rfl ?_
  refine pw_iload_n (q := 18) (j := 1) C dX6_isFilled_17 rfl rfl rfl ?_
  refine pw_zald_n (q := 19) C dX6_isFilled_18 h2 (by omega) (by omega) rfl ?_
  show PW Γ G _ 19 _ [.int (nI (B s))] M 0 0
  refine pw_if_eq_n (q := 22) 26 C dX6_isFilled_19 (by decide) rfl (by omega) (fun g19 => ?_) (fun g19 => ?_)
  · refine pw_iconst_n (q := 27) C 0 dX6_isFilled_26 (by decide +kernel) rfl ?_
    exact pw_zret C dX6_isFilled_27 rfl (by first | decide +kernel | exact nar_bN _ | exact nar_01 (by omega)) ⟨by omega, by omega⟩ (RV.mk (v0 (by omega)) rfl)
  · refine pw_iconst_n (q := 23) C 1 dX6_isFilled_22 (by decide +kernel) rfl ?_
    refine pw_goto (q := 0) 27 C dX6_isFilled_23 (by decide) ?_
    exact pw_zret C dX6_isFilled_27 rfl (by first | decide +kernel | exact nar_bN _ | exact nar_01 (by omega)) ⟨by omega, by omega⟩ (RV.mk (v1 (by omega)) rfl)
set_option maxHeartbeats 200000 in
set_option maxRecDepth 100000 in
theorem s_fetch {M : PH} {y : Nat} {B : Nat → Nat} {K : Nat → Nat → Nat} (hR : ShelfAt M y B K) {s a : Nat} {P : Nat → Nat} (hs : s < 2) (hb1 : B s = 1) (hL : LodgeAt M a P) (hQ : K s 2 ≤ 1) (hda : a + 7 ≤ y ∨ y + 17 ≤ a) : Run iX6_fetch [.ref y, .int (nI s), .ref a] M 0 0 (RN (fun M1 => LodgeAt M1 a (K s) ∧ Same M M1 a (a + 7))) := by
  obtain ⟨h0, ⟨f, h1, hf⟩, h2, hX9, hK9⟩ := id hR
  have hd : a + 7 ≤ y + 3 + 7 * s ∨ y + 3 + 7 * s + 7 ≤ a := by omega
  refine Run.of (l0 := [some (.ref y), some (.int (nI s)), some (.ref a)]) (by decide +kernel) (Nat.le_of_ble_eq_true rfl) (by rfl) (fun Γ G C => ?_)
  refine pw_iload_n (q := 1) (j := 1) C dX6_fetch_0 rfl rfl rfl ?_
  refine pw_if_lt (q := 4) 23 C dX6_fetch_1 (by decide) rfl (fun g1 => absurd g1 (nI_pos (by omega))) (fun g1 => ?_)
  refine pw_iload_n (q := 5) (j := 1) C dX6_fetch_4 rfl rfl rfl ?_
  refine pw_aload_n (q := 6) (j := 0) C dX6_fetch_5 rfl rfl rfl ?_
  refine pw_getf (q := 9) C dX6_fetch_6 fX6_11 h0 (by rfl) rfl ?_
  refine pw_alen_n (q := 10) C dX6_fetch_9 h1 (by rfl) rfl ?_
  refine pw_icmp_ge_n (q := 13) 23 C dX6_fetch_10 (by decide) rfl (by omega) (by omega) (fun g10 => absurd g10 (by omega)) (fun g10 => ?_)
  refine pw_aload_n (q := 14) (j := 0) C dX6_fetch_13 rfl rfl rfl ?_
  refine pw_getf (q := 17) C dX6_fetch_14 fX6_11 h0 (by rfl) rfl ?_
  refine pw_iload_n (q := 18) (j := 1) C dX6_fetch_17 rfl rfl rfl ?_
  refine pw_aald_n (q := 19) C dX6_fetch_18 h1 (by omega) (by omega) (hf s hs) rfl ?_
  refine pw_aload_n (q := 20) (j := 2) C dX6_fetch_19 rfl rfl rfl ?_
  refine pw_void (q := 23) (cr_sn (j := iX10_copyLodge) C dX6_fetch_20 lnX6_22 mX10_copyLodge (ro_mk (by decide) (by decide)) RN.no (w_copyLodge hL (hK9 s hs hb1) hd hQ) rfl rfl (Nat.le_of_ble_eq_true rfl) ⟨by omega, by omega⟩) rfl (fun M20 e20 => ?_)
  exact pw_vret C dX6_fetch_23 rfl ⟨by omega, by omega⟩ (RN.mk e20)
set_option maxHeartbeats 200000 in
set_option maxRecDepth 100000 in
theorem s_store {M : PH} {y : Nat} {B : Nat → Nat} {K : Nat → Nat → Nat} (hR : ShelfAt M y B K) {s a : Nat} {P : Nat → Nat} (hs : s < 2) (hL : LodgeAt M a P) (hQ : P 2 ≤ 1) (hda : a + 7 ≤ y ∨ y + 17 ≤ a) : Run iX6_store [.ref y, .int (nI s), .ref a] M 0 0 (RN (fun M1 => ShelfAt M1 y (updN B s 1) (fun i => if i = s then P else K i) ∧ Same M M1 y (y + 17))) := by
  obtain ⟨h0, ⟨f, h1, hf⟩, h2, hX9, hK9⟩ := id hR
  obtain ⟨X, hX⟩ := (hX9 s hs).2
  have hd : y + 3 + 7 * s + 7 ≤ a ∨ a + 7 ≤ y + 3 + 7 * s := by omega
  refine Run.of (l0 := [some (.ref y), some (.int (nI s)), some (.ref a)]) (by decide +kernel) (Nat.le_of_ble_eq_true rfl) (by rfl) (fun Γ G C => ?_)
  refine pw_iload_n (q := 1) (j := 1) C dX6_store_0 rfl rfl rfl ?_
  refine pw_if_lt (q := 4) 39 C dX6_store_1 (by decide) rfl (fun g1 => absurd g1 (nI_pos (by omega))) (fun g1 => ?_)
  refine pw_iload_n (q := 5) (j := 1) C dX6_store_4 rfl rfl rfl ?_
  refine pw_aload_n (q := 6) (j := 0) C dX6_store_5 rfl rfl rfl ?_
  refine pw_getf (q := 9) C dX6_store_6 fX6_11 h0 (by rfl) rfl ?_
  refine pw_alen_n (q := 10) C dX6_store_9 h1 (by rfl) rfl ?_
  refine pw_icmp_ge_n (q := 13) 39 C dX6_store_10 (by decide) rfl (by omega) (by omega) (fun g10 => absurd g10 (by omega)) (fun g10 => ?_)
  refine pw_iload_n (q := 14) (j := 1) C dX6_store_13 rfl rfl rfl ?_
  refine pw_aload_n (q := 15) (j := 0) C dX6_store_14 rfl rfl rfl ?_
  refine pw_getf (q := 18) C dX6_store_15 fX6_17 h0 (by rfl) rfl ?_
  refine pw_alen_n (q := 19) C dX6_store_18 h2 (by rfl) rfl ?_
  refine pw_icmp_ge_n (q := 22) 39 C dX6_store_19 (by decide) rfl (by omega) (by omega) (fun g19 => absurd g19 (by omega)) (fun g19 => ?_)
  refine pw_aload_n (q := 23) (j := 2) C dX6_store_22 rfl rfl rfl ?_
  refine pw_aload_n (q := 24) (j := 0) C dX6_store_23 rfl rfl rfl ?_
  refine pw_getf (q := 27) C dX6_store_24 fX6_11 h0 (by rfl) rfl ?_
  refine pw_iload_n (q := 28) (j := 1) C dX6_store_27 rfl rfl rfl ?_
  refine pw_aald_n (q := 29) C dX6_store_28 h1 (by omega) (by omega) (hf s hs) rfl ?_
  refine pw_void (q := 32) (cr_sn (j := iX10_copyLodge) C dX6_store_29 lnX6_22 mX10_copyLodge (ro_mk (by decide) (by decide)) RN.no (w_copyLodge hX hL hd hQ) rfl rfl (Nat.le_of_ble_eq_true rfl) ⟨by omega, by omega⟩) rfl (fun M29 e29 => ?_)
  obtain ⟨hC, sC⟩ := e29
  have h0 := (sC.out (show y < y + 3 + 7 * s ∨ y + 3 + 7 * s + 7 ≤ y by omega)).trans h0
  have h2 := (sC.out (show y + 2 < y + 3 + 7 * s ∨ y + 3 + 7 * s + 7 ≤ y + 2 by omega)).trans h2
  refine pw_aload_n (q := 33) (j := 0) C dX6_store_32 rfl rfl rfl ?_
  refine pw_getf (q := 36) C dX6_store_33 fX6_17 h0 (by rfl) rfl ?_
  refine pw_iload_n (q := 37) (j := 1) C dX6_store_36 rfl rfl rfl ?_
  refine pw_iconst_n (q := 38) C 1 dX6_store_37 (by decide +kernel) rfl ?_
  refine pw_zast (q := 39) C dX6_store_38 h2 (vp_in_n (by omega) (by omega)) rfl ?_
  rw [nI_clamp (by omega), nar_z1, upd_pg]
  refine pw_vret C dX6_store_39 rfl ⟨by omega, by omega⟩ (RN.mk ⟨⟨(hput_ne (by omega)).trans h0, ⟨f, ((hput_ne (by omega)).trans (sC.out (show y + 1 < y + 3 + 7 * s ∨ y + 3 + 7 * s + 7 ≤ y + 1 by omega))).trans h1, hf⟩, hput_at _ _ _, fun i hi => ⟨?_, ?_⟩, fun i hi hb => ?_⟩, (sC.wide (by omega) (by omega)).tr (Same.put (by omega) (by omega))⟩)
  · by_cases e : i = s
    · subst e; rw [updN_at]; omega
    · rw [updN_ne e]; exact (hX9 i hi).1
  · by_cases e : i = s
    · subst e; exact ⟨P, hC.keep (fun q q1 q2 => hput_ne (by omega))⟩
    · obtain ⟨X2, hX2⟩ := (hX9 i hi).2
      exact ⟨X2, hX2.keep (fun q q1 q2 => by rw [hput_ne (by omega), sC.out (by omega)])⟩
  · by_cases e : i = s
    · subst e
      have e5 : (fun i9 => if i9 = i then P else K i9) i = P := if_pos rfl
      rw [e5]; exact hC.keep (fun q q1 q2 => hput_ne (by omega))
    · have e5 : (fun i9 => if i9 = s then P else K i9) i = K i := if_neg e
      rw [e5]; rw [updN_ne e] at hb; exact (hK9 i hi hb).keep (fun q q1 q2 => by rw [hput_ne (by omega), sC.out (by omega)])
def clrB (B : Nat → Nat) : Nat → Nat := fun j => if j < 2 then 0 else B j
set_option maxHeartbeats 200000 in
set_option maxRecDepth 100000 in
theorem s_emptyAll {M : PH} {y : Nat} {B : Nat → Nat} {K : Nat → Nat → Nat} (hR : ShelfAt M y B K) : Run iX6_emptyAll [.ref y] M 0 0 (RN (fun M1 => ShelfAt M1 y (clrB B) K ∧ Same M M1 y (y + 17))) := by
  obtain ⟨h0, ⟨f, h1, hf⟩, h2, hX9, hK9⟩ := id hR
  refine Run.of (l0 := [some (.ref y), none]) (by decide +kernel) (Nat.le_of_ble_eq_true rfl) (by rfl) (fun Γ G C => ?_)
  have loop : ∀ (d i : Nat), i + d = 2 → ∀ (M2 : PH) (B2 : Nat → Nat), M2.2 y = some (.inr (4, [.ref (y + 1), .ref (y + 2)])) → M2.2 (y + 2) = some (.inl (2, 2, .inl (pg B2))) → (∀ j, B2 j = if j < i then 0 else B j) → Same M M2 (y + 2) (y + 3) → PW Γ G (ZJ Γ G 0 0 (RN (fun M1 => ShelfAt M1 y (clrB B) K ∧ Same M M1 y (y + 17)))) 2 [some (.ref y), some (.int (nI i))] [] M2 0 0 := by
    intro d
    induction d with
    | zero =>
      intro i hd
      intro M2 B2 h0 h2 hz sm
      refine pw_iload_n (q := 3) (j := 1) C dX6_emptyAll_2 rfl rfl rfl ?_
      refine pw_aload_n (q := 4) (j := 0) C dX6_emptyAll_3 rfl rfl rfl ?_
      refine pw_getf (q := 7) C dX6_emptyAll_4 fX6_17 h0 (by rfl) rfl ?_
      refine pw_alen_n (q := 8) C dX6_emptyAll_7 h2 (by rfl) rfl ?_
      refine pw_icmp_ge_n (q := 11) 24 C dX6_emptyAll_8 (by decide) rfl (by omega) (by omega) (fun g8 => ?_) (fun g8 => absurd g8 (by omega))
      exact pw_vret C dX6_emptyAll_24 rfl ⟨by omega, by omega⟩ (by
          have e9 : B2 = clrB B := by rw [show i = 2 by omega] at hz; exact funext hz
          subst e9
          have hz2 : ∀ i, i < 2 → clrB B i = 0 := fun i hi => if_pos hi
          exact RN.mk ⟨⟨h0, ⟨f, (sm.out (by omega)).trans h1, hf⟩, h2, fun i hi => ⟨by rw [hz2 i hi]; omega, by
            obtain ⟨X, hX⟩ := (hX9 i hi).2
            exact ⟨X, hX.keep (fun q q1 q2 => sm.out (by omega))⟩⟩, fun i hi hb => by rw [hz2 i hi] at hb; omega⟩, sm.wide (by omega) (by omega)⟩)
    | succ d ih =>
      intro i hd
      intro M2 B2 h0 h2 hz sm
      refine pw_iload_n (q := 3) (j := 1) C dX6_emptyAll_2 rfl rfl rfl ?_
      refine pw_aload_n (q := 4) (j := 0) C dX6_emptyAll_3 rfl rfl rfl ?_
      refine pw_getf (q := 7) C dX6_emptyAll_4 fX6_17 h0 (by rfl) rfl ?_
      refine pw_alen_n (q := 8) C dX6_emptyAll_7 h2 (by rfl) rfl ?_
      refine pw_icmp_ge_n (q := 11) 24 C dX6_emptyAll_8 (by decide) rfl (by omega) (by omega) (fun g8 => absurd g8 (by omega)) (fun g8 => ?_)
      refine pw_aload_n (q := 12) (j := 0) C dX6_emptyAll_11 rfl rfl rfl ?_
      refine pw_getf (q := 15) C dX6_emptyAll_12 fX6_17 h0 (by rfl) rfl ?_
      refine pw_iload_n (q := 16) (j := 1) C dX6_emptyAll_15 rfl rfl rfl ?_
      refine pw_iconst_n (q := 17) C 0 dX6_emptyAll_16 (by decide +kernel) rfl ?_
      refine pw_zast (q := 18) C dX6_emptyAll_17 h2 (vp_in_n (by omega) (by omega)) rfl ?_
      rw [nI_clamp (by omega), nar_z0, upd_pg]
      refine pw_iinc_n (q := 21) C 1 dX6_emptyAll_18 rfl (by decide +kernel) rfl (by decide) rfl ?_
      refine pw_goto (q := 0) 2 C dX6_emptyAll_21 (by decide) ?_
      exact ih (i + 1) (by omega) _ _ ((hput_ne (by omega)).trans h0) (hput_at _ _ _) (fun j => by
        unfold updN
        rw [hz j]
        grind) (sm.tr (Same.put (by omega) (by omega)))
  refine pw_iconst_n (q := 1) C 0 dX6_emptyAll_0 (by decide +kernel) rfl ?_
  refine pw_istore_n (q := 2) (j := 1) C dX6_emptyAll_1 rfl rfl (by decide) rfl ?_
  exact loop 2 0 (by omega) M B h0 h2 (fun j => (if_neg (Nat.not_lt_zero j)).symm) Same.rf
