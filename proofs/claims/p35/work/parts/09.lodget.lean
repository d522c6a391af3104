/-! What a lodge's tables answer, in the numbers of its row. -/
section
variable {M : PH} {a : Nat} {P : Nat → Nat} {fc fm fs : Nat → Int32}
theorem Inv.c {c : Nat} (h : Inv P) (hc : c < P 5) : 1 ≤ P (8 + 3 * c) ∧ P (8 + 3 * c) ≤ 9 ∧ 1 ≤ P (8 + 3 * c + 1) ∧ P (8 + 3 * c + 1) ≤ 6 ∧ 1 ≤ P (8 + 3 * c + 2) ∧ P (8 + 3 * c + 2) ≤ 9 := h.2.2.2.2.2.2.1 c hc
theorem Inv.m {m : Nat} (h : Inv P) (hm : m < P 6) : 1 ≤ P (26 + 4 * m) ∧ P (26 + 4 * m) ≤ 9 ∧ 1 ≤ P (26 + 4 * m + 1) ∧ P (26 + 4 * m + 1) ≤ 12 ∧ P (26 + 4 * m + 2) ≤ 12 := h.2.2.2.2.2.2.2.1 m hm
theorem Inv.s {s : Nat} (h : Inv P) (hs : s < P 7) : P (50 + 6 * s) < P 5 ∧ P (50 + 6 * s + 1) < P 6 ∧ P (50 + 6 * s + 2) ≤ 9 ∧ P (50 + 6 * s + 3) ≤ 4 ∧ P (50 + 6 * s + 4) + P (8 + 3 * P (50 + 6 * s)) ≤ 9 ∧ P (50 + 6 * s + 5) < P 6 := h.2.2.2.2.2.2.2.2.1 s hs
theorem Inv.b (h : Inv P) : P 0 ≤ 9 ∧ P 2 ≤ 1 ∧ P 5 ≤ 6 ∧ P 6 ≤ 6 ∧ P 7 ≤ 24 ∧ P 1 < 100000 := ⟨h.1, h.2.1, h.2.2.1, h.2.2.2.1, h.2.2.2.2.1, h.2.2.2.2.2.1⟩
theorem Inv.w (h : Inv P) : wallP P := h.2.2.2.2.2.2.2.2.2
theorem cntC_le (h : Inv P) (c st : Nat) : cntC P c st ≤ 24 := Nat.le_trans (cnt_le _ _) h.b.2.2.2.2.1
theorem cntM_le (h : Inv P) (m st : Nat) : cntM P m st ≤ 24 := Nat.le_trans (cnt_le _ _) h.b.2.2.2.2.1
theorem cntS_le (h : Inv P) (st : Nat) : cntS P st ≤ 24 := Nat.le_trans (cnt_le _ _) h.b.2.2.2.2.1
theorem g_c (hG : LodgeG M a P fc fm fs) (hr : RelA P fc fm fs) {c j : Nat} (hc : c < P 5) (hj : j < 3) : Run iX8_get [.ref (a + 1), .int (nI c), .int (nI j)] M 0 0 (RV (.int (nI (P (8 + 3 * c + j)))) (fun M1 => M1 = M)) := by
  have h := k_get_in hG.2.1 hc hj
  rw [hr.c j hc hj] at h
  exact h
theorem g_c0 (hG : LodgeG M a P fc fm fs) (hr : RelA P fc fm fs) {c : Nat} (hc : c < P 5) : Run iX8_get [.ref (a + 1), .int (nI c), .int (nI 0)] M 0 0 (RV (.int (nI (P (8 + 3 * c)))) (fun M1 => M1 = M)) := g_c hG hr hc (by omega)
theorem g_m (hG : LodgeG M a P fc fm fs) (hr : RelA P fc fm fs) {m j : Nat} (hm : m < P 6) (hj : j < 4) : Run iX8_get [.ref (a + 3), .int (nI m), .int (nI j)] M 0 0 (RV (.int (nI (P (26 + 4 * m + j)))) (fun M1 => M1 = M)) := by
  have h := k_get_in hG.2.2.1 hm hj
  rw [hr.m j hm hj] at h
  exact h
theorem g_m0 (hG : LodgeG M a P fc fm fs) (hr : RelA P fc fm fs) {m : Nat} (hm : m < P 6) : Run iX8_get [.ref (a + 3), .int (nI m), .int (nI 0)] M 0 0 (RV (.int (nI (P (26 + 4 * m)))) (fun M1 => M1 = M)) := g_m hG hr hm (by omega)
theorem g_s (hG : LodgeG M a P fc fm fs) (hr : RelA P fc fm fs) {s j : Nat} (hs : s < P 7) (hj : j < 6) : Run iX8_get [.ref (a + 5), .int (nI s), .int (nI j)] M 0 0 (RV (.int (nI (P (50 + 6 * s + j)))) (fun M1 => M1 = M)) := by
  have h := k_get_in hG.2.2.2 hs hj
  rw [hr.s j hs hj] at h
  exact h
theorem g_s0 (hG : LodgeG M a P fc fm fs) (hr : RelA P fc fm fs) {s : Nat} (hs : s < P 7) : Run iX8_get [.ref (a + 5), .int (nI s), .int (nI 0)] M 0 0 (RV (.int (nI (P (50 + 6 * s)))) (fun M1 => M1 = M)) := g_s hG hr hs (by omega)
theorem g_cC (hG : LodgeG M a P fc fm fs) (hr : RelA P fc fm fs) (hI : Inv P) {c st : Nat} (hc : c < 2147483648) (hst : st < 2147483648) : Run iX8_countBoth [.ref (a + 5), .int (nI 0), .int (nI c), .int (nI 3), .int (nI st)] M 0 0 (RV (.int (nI (cntC P c st))) (fun M1 => M1 = M)) := by
  have h := k_countBoth hG.2.2.2 (c := 0) (c2 := 3) (by omega) (by omega) (nI c) (nI st)
  have e : cnt (fun r => fs (r * 6 + 0) = nI c ∧ fs (r * 6 + 3) = nI st) (P 7) = cntC P c st := cnt_cong fun s hs => by
    have hi := hI.s hs
    have hb := hI.b
    rw [hr.s 0 hs (by omega), hr.s 3 hs (by omega), nI_eq (by show P (50 + 6 * s) < _; omega) hc, nI_eq (by omega) hst]
    exact Iff.rfl
  rw [e] at h
  exact h
theorem g_cM (hG : LodgeG M a P fc fm fs) (hr : RelA P fc fm fs) (hI : Inv P) {m st : Nat} (hm : m < 2147483648) (hst : st < 2147483648) : Run iX8_countBoth [.ref (a + 5), .int (nI 1), .int (nI m), .int (nI 3), .int (nI st)] M 0 0 (RV (.int (nI (cntM P m st))) (fun M1 => M1 = M)) := by
  have h := k_countBoth hG.2.2.2 (c := 1) (c2 := 3) (by omega) (by omega) (nI m) (nI st)
  have e : cnt (fun r => fs (r * 6 + 1) = nI m ∧ fs (r * 6 + 3) = nI st) (P 7) = cntM P m st := cnt_cong fun s hs => by
    have hi := hI.s hs
    have hb := hI.b
    rw [hr.s 1 hs (by omega), hr.s 3 hs (by omega), nI_eq (by omega) hm, nI_eq (by omega) hst]
  rw [e] at h
  exact h
theorem g_cS (hG : LodgeG M a P fc fm fs) (hr : RelA P fc fm fs) (hI : Inv P) {st : Nat} (hst : st < 2147483648) : Run iX8_count [.ref (a + 5), .int (nI 3), .int (nI st)] M 0 0 (RV (.int (nI (cntS P st))) (fun M1 => M1 = M)) := by
  have h := k_count hG.2.2.2 (c := 3) (by omega) (nI st)
  have e : cnt (fun r => fs (r * 6 + 3) = nI st) (P 7) = cntS P st := cnt_cong fun s hs => by
    have hi := hI.s hs
    rw [hr.s 3 hs (by omega), nI_eq (by omega) hst]
  rw [e] at h
  exact h
theorem g_fS (hG : LodgeG M a P fc fm fs) (hr : RelA P fc fm fs) (hI : Inv P) {st : Nat} (hst : st < 2147483648) : Run iX8_firstWith [.ref (a + 5), .int (nI 3), .int (nI st)] M 0 0 (RV (.int (orNone (fst (fun s => P (50 + 6 * s + 3) = st) (P 7)) (P 7))) (fun M1 => M1 = M)) := by
  have h := k_firstWith hG.2.2.2 (c := 3) (by omega) (nI st)
  have e : fst (fun r => fs (r * 6 + 3) = nI st) (P 7) = fst (fun s => P (50 + 6 * s + 3) = st) (P 7) := fst_cong fun s hs => by
    have hi := hI.s hs
    rw [hr.s 3 hs (by omega), nI_eq (by omega) hst]
  rw [e] at h
  exact h
theorem g_owed (hG : LodgeG M a P fc fm fs) (hr : RelA P fc fm fs) : Run iX8_sum [.ref (a + 3), .int (nI 3)] M 0 0 (RV (.int (nI (owedAll P))) (fun M1 => M1 = M)) :=
  k_sum hG.2.2.1 (c := 3) (by omega) (fun m => P (26 + 4 * m + 3)) (fun m hm => hr.m 3 hm (by omega))
end
