/-! A lodge as a row of 194 numbers: 0 bound, 1 day, 2 frost, 3 paid, 4 days of frost, 5 courses, 6 masons, 7 stones; from 8 three a course, from 26 four a mason, from 50 six a stone. -/
def cntC (P : Nat → Nat) (c st : Nat) : Nat := cnt (fun s => P (50 + 6 * s) = c ∧ P (50 + 6 * s + 3) = st) (P 7)
def cntM (P : Nat → Nat) (m st : Nat) : Nat := cnt (fun s => P (50 + 6 * s + 1) = m ∧ P (50 + 6 * s + 3) = st) (P 7)
def cntS (P : Nat → Nat) (st : Nat) : Nat := cnt (fun s => P (50 + 6 * s + 3) = st) (P 7)
def lacks (P : Nat → Nat) (c : Nat) : Nat := P (8 + 3 * c + 2) - (cntC P c 3 + cntC P c 1)
def compl (P : Nat → Nat) : Nat := fst (fun c => ¬ P (8 + 3 * c + 2) ≤ cntC P c 3) (P 5)
def why (P : Nat → Nat) (s : Nat) : Nat := if P (50 + 6 * s + 3) ≠ 1 then 1 else if P 2 ≠ 0 then 2 else if compl P < P (50 + 6 * s) then 3 else if P (50 + 6 * s) < compl P then 4 else 0
def owedAll (P : Nat → Nat) : Nat := sumN (fun m => P (26 + 4 * m + 3)) (P 6)
def price (P : Nat → Nat) (s : Nat) : Nat := if 0 < P (50 + 6 * s + 4) then P (8 + 3 * P (50 + 6 * s) + 1) * P (26 + 4 * P (50 + 6 * s + 1)) / 2 else P (8 + 3 * P (50 + 6 * s) + 1) * P (26 + 4 * P (50 + 6 * s + 1))
def newStoneP (P : Nat → Nat) (m c f : Nat) : Nat → Nat := updN (updN (updN (updN (updN (updN (updN P (50 + 6 * P 7) c) (50 + 6 * P 7 + 1) m) (50 + 6 * P 7 + 2) f) (50 + 6 * P 7 + 3) 0) (50 + 6 * P 7 + 4) 0) (50 + 6 * P 7 + 5) m) 7 (P 7 + 1)
def newCourseP (P : Nat → Nat) (x y z : Nat) : Nat → Nat := updN (updN (updN (updN P (8 + 3 * P 5) x) (8 + 3 * P 5 + 1) y) (8 + 3 * P 5 + 2) z) 5 (P 5 + 1)
def newMasonP (P : Nat → Nat) (x y : Nat) : Nat → Nat := updN (updN (updN (updN (updN P (26 + 4 * P 6) x) (26 + 4 * P 6 + 1) y) (26 + 4 * P 6 + 2) 0) (26 + 4 * P 6 + 3) 0) 6 (P 6 + 1)
def cutP (P : Nat → Nat) (m c f : Nat) : Nat → Nat := newStoneP (updN P (26 + 4 * m + 2) (P (26 + 4 * m + 2) - P (8 + 3 * c + 1))) m c f
def stateP (P : Nat → Nat) (s st : Nat) : Nat → Nat := updN P (50 + 6 * s + 3) st
def inspectP (P : Nat → Nat) (s : Nat) : Nat → Nat := if P 0 < P (50 + 6 * s + 2) then stateP P s 2 else updN (stateP P s 1) (26 + 4 * P (50 + 6 * s + 1) + 3) (P (26 + 4 * P (50 + 6 * s + 1) + 3) + price P s)
abbrev canCut (P : Nat → Nat) (m c : Nat) : Prop := P (8 + 3 * c + 1) ≤ P (26 + 4 * m + 2) ∧ P 7 < 24
abbrev canRecut (P : Nat → Nat) (m s c : Nat) : Prop := P (50 + 6 * s + 3) = 2 ∧ P (8 + 3 * c) < P (8 + 3 * P (50 + 6 * s)) ∧ (P (8 + 3 * c + 1) + 1) / 2 ≤ P (26 + 4 * m + 2)
def recutF (P : Nat → Nat) (s c : Nat) : Nat := P (50 + 6 * s + 2) - (P (8 + 3 * P (50 + 6 * s)) - P (8 + 3 * c))
def recutP (P : Nat → Nat) (m s c : Nat) : Nat → Nat := updN (updN (updN (updN (updN (updN P (26 + 4 * m + 2) (P (26 + 4 * m + 2) - (P (8 + 3 * c + 1) + 1) / 2)) (50 + 6 * s) c) (50 + 6 * s + 1) m) (50 + 6 * s + 2) (recutF P s c)) (50 + 6 * s + 3) 0) (50 + 6 * s + 4) (P (50 + 6 * s + 4) + 1)
/-- masons below m are given their work, and their pence if there is frost -/
def dayAt (P : Nat → Nat) (fr m : Nat) : Nat → Nat := fun k => if k = 1 then P 1 + 1 else if k = 2 then fr else if k = 4 then P 4 + fr else if 26 ≤ k ∧ k < 26 + 4 * m ∧ (k - 26) % 4 = 2 then (if fr = 1 then 0 else P (k - 1)) else if 26 ≤ k ∧ k < 26 + 4 * m ∧ (k - 26) % 4 = 3 then P k + (if fr = 1 then 2 * P (k - 3) else 0) else P k
def dayP (P : Nat → Nat) (fr : Nat) : Nat → Nat := dayAt P fr (P 6)
def payAt (P : Nat → Nat) (m : Nat) : Nat → Nat := fun k => if 26 ≤ k ∧ k < 26 + 4 * m ∧ (k - 26) % 4 = 3 then 0 else P k
def payP (P : Nat → Nat) : Nat → Nat := updN (payAt P (P 6)) 3 (P 3 + owedAll P)
def wallP (P : Nat → Nat) : Prop := ∀ c, c < P 5 → cntC P c 3 ≤ P (8 + 3 * c + 2) ∧ (cntC P c 3 < P (8 + 3 * c + 2) → ∀ d, c < d → d < P 5 → cntC P d 3 = 0)
def Inv (P : Nat → Nat) : Prop := P 0 ≤ 9 ∧ P 2 ≤ 1 ∧ P 5 ≤ 6 ∧ P 6 ≤ 6 ∧ P 7 ≤ 24 ∧ P 1 < 100000 ∧
  (∀ c, c < P 5 → 1 ≤ P (8 + 3 * c) ∧ P (8 + 3 * c) ≤ 9 ∧ 1 ≤ P (8 + 3 * c + 1) ∧ P (8 + 3 * c + 1) ≤ 6 ∧ 1 ≤ P (8 + 3 * c + 2) ∧ P (8 + 3 * c + 2) ≤ 9) ∧
  (∀ m, m < P 6 → 1 ≤ P (26 + 4 * m) ∧ P (26 + 4 * m) ≤ 9 ∧ 1 ≤ P (26 + 4 * m + 1) ∧ P (26 + 4 * m + 1) ≤ 12 ∧ P (26 + 4 * m + 2) ≤ 12) ∧
  (∀ s, s < P 7 → P (50 + 6 * s) < P 5 ∧ P (50 + 6 * s + 1) < P 6 ∧ P (50 + 6 * s + 2) ≤ 9 ∧ P (50 + 6 * s + 3) ≤ 4 ∧ P (50 + 6 * s + 4) + P (8 + 3 * P (50 + 6 * s)) ≤ 9 ∧ P (50 + 6 * s + 5) < P 6) ∧ wallP P
/-- a lodge object at a: its tables, their arrays -/
def LodgeG (M : PH) (a : Nat) (P : Nat → Nat) (fc fm fs : Nat → Int32) : Prop := M.2 a = some (.inr (1, [.ref (a + 1), .ref (a + 3), .ref (a + 5), .int (nI (P 1)), .int (nI (P 2)), .int (nI (P 0)), .int (nI (P 3)), .int (nI (P 4))])) ∧ TabAt M (a + 1) (a + 2) 3 6 (P 5) fc ∧ TabAt M (a + 3) (a + 4) 4 6 (P 6) fm ∧ TabAt M (a + 5) (a + 6) 6 24 (P 7) fs
def RelA (P : Nat → Nat) (fc fm fs : Nat → Int32) : Prop := (∀ c j, c < P 5 → j < 3 → fc (c * 3 + j) = nI (P (8 + 3 * c + j))) ∧ (∀ m j, m < P 6 → j < 4 → fm (m * 4 + j) = nI (P (26 + 4 * m + j))) ∧ (∀ s j, s < P 7 → j < 6 → fs (s * 6 + j) = nI (P (50 + 6 * s + j)))
def LodgeAt (M : PH) (a : Nat) (P : Nat → Nat) : Prop := ∃ fc fm fs, LodgeG M a P fc fm fs ∧ RelA P fc fm fs
def Same (M M1 : PH) (lo hi : Nat) : Prop := M1.1 = M.1 ∧ ∀ q, (q < lo ∨ hi ≤ q) → M1.2 q = M.2 q
theorem Same.rf {M : PH} {lo hi : Nat} : Same M M lo hi := ⟨rfl, fun _ _ => rfl⟩
theorem Same.tr {M M1 M2 : PH} {lo hi : Nat} (h1 : Same M M1 lo hi) (h2 : Same M1 M2 lo hi) : Same M M2 lo hi := ⟨h2.1.trans h1.1, fun q hq => (h2.2 q hq).trans (h1.2 q hq)⟩
theorem Same.put {M : PH} {lo hi a : Nat} {x : va_E} (h1 : lo ≤ a) (h2 : a < hi) : Same M (hput M a x) lo hi := ⟨rfl, fun q hq => hput_ne (by omega)⟩
theorem TabAt.keep {M M1 : PH} {t ar w lim R : Nat} {f : Nat → Int32} (h : TabAt M t ar w lim R f) (h1 : M1.2 t = M.2 t) (h2 : M1.2 ar = M.2 ar) : TabAt M1 t ar w lim R f := ⟨h1.trans h.1, h2.trans h.2.1, h.2.2⟩
theorem LodgeAt.keep {M M1 : PH} {a : Nat} {P : Nat → Nat} (h : LodgeAt M a P) (hs : ∀ q, a ≤ q → q < a + 7 → M1.2 q = M.2 q) : LodgeAt M1 a P := by
  obtain ⟨fc, fm, fs, ⟨h0, h1, h2, h3⟩, hr⟩ := h
  exact ⟨fc, fm, fs, ⟨(hs _ (by omega) (by omega)).trans h0, h1.keep (hs _ (by omega) (by omega)) (hs _ (by omega) (by omega)), h2.keep (hs _ (by omega) (by omega)) (hs _ (by omega) (by omega)), h3.keep (hs _ (by omega) (by omega)) (hs _ (by omega) (by omega))⟩, hr⟩
-- what a lodge's tables answer
section
variable {M : PH} {a : Nat} {P : Nat → Nat} {fc fm fs : Nat → Int32}
theorem LodgeG.put_c {v : Int32} {k : Nat} (h : LodgeG M a P fc fm fs) : LodgeG (hput M (a + 2) (.inl (0, 3 * 6, .inl (upd fc k v)))) a P (upd fc k v) fm fs := by
  obtain ⟨h0, ⟨h1, h2, h3⟩, h4, h5⟩ := h
  exact ⟨(hput_ne (by omega)).trans h0, ⟨(hput_ne (by omega)).trans h1, hput_at _ _ _, h3⟩, h4.keep (hput_ne (by omega)) (hput_ne (by omega)), h5.keep (hput_ne (by omega)) (hput_ne (by omega))⟩
theorem LodgeG.put_m {v : Int32} {k : Nat} (h : LodgeG M a P fc fm fs) : LodgeG (hput M (a + 4) (.inl (0, 4 * 6, .inl (upd fm k v)))) a P fc (upd fm k v) fs := by
  obtain ⟨h0, h4, ⟨h1, h2, h3⟩, h5⟩ := h
  exact ⟨(hput_ne (by omega)).trans h0, h4.keep (hput_ne (by omega)) (hput_ne (by omega)), ⟨(hput_ne (by omega)).trans h1, hput_at _ _ _, h3⟩, h5.keep (hput_ne (by omega)) (hput_ne (by omega))⟩
theorem LodgeG.put_s {v : Int32} {k : Nat} (h : LodgeG M a P fc fm fs) : LodgeG (hput M (a + 6) (.inl (0, 6 * 24, .inl (upd fs k v)))) a P fc fm (upd fs k v) := by
  obtain ⟨h0, h4, h5, ⟨h1, h2, h3⟩⟩ := h
  exact ⟨(hput_ne (by omega)).trans h0, h4.keep (hput_ne (by omega)) (hput_ne (by omega)), h5.keep (hput_ne (by omega)) (hput_ne (by omega)), ⟨(hput_ne (by omega)).trans h1, hput_at _ _ _, h3⟩⟩
theorem LodgeG.rows_c {R : Nat} (h : LodgeG M a P fc fm fs) (hR : R ≤ 6) : LodgeG (hput M (a + 1) (.inr (5, [.ref (a + 2), .int (nI 3), .int (nI 6), .int (nI R)]))) a (updN P 5 R) fc fm fs := by
  obtain ⟨h0, ⟨h1, h2, h3⟩, h4, h5⟩ := h
  exact ⟨(hput_ne (by omega)).trans h0, ⟨hput_at _ _ _, (hput_ne (by omega)).trans h2, by rw [updN_at]; exact hR, h3.2⟩, h4.keep (hput_ne (by omega)) (hput_ne (by omega)), h5.keep (hput_ne (by omega)) (hput_ne (by omega))⟩
theorem LodgeG.rows_m {R : Nat} (h : LodgeG M a P fc fm fs) (hR : R ≤ 6) : LodgeG (hput M (a + 3) (.inr (5, [.ref (a + 4), .int (nI 4), .int (nI 6), .int (nI R)]))) a (updN P 6 R) fc fm fs := by
  obtain ⟨h0, h4, ⟨h1, h2, h3⟩, h5⟩ := h
  exact ⟨(hput_ne (by omega)).trans h0, h4.keep (hput_ne (by omega)) (hput_ne (by omega)), ⟨hput_at _ _ _, (hput_ne (by omega)).trans h2, by rw [updN_at]; exact hR, h3.2⟩, h5.keep (hput_ne (by omega)) (hput_ne (by omega))⟩
theorem LodgeG.rows_s {R : Nat} (h : LodgeG M a P fc fm fs) (hR : R ≤ 24) : LodgeG (hput M (a + 5) (.inr (5, [.ref (a + 6), .int (nI 6), .int (nI 24), .int (nI R)]))) a (updN P 7 R) fc fm fs := by
  obtain ⟨h0, h4, h5, ⟨h1, h2, h3⟩⟩ := h
  exact ⟨(hput_ne (by omega)).trans h0, h4.keep (hput_ne (by omega)) (hput_ne (by omega)), h5.keep (hput_ne (by omega)) (hput_ne (by omega)), ⟨hput_at _ _ _, (hput_ne (by omega)).trans h2, by rw [updN_at]; exact hR, h3.2⟩⟩
/-- another row of numbers with the same numbers of its own -/
theorem LodgeG.cong {P1 : Nat → Nat} (h : LodgeG M a P fc fm fs) (h9 : ∀ k, k < 8 → P1 k = P k) : LodgeG M a P1 fc fm fs := by
  obtain ⟨h0, h1, h2, h3⟩ := h
  refine ⟨?_, ?_, ?_, ?_⟩
  · rw [h9 0 (by omega), h9 1 (by omega), h9 2 (by omega), h9 3 (by omega), h9 4 (by omega)]; exact h0
  · rw [h9 5 (by omega)]; exact h1
  · rw [h9 6 (by omega)]; exact h2
  · rw [h9 7 (by omega)]; exact h3
theorem RelA.c (h : RelA P fc fm fs) {c : Nat} (j : Nat) (hc : c < P 5) (hj : j < 3) : fc (c * 3 + j) = nI (P (8 + 3 * c + j)) := h.1 c j hc hj
theorem RelA.m (h : RelA P fc fm fs) {m : Nat} (j : Nat) (hm : m < P 6) (hj : j < 4) : fm (m * 4 + j) = nI (P (26 + 4 * m + j)) := h.2.1 m j hm hj
theorem RelA.s (h : RelA P fc fm fs) {s : Nat} (j : Nat) (hs : s < P 7) (hj : j < 6) : fs (s * 6 + j) = nI (P (50 + 6 * s + j)) := h.2.2 s j hs hj
end
