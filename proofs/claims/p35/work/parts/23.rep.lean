/-! The class's object, the state it stands for, what a call answers. -/
abbrev St := Nat × (Nat → Nat) × (Nat → Nat) × Nat × (Nat → Nat → Nat) × (Nat → Nat) × (Nat → Nat → Nat)
abbrev sN (S : St) : Nat := S.1
abbrev sT (S : St) : Nat → Nat := S.2.1
abbrev sP (S : St) : Nat → Nat := S.2.2.1
abbrev sM (S : St) : Nat := S.2.2.2.1
abbrev sH (S : St) : Nat → Nat → Nat := S.2.2.2.2.1
abbrev sB (S : St) : Nat → Nat := S.2.2.2.2.2.1
abbrev sK (S : St) : Nat → Nat → Nat := S.2.2.2.2.2.2
abbrev wP (S : St) (P : Nat → Nat) : St := (sN S, sT S, P, sM S, sH S, sB S, sK S)
/-- the page P, the one before remembered -/
abbrev wA (S : St) (P : Nat → Nat) : St := (sN S, sT S, P, min (sM S + 1) 14, noteH (sM S) (sH S) (sP S), sB S, sK S)
/-- every page of the state is sound; no day is past D -/
def SInv (D : Nat) (S : St) : Prop := (Inv (sP S) ∧ (sP S) 1 ≤ D) ∧ (∀ j, j < (sM S) → Inv ((sH S) j) ∧ (sH S) j 1 ≤ D) ∧ ∀ i, i < 2 → (sB S) i = 1 → Inv ((sK S) i) ∧ (sK S) i 1 ≤ D
def RepX (M : PH) (x : Nat) (S : St) : Prop := M.2 x = some (.inr (7, [.ref (x + 1), .ref (x + 3), .ref (x + 10), .ref (x + 17), .ref (x + 117), .ref (x + 134)])) ∧ x + 137 ≤ M.1 ∧ TextAt M (x + 1) (x + 2) (sN S) (sT S) ∧ LodgeAt M (x + 3) (sP S) ∧ (∃ Q, LodgeAt M (x + 10) Q) ∧ (∃ nx, RingAt M (x + 17) nx (sM S) (sH S)) ∧ ShelfAt M (x + 117) (sB S) (sK S) ∧ ∃ L W, ForeAt M (x + 134) L W
/-- nothing but the object's own cells has changed below the old top -/
def Fr (M M1 : PH) (x : Nat) : Prop := M.1 ≤ M1.1 ∧ ∀ q, q < M.1 → (q < x ∨ x + 137 ≤ q) → M1.2 q = M.2 q
theorem Fr.rf {M : PH} {x : Nat} : Fr M M x := ⟨Nat.le_refl _, fun _ _ _ => rfl⟩
theorem Fr.up {M : PH} {x z : Nat} (h : M.1 ≤ z) : Fr M (z, M.2) x := ⟨h, fun _ _ _ => rfl⟩
theorem Fr.tr {M M1 M2 : PH} {x : Nat} (h : Fr M M1 x) (h2 : Fr M1 M2 x) : Fr M M2 x := ⟨Nat.le_trans h.1 h2.1, fun q g1 g2 => (h2.2 q (Nat.lt_of_lt_of_le g1 h.1) g2).trans (h.2 q g1 g2)⟩
theorem Same.fr {M M1 : PH} {x lo hi : Nat} (h : Same M M1 lo hi) (h1 : x ≤ lo) (h2 : hi ≤ x + 137) : Fr M M1 x := ⟨Nat.le_of_eq h.1.symm, fun q _ g2 => h.2 q (by omega)⟩
theorem Same2.fr {M M1 : PH} {x lo hi l2 h2 : Nat} (h : Same2 M M1 lo hi l2 h2) (h1 : x ≤ lo) (h3 : hi ≤ x + 137) (h4 : x ≤ l2) (h5 : h2 ≤ x + 137) : Fr M M1 x := ⟨Nat.le_of_eq h.1.symm, fun q _ g2 => h.2 q (by omega) (by omega)⟩
theorem ForeAt.keep {M M1 : PH} {f : Nat} {L W : Nat → Nat} (h : ForeAt M f L W) (hs : ∀ q, f ≤ q → q < f + 3 → M1.2 q = M.2 q) : ForeAt M1 f L W := ⟨(hs _ (by omega) (by omega)).trans h.1, (hs _ (by omega) (by omega)).trans h.2.1, (hs _ (by omega) (by omega)).trans h.2.2⟩
theorem TextAt.keep {M M1 : PH} {t n : Nat} {T : Nat → Nat} (h : TextAt M t (t + 1) n T) (hs : ∀ q, t ≤ q → q < t + 2 → M1.2 q = M.2 q) : TextAt M1 t (t + 1) n T := ⟨(hs _ (by omega) (by omega)).trans h.1, (hs _ (by omega) (by omega)).trans h.2.1, h.2.2⟩
theorem RepX.keep {M M1 : PH} {x : Nat} {S : St} (h : RepX M x S) (h1 : M.1 ≤ M1.1) (hs : ∀ q, x ≤ q → q < x + 137 → M1.2 q = M.2 q) : RepX M1 x S := by
  obtain ⟨a0, a1, a2, a3, ⟨Q, a4⟩, ⟨nx, a5⟩, a6, L, W, a7⟩ := h
  exact ⟨(hs _ (by omega) (by omega)).trans a0, by omega, a2.keep (fun q g1 g2 => hs q (by omega) (by omega)), a3.keep (fun q g1 g2 => hs q (by omega) (by omega)), ⟨Q, a4.keep (fun q g1 g2 => hs q (by omega) (by omega))⟩, ⟨nx, a5.keep (fun q g1 g2 => hs q (by omega) (by omega))⟩, a6.keep (fun q g1 g2 => hs q (by omega) (by omega)), L, W, a7.keep (fun q g1 g2 => hs q (by omega) (by omega))⟩
theorem RepX.up {M : PH} {x z : Nat} {S : St} (h : RepX M x S) (h1 : M.1 ≤ z) : RepX (z, M.2) x S := h.keep h1 (fun _ _ _ => rfl)
abbrev RS := Nat × Int32 × St
/-- a call's outcome: r the answer by the document: 0 or the number of the exception, the value, the state behind -/
def QX (M : PH) (x : Nat) (E : Nat → String) (r : RS) : OC → PH → Prop := fun o M1 => RepX M1 x r.2.2 ∧ Fr M M1 x ∧ o = if r.1 = 0 then .inl (some (.int r.2.1)) else .inr (E r.1)
theorem QX.ok {M M1 : PH} {x : Nat} {E : Nat → String} {r : RS} {v : Int32} {S : St} (h : r = (0, v, S)) (hX : RepX M1 x S) (hf : Fr M M1 x) : QX M x E r (.inl (some (.int v))) M1 := by
  subst h
  exact ⟨hX, hf, rfl⟩
theorem QX.no {M M1 : PH} {x : Nat} {E : Nat → String} {r : RS} {e : String} (k : Nat) {v : Int32} {S : St} (h : r = (k + 1, v, S)) (hE : E (k + 1) = e) (hX : RepX M1 x S) (hf : Fr M M1 x) : QX M x E r (.inr e) M1 := by
  subst h
  exact ⟨hX, hf, by rw [if_neg (Nat.succ_ne_zero k), hE]⟩
abbrev xB : String := "java/lang/IndexOutOfBoundsException"
abbrev xA : String := "java/lang/IllegalArgumentException"
abbrev xS : String := "java/lang/IllegalStateException"
def EX (a b c : String) : Nat → String := fun k => if k = 1 then a else if k = 2 then b else c
/-- a number below R -/
abbrev inI (c : Int32) (R : Nat) : Prop := 0 ≤ c ∧ c < nI R
/-- from lo to hi -/
abbrev inW (c : Int32) (lo hi : Nat) : Prop := nI lo ≤ c ∧ c ≤ nI hi
def idx (c : Int32) : Nat := c.toInt.toNat
theorem idx_n {k : Nat} (h : k < 2147483648) : idx (nI k) = k := by
  rw [idx, nI_toInt h]
  rfl
theorem nI_get {c : Int32} (h : 0 ≤ c) : ∃ k, k < 2147483648 ∧ c = nI k := by
  have h1 : 0 ≤ c.toInt := Int32.le_iff_toInt_le.mp h
  have h2 := Int32.toInt_lt c
  refine ⟨c.toInt.toNat, by omega, ?_⟩
  apply Int32.toInt_inj.mp
  rw [nI_toInt (by omega)]
  omega
theorem inI_n {c : Int32} {R : Nat} (h : inI c R) (hR : R < 2147483648) : ∃ k, k < R ∧ c = nI k := by
  obtain ⟨k, hk, rfl⟩   := nI_get h.1
  exact ⟨k, (nI_ltI hk hR).mp h.2, rfl⟩
theorem inI_b {c : Int32} {R : Nat} (h : ¬ inI c R) : badR c R := by
  by_cases h0 : 0 ≤ c
  · exact Or.inr (Int32.not_lt.mp (fun q => h ⟨h0, q⟩))
  · exact Or.inl (Int32.not_le.mp h0)
theorem inI_i {k R : Nat} (h : k < R) (hR : R < 2147483648) : inI (nI k) R := ⟨nI_pos' (by omega), (nI_ltI (by omega) hR).mpr h⟩
theorem inW_n {c : Int32} {lo hi : Nat} (h : inW c lo hi) (hh : hi < 2147483648) (hl : lo ≤ hi) : ∃ k, lo ≤ k ∧ k ≤ hi ∧ c = nI k := by
  have h0 : 0 ≤ c := Int32.le_trans (nI_pos' (by omega)) h.1
  obtain ⟨k, hk, rfl⟩   := nI_get h0
  exact ⟨k, (nI_leI (by omega) hk).mp h.1, (nI_leI hk hh).mp h.2, rfl⟩
theorem inW_i {k lo hi : Nat} (h1 : lo ≤ k) (h2 : k ≤ hi) (hh : hi < 2147483648) : inW (nI k) lo hi := ⟨(nI_leI (by omega) (by omega)).mpr h1, (nI_leI (by omega) (by omega)).mpr h2⟩
theorem out_tab {c : Int32} {hi : Nat} (h : ¬ inW c 0 hi) (hh : hi < 2147483648) : c.toInt < 0 ∨ (hi : Int) < c.toInt := by
  by_cases h0 : 0 ≤ c
  · obtain ⟨k, hk, rfl⟩   := nI_get h0
    right
    rw [nI_toInt hk]
    have : ¬ k ≤ hi := fun q => h ⟨nI_pos' hk, (nI_leI hk hh).mpr q⟩
    omega
  · left
    have := Int32.not_le.mp h0
    exact Int32.lt_iff_toInt_lt.mp this
theorem i_in {M : PH} {c : Int32} {lo hi : Nat} (h : inW c lo hi) : Run iX10_isWithin [.int c, .int (nI lo), .int (nI hi)] M 0 0 (RV (.int (nI 1)) (fun M1 => M1 = M)) := by
  have t := i_within (M := M) (v := c) (l := nI lo) (h := nI hi)
  rw [bN, if_pos (show nI lo ≤ c ∧ c ≤ nI hi from h)] at t
  exact t
theorem i_out {M : PH} {c : Int32} {lo hi : Nat} (h : ¬ inW c lo hi) : Run iX10_isWithin [.int c, .int (nI lo), .int (nI hi)] M 0 0 (RV (.int (nI 0)) (fun M1 => M1 = M)) := by
  have t := i_within (M := M) (v := c) (l := nI lo) (h := nI hi)
  rw [bN, if_neg (show ¬ (nI lo ≤ c ∧ c ≤ nI hi) from h)] at t
  exact t
