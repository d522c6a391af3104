/-! Forecast: in how many days what lacks could be cut. F: faces by course, C: courses, L: what lacks, W: work by mason. -/
def nextC (F : Nat → Nat) (C : Nat) (L : Nat → Nat) (w : Nat) : Nat := fst (fun c => 0 < L c ∧ F c ≤ w) C
def runL (F : Nat → Nat) (C : Nat) : Nat → (Nat → Nat) → Nat → (Nat → Nat)
  | 0, L, _ => L
  | n + 1, L, w => if nextC F C L w < C then runL F C n (updN L (nextC F C L w) (L (nextC F C L w) - 1)) (w - F (nextC F C L w)) else L
def masL (F : Nat → Nat) (C : Nat) (W : Nat → Nat) : Nat → (Nat → Nat) → (Nat → Nat)
  | 0, L => L
  | m + 1, L => runL F C 12 (masL F C W m L) (W m)
theorem nextC_cong {F L L1 : Nat → Nat} {C w : Nat} (h : ∀ c, c < C → L c = L1 c) : nextC F C L w = nextC F C L1 w := fst_cong (fun k hk => by rw [h k hk])
theorem runL_cong {F : Nat → Nat} {C : Nat} : ∀ {n : Nat} {L L1 : Nat → Nat} {w : Nat}, (∀ c, c < C → L c = L1 c) → ∀ c, c < C → runL F C n L w c = runL F C n L1 w c
  | 0, L, L1, w, h, c, hc => h c hc
  | n + 1, L, L1, w, h, c, hc => by
    rw [runL, runL, nextC_cong h]
    split
    · rename_i h9
      refine runL_cong (fun d hd => ?_) c hc
      unfold updN
      rw [h _ h9, h d hd]
    · exact h c hc
theorem runL_hi {F : Nat → Nat} {C : Nat} : ∀ {n : Nat} {L : Nat → Nat} {w c : Nat}, C ≤ c → runL F C n L w c = L c
  | 0, L, w, c, hc => rfl
  | n + 1, L, w, c, hc => by
    rw [runL]
    split
    · rw [runL_hi hc, updN_ne (by omega)]
    · rfl
theorem runL_le {F : Nat → Nat} {C : Nat} : ∀ {n : Nat} {L : Nat → Nat} {w c : Nat}, runL F C n L w c ≤ L c
  | 0, L, w, c => Nat.le_refl _
  | n + 1, L, w, c => by
    rw [runL]
    split
    · refine Nat.le_trans runL_le ?_
      unfold updN
      split
      · rename_i h; subst h; omega
      · exact Nat.le_refl _
    · exact Nat.le_refl _
theorem runL_no {F L : Nat → Nat} {C w n : Nat} (h : ¬ nextC F C L w < C) : runL F C n L w = L := by
  cases n with
  | zero => rfl
  | succ n => rw [runL, if_neg h]
theorem runL_0 {F L : Nat → Nat} {C n : Nat} (hF : ∀ c, c < C → 1 ≤ F c) : runL F C n L 0 = L := by
  apply runL_no
  rw [nextC, fst_none (fun j hj h => by have := hF j hj; omega)]
  exact Nat.lt_irrefl _
theorem masL_cong {F : Nat → Nat} {C : Nat} {W W1 L L1 : Nat → Nat} (h : ∀ c, c < C → L c = L1 c) : ∀ {k : Nat}, (∀ m, m < k → W m = W1 m) → ∀ c, c < C → masL F C W k L c = masL F C W1 k L1 c
  | 0, hW, c, hc => h c hc
  | k + 1, hW, c, hc => by
    rw [masL, masL, hW k (by omega)]
    exact runL_cong (masL_cong h (fun m hm => hW m (by omega))) c hc
theorem masL_hi {F : Nat → Nat} {C : Nat} {W L : Nat → Nat} {c : Nat} (hc : C ≤ c) : ∀ {k : Nat}, masL F C W k L c = L c
  | 0 => rfl
  | k + 1 => by rw [masL, runL_hi hc, masL_hi hc]
theorem masL_le {F : Nat → Nat} {C : Nat} {W L : Nat → Nat} {c : Nat} : ∀ {k : Nat}, masL F C W k L c ≤ L c
  | 0 => Nat.le_refl _
  | k + 1 => by rw [masL]; exact Nat.le_trans runL_le masL_le
theorem masL_0 {F : Nat → Nat} {C : Nat} {W L : Nat → Nat} {m : Nat} (hF : ∀ c, c < C → 1 ≤ F c) (hW : ∀ k, m ≤ k → W k = 0) : ∀ {k : Nat}, m ≤ k → masL F C W k L = masL F C W m L
  | 0, hk => by rw [show m = 0 by omega]
  | k + 1, hk => by
    by_cases h : m = k + 1
    · rw [h]
    · rw [masL, hW k (by omega), runL_0 hF, masL_0 hF hW (by omega)]
theorem upd1_le {L : Nat → Nat} {k c : Nat} : updN L k (L k - 1) c ≤ L c := by
  unfold updN
  split
  · rename_i h; subst h; omega
  · exact Nat.le_refl _
theorem nof9 {L F : Nat → Nat} {j c w : Nat} (h : j = c) (h1 : 0 < L j) (h2 : F j ≤ w) (h3 : L c = 0 ∨ w < F c) : False := by
  subst h
  omega
abbrev facF (P : Nat → Nat) : Nat → Nat := fun c => P (8 + 3 * c + 1)
def lackL (P : Nat → Nat) : Nat → Nat := fun c => if c < P 5 then lacks P c else 0
def wkW (P : Nat → Nat) (col : Nat) : Nat → Nat := fun m => if m < P 6 then P (26 + 4 * m + col) else 0
/-- what lacks after d days -/
def dayL (P : Nat → Nat) (L : Nat → Nat) : Nat → (Nat → Nat)
  | 0 => L
  | d + 1 => masL (facF P) (P 5) (wkW P (if d = 0 then 2 else 1)) 6 (dayL P L d)
def daysP (P : Nat → Nat) : Int32 := orNone (fst (fun d => ∀ c, c < P 5 → dayL P (lackL P) d c = 0) 100) 100
def ForeAt (M : PH) (f : Nat) (L W : Nat → Nat) : Prop := M.2 f = some (.inr (0, [.ref (f + 1), .ref (f + 2)])) ∧ M.2 (f + 1) = some (.inl (0, 6, .inl (pg L))) ∧ M.2 (f + 2) = some (.inl (0, 6, .inl (pg W)))
section
variable {M : PH} {f a : Nat} {P L W : Nat → Nat}
theorem ForeAt.putL (h : ForeAt M f L W) (L1 : Nat → Nat) : ForeAt (hput M (f + 1) (.inl (0, 6, .inl (pg L1)))) f L1 W := ⟨(hput_ne (by omega)).trans h.1, hput_at _ _ _, (hput_ne (by omega)).trans h.2.2⟩
theorem ForeAt.putW (h : ForeAt M f L W) (W1 : Nat → Nat) : ForeAt (hput M (f + 2) (.inl (0, 6, .inl (pg W1)))) f L W1 := ⟨(hput_ne (by omega)).trans h.1, (hput_ne (by omega)).trans h.2.1, hput_at _ _ _⟩
theorem LodgeAt.far (h : LodgeAt M a P) {M1 : PH} {lo hi : Nat} (hs : Same M M1 lo hi) (hd : hi ≤ a ∨ a + 7 ≤ lo) : LodgeAt M1 a P := h.keep (fun q h1 h2 => hs.2 q (by omega))
end
set_option maxHeartbeats 200000 in
set_option maxRecDepth 100000 in
theorem f_any {M : PH} {f : Nat} {L W : Nat → Nat} (hF : ForeAt M f L W) (hl : ∀ c, c < 6 → L c ≤ 9) : Run iX1_isAnyLacking [.ref f] M 0 0 (RV (.int (nI (bN (fst (fun c => 0 < L c) 6 < 6)))) (fun M1 => M1 = M)) := by
  refine Run.of (l0 := [some (.ref f), none]) (by decide +kernel) (Nat.le_of_ble_eq_true rfl) (by rfl) (fun Γ G C => ?_)
  have loop : ∀ (d c : Nat), c + d = 6 → (∀ j, j < c → L j = 0) → PW Γ G (ZJ Γ G 0 0 (RV (.int (nI (bN (fst (fun c => 0 < L c) 6 < 6)))) (fun M1 => M1 = M))) 2 [some (.ref f), some (.int (nI c))] [] M 0 0 := by
    intro d
    induction d with
    | zero =>
      intro c hd
      intro hno
      refine pw_iload_n (q := 3) (j := 1) C dX1_isAnyLacking_2 rfl rfl rfl ?_
      refine pw_aload_n (q := 4) (j := 0) C dX1_isAnyLacking_3 rfl rfl rfl ?_
      refine pw_getf (q := 7) C dX1_isAnyLacking_4 fX1_9 hF.1 (by rfl) rfl ?_
      refine pw_alen_n (q := 8) C dX1_isAnyLacking_7 hF.2.1 (by rfl) rfl ?_
      refine pw_icmp_ge_n (q := 11) 28 C dX1_isAnyLacking_8 (by decide) rfl (by omega) (by omega) (fun g8 => ?_) (fun g8 => absurd g8 (by omega))
      refine pw_iconst_n (q := 29) C 0 dX1_isAnyLacking_28 (by decide +kernel) rfl ?_
      exact pw_zret C dX1_isAnyLacking_29 rfl (by first | decide +kernel | exact nar_bN _ | exact nar_01 (by omega)) ⟨by omega, by omega⟩ (RV.mk (v0 (by rw [fst_none (fun j hj => by rw [hno j (by omega)]; exact Nat.lt_irrefl 0)]; exact Nat.lt_irrefl 6)) rfl)
    | succ d ih =>
      intro c hd
      intro hno
      refine pw_iload_n (q := 3) (j := 1) C dX1_isAnyLacking_2 rfl rfl rfl ?_
      refine pw_aload_n (q := 4) (j := 0) C dX1_isAnyLacking_3 rfl rfl rfl ?_
      refine pw_getf (q := 7) C dX1_isAnyLacking_4 fX1_9 hF.1 (by rfl) rfl ?_
      refine pw_alen_n (q := 8) C dX1_isAnyLacking_7 hF.2.1 (by rfl) rfl ?_
      refine pw_icmp_ge_n (q := 11) 28 C dX1_isAnyLacking_8 (by decide) rfl (by omega) (by omega) (fun g8 => absurd g8 (by omega)) (fun g8 => ?_)
      refine pw_aload_n (q := 12) (j := 0) C dX1_isAnyLacking_11 rfl rfl rfl ?_
      refine pw_getf (q := 15) C dX1_isAnyLacking_12 fX1_9 hF.1 (by rfl) rfl ?_
      refine pw_iload_n (q := 16) (j := 1) C dX1_isAnyLacking_15 rfl rfl rfl ?_
      have q9 := hl c (by omega)
      refine pw_ipg (q := 17) C dX1_isAnyLacking_16 hF.2.1 (by omega) (by omega) rfl ?_
      refine pw_if_le_n (q := 20) 22 C dX1_isAnyLacking_17 (by decide) rfl (by omega) (fun g17 => ?_) (fun g17 => ?_)
      · refine pw_iinc_n (q := 25) C 1 dX1_isAnyLacking_22 rfl (by decide +kernel) rfl (by decide) rfl ?_
        refine pw_goto (q := 0) 2 C dX1_isAnyLacking_25 (by decide) ?_
        exact ih (c + 1) (by omega) (fun j hj => (Nat.lt_succ_iff_lt_or_eq.mp hj).elim (hno j) (fun h => by rw [h]; omega))
      · refine pw_iconst_n (q := 21) C 1 dX1_isAnyLacking_20 (by decide +kernel) rfl ?_
        exact pw_zret C dX1_isAnyLacking_21 rfl (by first | decide +kernel | exact nar_bN _ | exact nar_01 (by omega)) ⟨by omega, by omega⟩ (RV.mk (v1 (by rw [fst_eq (k := c) (by omega) (by omega) (fun j hj => by rw [hno j hj]; exact Nat.lt_irrefl 0)]; omega)) rfl)
  refine pw_iconst_n (q := 1) C 0 dX1_isAnyLacking_0 (by decide +kernel) rfl ?_
  refine pw_istore_n (q := 2) (j := 1) C dX1_isAnyLacking_1 rfl rfl (by decide) rfl ?_
  exact loop 6 0 (by omega) (fun j h => absurd h (Nat.not_lt_zero j))
set_option maxHeartbeats 200000 in
set_option maxRecDepth 100000 in
theorem f_take {M : PH} {f a : Nat} {P L W : Nat → Nat} (hF : ForeAt M f L W) (hL : LodgeAt M a P) (hI : Inv P) (hd9 : f + 3 ≤ a ∨ a + 7 ≤ f) {col : Nat} (hcol : col < 4) : Run iX1_takeWork [.ref f, .ref a, .int (nI col)] M 0 0 (RN (fun M1 => (∃ W1, ForeAt M1 f L W1 ∧ ∀ m, m < 6 → W1 m = wkW P col m) ∧ Same M M1 f (f + 3))) := by
  have hb := hI.b
  refine Run.of (l0 := [some (.ref f), some (.ref a), some (.int (nI col)), none]) (by decide +kernel) (Nat.le_of_ble_eq_true rfl) (by rfl) (fun Γ G C => ?_)
  have loop : ∀ (d m : Nat), m + d = 6 → ∀ (M2 : PH) (W2 : Nat → Nat), ForeAt M2 f L W2 → Same M M2 f (f + 3) → (∀ j, j < m → W2 j = wkW P col j) → PW Γ G (ZJ Γ G 0 0 (RN (fun M1 => (∃ W1, ForeAt M1 f L W1 ∧ ∀ m, m < 6 → W1 m = wkW P col m) ∧ Same M M1 f (f + 3)))) 2 [some (.ref f), some (.ref a), some (.int (nI col)), some (.int (nI m))] [] M2 0 0 := by
    intro d
    induction d with
    | zero =>
      intro m hd
      intro M2 W2 hF sm hw
      have hL2 := hL.far sm (by omega)
      obtain ⟨fc, fm, fs, hG, hr⟩ := id hL2
      refine pw_iload_n (q := 3) (j := 3) C dX1_takeWork_2 rfl rfl rfl ?_
      refine pw_aload_n (q := 4) (j := 0) C dX1_takeWork_3 rfl rfl rfl ?_
      refine pw_getf (q := 7) C dX1_takeWork_4 fX1_15 hF.1 (by rfl) rfl ?_
      refine pw_alen_n (q := 8) C dX1_takeWork_7 hF.2.2 (by rfl) rfl ?_
      refine pw_icmp_ge_n (q := 11) 32 C dX1_takeWork_8 (by decide) rfl (by omega) (by omega) (fun g8 => ?_) (fun g8 => absurd g8 (by omega))
      exact pw_vret C dX1_takeWork_32 rfl ⟨by omega, by omega⟩ (RN.mk ⟨⟨W2, hF, fun j hj => hw j (by omega)⟩, sm⟩)
    | succ d ih =>
      intro m hd
      intro M2 W2 hF sm hw
      have hL2 := hL.far sm (by omega)
      obtain ⟨fc, fm, fs, hG, hr⟩ := id hL2
      refine pw_iload_n (q := 3) (j := 3) C dX1_takeWork_2 rfl rfl rfl ?_
      refine pw_aload_n (q := 4) (j := 0) C dX1_takeWork_3 rfl rfl rfl ?_
      refine pw_getf (q := 7) C dX1_takeWork_4 fX1_15 hF.1 (by rfl) rfl ?_
      refine pw_alen_n (q := 8) C dX1_takeWork_7 hF.2.2 (by rfl) rfl ?_
      refine pw_icmp_ge_n (q := 11) 32 C dX1_takeWork_8 (by decide) rfl (by omega) (by omega) (fun g8 => absurd g8 (by omega)) (fun g8 => ?_)
      refine pw_aload_n (q := 12) (j := 0) C dX1_takeWork_11 rfl rfl rfl ?_
      refine pw_getf (q := 15) C dX1_takeWork_12 fX1_15 hF.1 (by rfl) rfl ?_
      refine pw_iload_n (q := 16) (j := 3) C dX1_takeWork_15 rfl rfl rfl ?_
      refine pw_aload_n (q := 17) (j := 1) C dX1_takeWork_16 rfl rfl rfl ?_
      refine pw_getf (q := 20) C dX1_takeWork_17 fX1_45 hG.1 (by rfl) rfl ?_
      refine pw_iload_n (q := 21) (j := 3) C dX1_takeWork_20 rfl rfl rfl ?_
      refine pw_iload_n (q := 22) (j := 2) C dX1_takeWork_21 rfl rfl rfl ?_
      by_cases hm : m < P 6
      · refine pw_rd (q := 25) (cr_v (j := iX8_get) C dX1_takeWork_22 lX1_48 mX8_get (ro_mk (by decide) (by decide)) hG.2.2.1.1 rfl (g_m hG hr hm hcol) rfl rfl (Nat.le_of_ble_eq_true rfl) ⟨by omega, by omega⟩) rfl ?_
        refine pw_ipgst (q := 26) C dX1_takeWork_25 hF.2.2 (by omega) (by omega) rfl ?_
        refine pw_iinc_n (q := 29) C 1 dX1_takeWork_26 rfl (by decide +kernel) rfl (by decide) rfl ?_
        refine pw_goto (q := 0) 2 C dX1_takeWork_29 (by decide) ?_
        have hF2 := hF.putW (updN W2 m (P (26 + 4 * m + col)))
        exact ih (m + 1) (by omega) _ _ hF2 (sm.tr (Same.put (by omega) (by omega))) (fun j hj => by
          unfold updN
          split
          · rename_i h; rw [h, wkW, if_pos hm]
          · exact hw j (by omega))
      · refine pw_rd (q := 25) (cr_v (j := iX8_get) C dX1_takeWork_22 lX1_48 mX8_get (ro_mk (by decide) (by decide)) hG.2.2.1.1 rfl (k_get_bad hG.2.2.1 (Or.inr ((nI_leI (by omega) (by omega)).mpr (by omega)))) rfl rfl (Nat.le_of_ble_eq_true rfl) ⟨by omega, by omega⟩) rfl ?_
        refine pw_ipgst (q := 26) C dX1_takeWork_25 hF.2.2 (by omega) (by omega) rfl ?_
        refine pw_iinc_n (q := 29) C 1 dX1_takeWork_26 rfl (by decide +kernel) rfl (by decide) rfl ?_
        refine pw_goto (q := 0) 2 C dX1_takeWork_29 (by decide) ?_
        have hF2 := hF.putW (updN W2 m 0)
        exact ih (m + 1) (by omega) _ _ hF2 (sm.tr (Same.put (by omega) (by omega))) (fun j hj => by
          unfold updN
          split
          · rename_i h; rw [h, wkW, if_neg hm]
          · exact hw j (by omega))
  refine pw_iconst_n (q := 1) C 0 dX1_takeWork_0 (by decide +kernel) rfl ?_
  refine pw_istore_n (q := 2) (j := 3) C dX1_takeWork_1 rfl rfl (by decide) rfl ?_
  exact loop 6 0 (by omega) M W hF Same.rf (fun j h => absurd h (Nat.not_lt_zero j))
set_option maxHeartbeats 200000 in
set_option maxRecDepth 100000 in
theorem f_next {M : PH} {f a : Nat} {P L W : Nat → Nat} (hF : ForeAt M f L W) (hL : LodgeAt M a P) (hI : Inv P) (hd9 : f + 3 ≤ a ∨ a + 7 ≤ f) {w : Nat} (hw : w ≤ 12) (hl : ∀ c, c < 6 → L c ≤ 9) (hz : ∀ c, P 5 ≤ c → c < 6 → L c = 0) : Run iX1_cutNext [.ref f, .ref a, .int (nI w)] M 0 0 (RV (.int (nI (if nextC (facF P) (P 5) L w < P 5 then facF P (nextC (facF P) (P 5) L w) else 0))) (fun M1 => ForeAt M1 f (if nextC (facF P) (P 5) L w < P 5 then updN L (nextC (facF P) (P 5) L w) (L (nextC (facF P) (P 5) L w) - 1) else L) W ∧ Same M M1 f (f + 3))) := by
  obtain ⟨fc, fm, fs, hG, hr⟩ := id hL
  have hb := hI.b
  refine Run.of (l0 := [some (.ref f), some (.ref a), some (.int (nI w)), none, none]) (by decide +kernel) (Nat.le_of_ble_eq_true rfl) (by rfl) (fun Γ G C => ?_)
  have loop : ∀ (d c : Nat), c + d = 6 → ∀ x4 : Option Value, (∀ j, j < c → ¬ (0 < L j ∧ facF P j ≤ w)) → PW Γ G (ZJ Γ G 0 0 (RV (.int (nI (if nextC (facF P) (P 5) L w < P 5 then facF P (nextC (facF P) (P 5) L w) else 0))) (fun M1 => ForeAt M1 f (if nextC (facF P) (P 5) L w < P 5 then updN L (nextC (facF P) (P 5) L w) (L (nextC (facF P) (P 5) L w) - 1) else L) W ∧ Same M M1 f (f + 3)))) 2 [some (.ref f), some (.ref a), some (.int (nI w)), some (.int (nI c)), x4] [] M 0 0 := by
    intro d
    induction d with
    | zero =>
      intro c hd
      intro x4 hno
      refine pw_iload_n (q := 3) (j := 3) C dX1_cutNext_2 rfl rfl rfl ?_
      refine pw_aload_n (q := 4) (j := 0) C dX1_cutNext_3 rfl rfl rfl ?_
      refine pw_getf (q := 7) C dX1_cutNext_4 fX1_9 hF.1 (by rfl) rfl ?_
      refine pw_alen_n (q := 8) C dX1_cutNext_7 hF.2.1 (by rfl) rfl ?_
      refine pw_icmp_ge_n (q := 11) 56 C dX1_cutNext_8 (by decide) rfl (by omega) (by omega) (fun g8 => ?_) (fun g8 => absurd g8 (by omega))
      have hn : ¬ nextC (facF P) (P 5) L w < P 5 := by
        rw [nextC, fst_none (fun j hj => hno j (by omega))]
        exact Nat.lt_irrefl _
      refine pw_iconst_n (q := 57) C 0 dX1_cutNext_56 (by decide +kernel) rfl ?_
      exact pw_iret C dX1_cutNext_57 rfl ⟨by omega, by omega⟩ (RV.mk (by rw [if_neg hn]) ⟨by rw [if_neg hn]; exact hF, Same.rf⟩)
    | succ d ih =>
      intro c hd
      intro x4 hno
      have q9 := hl c (by omega)
      refine pw_iload_n (q := 3) (j := 3) C dX1_cutNext_2 rfl rfl rfl ?_
      refine pw_aload_n (q := 4) (j := 0) C dX1_cutNext_3 rfl rfl rfl ?_
      refine pw_getf (q := 7) C dX1_cutNext_4 fX1_9 hF.1 (by rfl) rfl ?_
      refine pw_alen_n (q := 8) C dX1_cutNext_7 hF.2.1 (by rfl) rfl ?_
      refine pw_icmp_ge_n (q := 11) 56 C dX1_cutNext_8 (by decide) rfl (by omega) (by omega) (fun g8 => absurd g8 (by omega)) (fun g8 => ?_)
      refine pw_aload_n (q := 12) (j := 1) C dX1_cutNext_11 rfl rfl rfl ?_
      refine pw_getf (q := 15) C dX1_cutNext_12 fX1_18 hG.1 (by rfl) rfl ?_
      refine pw_iload_n (q := 16) (j := 3) C dX1_cutNext_15 rfl rfl rfl ?_
      refine pw_iconst_n (q := 17) C 1 dX1_cutNext_16 (by decide +kernel) rfl ?_
      by_cases hc : c < P 5
      · have k9 := hI.c hc
        refine pw_rd (q := 20) (cr_v (j := iX8_get) C dX1_cutNext_17 lX1_48 mX8_get (ro_mk (by decide) (by decide)) hG.2.1.1 rfl (g_c hG hr hc (by omega)) rfl rfl (Nat.le_of_ble_eq_true rfl) ⟨by omega, by omega⟩) rfl ?_
        refine pw_istore (q := 22) C dX1_cutNext_20 rfl (by decide) rfl ?_
        refine pw_aload_n (q := 23) (j := 0) C dX1_cutNext_22 rfl rfl rfl ?_
        refine pw_getf (q := 26) C dX1_cutNext_23 fX1_9 hF.1 (by rfl) rfl ?_
        refine pw_iload_n (q := 27) (j := 3) C dX1_cutNext_26 rfl rfl rfl ?_
        refine pw_ipg (q := 28) C dX1_cutNext_27 hF.2.1 (by omega) (by omega) rfl ?_
        refine pw_if_le_n (q := 31) 50 C dX1_cutNext_28 (by decide) rfl (by omega) (fun g28 => ?_) (fun g28 => ?_)
        · refine pw_iinc_n (q := 53) C 1 dX1_cutNext_50 rfl (by decide +kernel) rfl (by decide) rfl ?_
          refine pw_goto (q := 0) 2 C dX1_cutNext_53 (by decide) ?_
          exact ih (c + 1) (by omega) _ (fun j hj => (Nat.lt_succ_iff_lt_or_eq.mp hj).elim (hno j) (fun h q => nof9 (L := L) (F := facF P) h q.1 q.2 (show L c = 0 ∨ w < P (8 + 3 * c + 1) by omega)))
        · refine pw_iload (q := 33) C dX1_cutNext_31 rfl rfl ?_
          refine pw_iload_n (q := 34) (j := 2) C dX1_cutNext_33 rfl rfl rfl ?_
          refine pw_icmp_gt_n (q := 37) 50 C dX1_cutNext_34 (by decide) rfl (by omega) (by omega) (fun g34 => ?_) (fun g34 => ?_)
          · refine pw_iinc_n (q := 53) C 1 dX1_cutNext_50 rfl (by decide +kernel) rfl (by decide) rfl ?_
            refine pw_goto (q := 0) 2 C dX1_cutNext_53 (by decide) ?_
            exact ih (c + 1) (by omega) _ (fun j hj => (Nat.lt_succ_iff_lt_or_eq.mp hj).elim (hno j) (fun h q => nof9 (L := L) (F := facF P) h q.1 q.2 (show L c = 0 ∨ w < P (8 + 3 * c + 1) by omega)))
          · refine pw_aload_n (q := 38) (j := 0) C dX1_cutNext_37 rfl rfl rfl ?_
            refine pw_getf (q := 41) C dX1_cutNext_38 fX1_9 hF.1 (by rfl) rfl ?_
            refine pw_iload_n (q := 42) (j := 3) C dX1_cutNext_41 rfl rfl rfl ?_
            refine pw_dup2 (q := 43) C dX1_cutNext_42 rfl rfl rfl ?_
            refine pw_ipg (q := 44) C dX1_cutNext_43 hF.2.1 (by omega) (by omega) rfl ?_
            refine pw_iconst_n (q := 45) C 1 dX1_cutNext_44 (by decide +kernel) rfl ?_
            have hn : nextC (facF P) (P 5) L w = c := fst_eq hc ⟨by omega, show P (8 + 3 * c + 1) ≤ w by omega⟩ hno
            refine pw_isub_n (q := 46) C dX1_cutNext_45 (by omega) rfl ?_
            refine pw_ipgst (q := 47) C dX1_cutNext_46 hF.2.1 (by omega) (by omega) rfl ?_
            refine pw_iload (q := 49) C dX1_cutNext_47 rfl rfl ?_
            exact pw_iret C dX1_cutNext_49 rfl ⟨by omega, by omega⟩ (RV.mk (by rw [hn, if_pos hc]) ⟨by rw [hn, if_pos hc]; exact hF.putL _, Same.put (by omega) (by omega)⟩)
      · have k9 := hz c (by omega) (by omega)
        refine pw_rd (q := 20) (cr_v (j := iX8_get) C dX1_cutNext_17 lX1_48 mX8_get (ro_mk (by decide) (by decide)) hG.2.1.1 rfl (k_get_bad hG.2.1 (Or.inr ((nI_leI (by omega) (by omega)).mpr (by omega)))) rfl rfl (Nat.le_of_ble_eq_true rfl) ⟨by omega, by omega⟩) rfl ?_
        refine pw_istore (q := 22) C dX1_cutNext_20 rfl (by decide) rfl ?_
        refine pw_aload_n (q := 23) (j := 0) C dX1_cutNext_22 rfl rfl rfl ?_
        refine pw_getf (q := 26) C dX1_cutNext_23 fX1_9 hF.1 (by rfl) rfl ?_
        refine pw_iload_n (q := 27) (j := 3) C dX1_cutNext_26 rfl rfl rfl ?_
        refine pw_ipg (q := 28) C dX1_cutNext_27 hF.2.1 (by omega) (by omega) rfl ?_
        refine pw_if_le_n (q := 31) 50 C dX1_cutNext_28 (by decide) rfl (by omega) (fun g28 => ?_) (fun g28 => absurd g28 (by omega))
        refine pw_iinc_n (q := 53) C 1 dX1_cutNext_50 rfl (by decide +kernel) rfl (by decide) rfl ?_
        refine pw_goto (q := 0) 2 C dX1_cutNext_53 (by decide) ?_
        exact ih (c + 1) (by omega) _ (fun j hj => (Nat.lt_succ_iff_lt_or_eq.mp hj).elim (hno j) (fun h q => nof9 (L := L) (F := facF P) h q.1 q.2 (show L c = 0 ∨ w < P (8 + 3 * c + 1) by omega)))
  refine pw_iconst_n (q := 1) C 0 dX1_cutNext_0 (by decide +kernel) rfl ?_
  refine pw_istore_n (q := 2) (j := 3) C dX1_cutNext_1 rfl rfl (by decide) rfl ?_
  exact loop 6 0 (by omega) none (fun j h => absurd h (Nat.not_lt_zero j))
set_option maxHeartbeats 200000 in
set_option maxRecDepth 100000 in
theorem f_work {M : PH} {f a : Nat} {P L W : Nat → Nat} (hF : ForeAt M f L W) (hL : LodgeAt M a P) (hI : Inv P) (hd9 : f + 3 ≤ a ∨ a + 7 ≤ f) (hw : ∀ m, m < 6 → W m ≤ 12) (hl : ∀ c, c < 6 → L c ≤ 9) (hz : ∀ c, P 5 ≤ c → c < 6 → L c = 0) : Run iX1_workOneDay [.ref f, .ref a] M 0 0 (RN (fun M1 => (∃ W1, ForeAt M1 f (masL (facF P) (P 5) W 6 L) W1) ∧ Same M M1 f (f + 3))) := by
  obtain ⟨fc, fm, fs, hG, hr⟩ := id hL
  have hb := hI.b
  refine Run.of (l0 := [some (.ref f), some (.ref a), none, none, none]) (by decide +kernel) (Nat.le_of_ble_eq_true rfl) (by rfl) (fun Γ G C => ?_)
  have loop : ∀ (d m : Nat), m + d = 6 → ∀ (M2 : PH) (W2 : Nat → Nat) (x3 x4 : Option Value), ForeAt M2 f (masL (facF P) (P 5) W m L) W2 → Same M M2 f (f + 3) → (∀ j, m ≤ j → j < 6 → W2 j = W j) → PW Γ G (ZJ Γ G 0 0 (RN (fun M1 => (∃ W1, ForeAt M1 f (masL (facF P) (P 5) W 6 L) W1) ∧ Same M M1 f (f + 3)))) 2 [some (.ref f), some (.ref a), some (.int (nI m)), x3, x4] [] M2 0 0 := by
    intro d
    induction d with
    | zero =>
      intro m hd
      intro M2 W2 x3 x4 hF sm hw2
      refine pw_iload_n (q := 3) (j := 2) C dX1_workOneDay_2 rfl rfl rfl ?_
      refine pw_aload_n (q := 4) (j := 0) C dX1_workOneDay_3 rfl rfl rfl ?_
      refine pw_getf (q := 7) C dX1_workOneDay_4 fX1_15 hF.1 (by rfl) rfl ?_
      refine pw_alen_n (q := 8) C dX1_workOneDay_7 hF.2.2 (by rfl) rfl ?_
      refine pw_icmp_ge_n (q := 11) 63 C dX1_workOneDay_8 (by decide) rfl (by omega) (by omega) (fun g8 => ?_) (fun g8 => absurd g8 (by omega))
      exact pw_vret C dX1_workOneDay_63 rfl ⟨by omega, by omega⟩ (RN.mk ⟨⟨W2, by rw [show m = 6 by omega] at hF; exact hF⟩, sm⟩)
    | succ d ih =>
      intro m hd
      intro M2 W2 x3 x4 hF sm hw2
      refine pw_iload_n (q := 3) (j := 2) C dX1_workOneDay_2 rfl rfl rfl ?_
      refine pw_aload_n (q := 4) (j := 0) C dX1_workOneDay_3 rfl rfl rfl ?_
      refine pw_getf (q := 7) C dX1_workOneDay_4 fX1_15 hF.1 (by rfl) rfl ?_
      refine pw_alen_n (q := 8) C dX1_workOneDay_7 hF.2.2 (by rfl) rfl ?_
      refine pw_icmp_ge_n (q := 11) 63 C dX1_workOneDay_8 (by decide) rfl (by omega) (by omega) (fun g8 => absurd g8 (by omega)) (fun g8 => ?_)
      refine pw_iconst_n (q := 12) C 0 dX1_workOneDay_11 (by decide +kernel) rfl ?_
      refine pw_istore_n (q := 13) (j := 3) C dX1_workOneDay_12 rfl rfl (by decide) rfl ?_
      have oih := ih
      have loop : ∀ (d k : Nat), k + d = 12 → ∀ (M3 : PH) (L3 W3 : Nat → Nat) (x4 : Option Value), ForeAt M3 f L3 W3 → Same M M3 f (f + 3) → (∀ j, m < j → j < 6 → W3 j = W j) → W3 m ≤ 12 → (∀ c, c < 6 → L3 c ≤ 9) → (∀ c, P 5 ≤ c → c < 6 → L3 c = 0) → runL (facF P) (P 5) d L3 (W3 m) = (masL (facF P) (P 5) W (m + 1) L) → PW Γ G (ZJ Γ G 0 0 (RN (fun M1 => (∃ W1, ForeAt M1 f (masL (facF P) (P 5) W 6 L) W1) ∧ Same M M1 f (f + 3)))) 13 [some (.ref f), some (.ref a), some (.int (nI m)), some (.int (nI k)), x4] [] M3 0 0 := by
        intro d
        induction d with
        | zero =>
          intro k hd
          intro M3 L3 W3 x4 hF sm hw hw9 hl3 hz3 hrun
          refine pw_iload_n (q := 14) (j := 3) C dX1_workOneDay_13 rfl rfl rfl ?_
          refine pw_bipush_n (q := 16) C 12 dX1_workOneDay_14 (by decide +kernel) rfl ?_
          refine pw_icmp_ge_n (q := 19) 57 C dX1_workOneDay_16 (by decide) rfl (by omega) (by omega) (fun g16 => ?_) (fun g16 => absurd g16 (by omega))
          refine pw_iinc_n (q := 60) C 1 dX1_workOneDay_57 rfl (by decide +kernel) rfl (by decide) rfl ?_
          refine pw_goto (q := 0) 2 C dX1_workOneDay_60 (by decide) ?_
          have hF2 : ForeAt M3 f (masL (facF P) (P 5) W (m + 1) L) W3 := hrun ▸ hF
          exact oih (m + 1) (by omega) _ _ _ _ hF2 sm (fun j h1 h2 => hw j (by omega) h2)
        | succ d ih =>
          intro k hd
          intro M3 L3 W3 x4 hF sm hw hw9 hl3 hz3 hrun
          refine pw_iload_n (q := 14) (j := 3) C dX1_workOneDay_13 rfl rfl rfl ?_
          refine pw_bipush_n (q := 16) C 12 dX1_workOneDay_14 (by decide +kernel) rfl ?_
          refine pw_icmp_ge_n (q := 19) 57 C dX1_workOneDay_16 (by decide) rfl (by omega) (by omega) (fun g16 => absurd g16 (by omega)) (fun g16 => ?_)
          by_cases hn : nextC (facF P) (P 5) L3 (W3 m) < P 5
          · refine pw_aload_n (q := 20) (j := 0) C dX1_workOneDay_19 rfl rfl rfl ?_
            refine pw_aload_n (q := 21) (j := 1) C dX1_workOneDay_20 rfl rfl rfl ?_
            refine pw_aload_n (q := 22) (j := 0) C dX1_workOneDay_21 rfl rfl rfl ?_
            refine pw_getf (q := 25) C dX1_workOneDay_22 fX1_15 hF.1 (by rfl) rfl ?_
            refine pw_iload_n (q := 26) (j := 2) C dX1_workOneDay_25 rfl rfl rfl ?_
            refine pw_ipg (q := 27) C dX1_workOneDay_26 hF.2.2 (by omega) (by omega) rfl ?_
            refine pw_val (q := 30) (cr_v (j := iX1_cutNext) C dX1_workOneDay_27 lX1_52 mX1_cutNext (ro_mk (by decide) (by decide)) hF.1 rfl (f_next hF (hL.far sm (by omega)) hI hd9 hw9 hl3 hz3) rfl rfl (Nat.le_of_ble_eq_true rfl) ⟨by omega, by omega⟩) rfl (fun M27 e27 => ?_)
            rw [if_pos hn] at e27
            rw [if_pos hn]
            obtain ⟨hF, sm9⟩ := e27
            have sm := sm.tr sm9
            have k9 := (hI.c hn).2.2.1
            have k8 := (hI.c hn).2.2.2.1
            have k7 : facF P (nextC (facF P) (P 5) L3 (W3 m)) ≤ W3 m := (fst_yes (p := fun c => 0 < L3 c ∧ facF P c ≤ W3 m) hn).2
            refine pw_istore (q := 32) C dX1_workOneDay_30 rfl (by decide) rfl ?_
            refine pw_iload (q := 34) C dX1_workOneDay_32 rfl rfl ?_
            refine pw_if_ne_n (q := 37) 40 C dX1_workOneDay_34 (by decide) rfl (by omega) (fun g34 => ?_) (fun g34 => absurd g34 (Nat.ne_of_gt k9))
            refine pw_aload_n (q := 41) (j := 0) C dX1_workOneDay_40 rfl rfl rfl ?_
            refine pw_getf (q := 44) C dX1_workOneDay_41 fX1_15 hF.1 (by rfl) rfl ?_
            refine pw_iload_n (q := 45) (j := 2) C dX1_workOneDay_44 rfl rfl rfl ?_
            refine pw_dup2 (q := 46) C dX1_workOneDay_45 rfl rfl rfl ?_
            refine pw_ipg (q := 47) C dX1_workOneDay_46 hF.2.2 (by omega) (by omega) rfl ?_
            refine pw_iload (q := 49) C dX1_workOneDay_47 rfl rfl ?_
            refine pw_isub_n (q := 50) C dX1_workOneDay_49 (by exact k7) rfl ?_
            refine pw_ipgst (q := 51) C dX1_workOneDay_50 hF.2.2 (by omega) (by omega) rfl ?_
            refine pw_iinc_n (q := 54) C 1 dX1_workOneDay_51 rfl (by decide +kernel) rfl (by decide) rfl ?_
            refine pw_goto (q := 0) 13 C dX1_workOneDay_54 (by decide) ?_
            have hF2 := hF.putW (updN W3 m (W3 m - facF P (nextC (facF P) (P 5) L3 (W3 m))))
            exact ih (k + 1) (by omega) _ _ _ _ hF2 (sm.tr (Same.put (by omega) (by omega))) (fun j h1 h2 => (updN_ne (by omega)).trans (hw j h1 h2)) (by rw [updN_at]; omega) (fun c hc => Nat.le_trans upd1_le (hl3 c hc)) (fun c h1 h2 => (updN_ne (by omega)).trans (hz3 c h1 h2)) (by rw [runL, if_pos hn] at hrun; rw [updN_at]; exact hrun)
          · refine pw_aload_n (q := 20) (j := 0) C dX1_workOneDay_19 rfl rfl rfl ?_
            refine pw_aload_n (q := 21) (j := 1) C dX1_workOneDay_20 rfl rfl rfl ?_
            refine pw_aload_n (q := 22) (j := 0) C dX1_workOneDay_21 rfl rfl rfl ?_
            refine pw_getf (q := 25) C dX1_workOneDay_22 fX1_15 hF.1 (by rfl) rfl ?_
            refine pw_iload_n (q := 26) (j := 2) C dX1_workOneDay_25 rfl rfl rfl ?_
            refine pw_ipg (q := 27) C dX1_workOneDay_26 hF.2.2 (by omega) (by omega) rfl ?_
            refine pw_val (q := 30) (cr_v (j := iX1_cutNext) C dX1_workOneDay_27 lX1_52 mX1_cutNext (ro_mk (by decide) (by decide)) hF.1 rfl (f_next hF (hL.far sm (by omega)) hI hd9 hw9 hl3 hz3) rfl rfl (Nat.le_of_ble_eq_true rfl) ⟨by omega, by omega⟩) rfl (fun M27 e27 => ?_)
            rw [if_neg hn] at e27
            rw [if_neg hn]
            obtain ⟨hF, sm9⟩ := e27
            have sm := sm.tr sm9
            refine pw_istore (q := 32) C dX1_workOneDay_30 rfl (by decide) rfl ?_
            refine pw_iload (q := 34) C dX1_workOneDay_32 rfl rfl ?_
            refine pw_if_ne_n (q := 37) 40 C dX1_workOneDay_34 (by decide) rfl (by omega) (fun g34 => absurd g34 (by omega)) (fun g34 => ?_)
            refine pw_goto (q := 0) 57 C dX1_workOneDay_37 (by decide) ?_
            refine pw_iinc_n (q := 60) C 1 dX1_workOneDay_57 rfl (by decide +kernel) rfl (by decide) rfl ?_
            refine pw_goto (q := 0) 2 C dX1_workOneDay_60 (by decide) ?_
            have hF2 : ForeAt M27 f (masL (facF P) (P 5) W (m + 1) L) W3 := by
              rw [← hrun, runL_no hn]; exact hF
            exact oih (m + 1) (by omega) _ _ _ _ hF2 sm (fun j h1 h2 => hw j (by omega) h2)
      exact loop 12 0 (by omega) _ _ _ _ hF sm (fun j h1 h2 => hw2 j (by omega) h2) (by rw [hw2 m (by omega) (by omega)]; exact hw m (by omega)) (fun c hc => Nat.le_trans masL_le (hl c hc)) (fun c h1 h2 => (masL_hi h1).trans (hz c h1 h2)) (by rw [hw2 m (by omega) (by omega)]; rfl)
  refine pw_iconst_n (q := 1) C 0 dX1_workOneDay_0 (by decide +kernel) rfl ?_
  refine pw_istore_n (q := 2) (j := 2) C dX1_workOneDay_1 rfl rfl (by decide) rfl ?_
  exact loop 6 0 (by omega) M W none none hF Same.rf (fun j h1 h2 => rfl)
theorem dayL_le {P L : Nat → Nat} {c : Nat} : ∀ {d : Nat}, dayL P L d c ≤ L c
  | 0 => Nat.le_refl _
  | d + 1 => Nat.le_trans masL_le dayL_le
theorem dayL_hi {P L : Nat → Nat} {c : Nat} (h : P 5 ≤ c) : ∀ {d : Nat}, dayL P L d c = L c
  | 0 => rfl
  | d + 1 => by rw [dayL, masL_hi h, dayL_hi h]
theorem dayL_succ {P L L2 W2 : Nat → Nat} {d : Nat} (h : ∀ c, c < 6 → L2 c = dayL P L d c) (hC : P 5 ≤ 6) (hW : ∀ m, m < 6 → W2 m = wkW P (if d = 0 then 2 else 1) m) : ∀ c, c < 6 → masL (facF P) (P 5) W2 6 L2 c = dayL P L (d + 1) c := fun c hc => by
  rw [dayL]
  by_cases h5 : c < P 5
  · exact masL_cong (fun c hc => h c (by omega)) hW c h5
  · rw [masL_hi (by omega), masL_hi (by omega), h c hc]
theorem lackL_le {P : Nat → Nat} (hI : Inv P) (c : Nat) : lackL P c ≤ 9 := by
  unfold lackL
  split
  · rename_i h
    have := (hI.c h).2.2.2.2.2
    unfold lacks
    omega
  · omega
theorem wkW_le {P : Nat → Nat} (hI : Inv P) {col : Nat} (h : col = 1 ∨ col = 2) (m : Nat) : wkW P col m ≤ 12 := by
  unfold wkW
  split
  · rename_i h6
    have := hI.m h6
    rcases h with rfl | rfl <;> omega
  · omega
theorem any_no {L : Nat → Nat} (h : ¬ fst (fun c => 0 < L c) 6 < 6) : ∀ c, c < 6 → L c = 0 := fun c hc => by
  have h6 := fst_le (fun c => 0 < L c) 6
  have := fst_no (p := fun c => 0 < L c) (n := 6) (k := c) (by omega)
  omega
theorem any_yes {L : Nat → Nat} (h : fst (fun c => 0 < L c) 6 < 6) : ∃ c, c < 6 ∧ 0 < L c := ⟨_, h, fst_yes (p := fun c => 0 < L c) h⟩
set_option maxHeartbeats 200000 in
set_option maxRecDepth 100000 in
theorem f_days {M : PH} {f a : Nat} {P L W : Nat → Nat} (hF : ForeAt M f L W) (hL : LodgeAt M a P) (hI : Inv P) (hd9 : f + 3 ≤ a ∨ a + 7 ≤ f) : Run iX1_daysFor [.ref f, .ref a] M 0 0 (RV (.int (daysP P)) (fun M1 => (∃ L1 W1, ForeAt M1 f L1 W1) ∧ Same M M1 f (f + 3))) := by
  obtain ⟨fc, fm, fs, hG, hr⟩ := id hL
  have hb := hI.b
  refine Run.of (l0 := [some (.ref f), some (.ref a), none]) (by decide +kernel) (Nat.le_of_ble_eq_true rfl) (by rfl) (fun Γ G C => ?_)
  have loop : ∀ (d c : Nat), c + d = 6 → ∀ (M2 : PH) (L2 : Nat → Nat), ForeAt M2 f L2 W → Same M M2 f (f + 3) → (∀ j, j < c → L2 j = lackL P j) → PW Γ G (ZJ Γ G 0 0 (RV (.int (daysP P)) (fun M1 => (∃ L1 W1, ForeAt M1 f L1 W1) ∧ Same M M1 f (f + 3)))) 2 [some (.ref f), some (.ref a), some (.int (nI c))] [] M2 0 0 := by
    intro d
    induction d with
    | zero =>
      intro c hd
      intro M2 L2 hF sm hl
      have hL2 := hL.far sm (by omega)
      obtain ⟨fc, fm, fs, hG, hr⟩ := id hL2
      refine pw_iload_n (q := 3) (j := 2) C dX1_daysFor_2 rfl rfl rfl ?_
      refine pw_aload_n (q := 4) (j := 0) C dX1_daysFor_3 rfl rfl rfl ?_
      refine pw_getf (q := 7) C dX1_daysFor_4 fX1_9 hF.1 (by rfl) rfl ?_
      refine pw_alen_n (q := 8) C dX1_daysFor_7 hF.2.1 (by rfl) rfl ?_
      refine pw_icmp_ge_n (q := 11) 43 C dX1_daysFor_8 (by decide) rfl (by omega) (by omega) (fun g8 => ?_) (fun g8 => absurd g8 (by omega))
      refine pw_aload_n (q := 44) (j := 0) C dX1_daysFor_43 rfl rfl rfl ?_
      refine pw_aload_n (q := 45) (j := 1) C dX1_daysFor_44 rfl rfl rfl ?_
      refine pw_iconst_n (q := 46) C 2 dX1_daysFor_45 (by decide +kernel) rfl ?_
      refine pw_void (q := 49) (cr_v (j := iX1_takeWork) C dX1_daysFor_46 lX1_33 mX1_takeWork (ro_mk (by decide) (by decide)) hF.1 rfl (f_take hF hL2 hI hd9 (by omega)) rfl rfl (Nat.le_of_ble_eq_true rfl) ⟨by omega, by omega⟩) rfl (fun M46 e46 => ?_)
      obtain ⟨⟨W5, hF5, hw5⟩, sm5⟩ := e46
      refine pw_iconst_n (q := 50) C 0 dX1_daysFor_49 (by decide +kernel) rfl ?_
      refine pw_istore_n (q := 51) (j := 2) C dX1_daysFor_50 rfl rfl (by decide) rfl ?_
      have loop : ∀ (d t : Nat), t + d = 100 → ∀ (M2 : PH) (L2 W2 : Nat → Nat), ForeAt M2 f L2 W2 → Same M M2 f (f + 3) → (∀ c, c < 6 → L2 c = dayL P (lackL P) t c) → (∀ m, m < 6 → W2 m = wkW P (if t = 0 then 2 else 1) m) → (∀ e, e < t → ¬ ∀ c, c < P 5 → dayL P (lackL P) e c = 0) → PW Γ G (ZJ Γ G 0 0 (RV (.int (daysP P)) (fun M1 => (∃ L1 W1, ForeAt M1 f L1 W1) ∧ Same M M1 f (f + 3)))) 51 [some (.ref f), some (.ref a), some (.int (nI t))] [] M2 0 0 := by
        intro d
        induction d with
        | zero =>
          intro t hd
          intro M2 L2 W2 hF sm hl2 hw2 hno
          have hl9 : ∀ c, c < 6 → L2 c ≤ 9 := fun c hc => by rw [hl2 c hc]; exact Nat.le_trans dayL_le (lackL_le hI c)
          have hz9 : ∀ c, P 5 ≤ c → c < 6 → L2 c = 0 := fun c h1 h2 => by rw [hl2 c h2, dayL_hi h1, lackL, if_neg (by omega)]
          have hw9 : ∀ m, m < 6 → W2 m ≤ 12 := fun m hm => by rw [hw2 m hm]; exact wkW_le hI (by split <;> omega) m
          refine pw_iload_n (q := 52) (j := 2) C dX1_daysFor_51 rfl rfl rfl ?_
          refine pw_bipush_n (q := 54) C 99 dX1_daysFor_52 (by decide +kernel) rfl ?_
          refine pw_icmp_gt_n (q := 57) 83 C dX1_daysFor_54 (by decide) rfl (by omega) (by omega) (fun g54 => ?_) (fun g54 => absurd g54 (by omega))
          refine pw_bipush (q := 85) (v := (-9)) C dX1_daysFor_83 (by decide +kernel) rfl ?_
          exact pw_iret C dX1_daysFor_85 rfl ⟨by omega, by omega⟩ (RV.mk (by rw [daysP, fst_none (fun j hj => hno j (by omega))]; rfl) ⟨⟨_, _, hF⟩, sm⟩)
        | succ d ih =>
          intro t hd
          intro M2 L2 W2 hF sm hl2 hw2 hno
          have hl9 : ∀ c, c < 6 → L2 c ≤ 9 := fun c hc => by rw [hl2 c hc]; exact Nat.le_trans dayL_le (lackL_le hI c)
          have hz9 : ∀ c, P 5 ≤ c → c < 6 → L2 c = 0 := fun c h1 h2 => by rw [hl2 c h2, dayL_hi h1, lackL, if_neg (by omega)]
          have hw9 : ∀ m, m < 6 → W2 m ≤ 12 := fun m hm => by rw [hw2 m hm]; exact wkW_le hI (by split <;> omega) m
          refine pw_iload_n (q := 52) (j := 2) C dX1_daysFor_51 rfl rfl rfl ?_
          refine pw_bipush_n (q := 54) C 99 dX1_daysFor_52 (by decide +kernel) rfl ?_
          refine pw_icmp_gt_n (q := 57) 83 C dX1_daysFor_54 (by decide) rfl (by omega) (by omega) (fun g54 => absurd g54 (by omega)) (fun g54 => ?_)
          refine pw_aload_n (q := 58) (j := 0) C dX1_daysFor_57 rfl rfl rfl ?_
          refine pw_rd (q := 61) (cr_v (j := iX1_isAnyLacking) C dX1_daysFor_58 lX1_37 mX1_isAnyLacking (ro_mk (by decide) (by decide)) hF.1 rfl (f_any hF hl9) rfl rfl (Nat.le_of_ble_eq_true rfl) ⟨by omega, by omega⟩) rfl ?_
          refine pw_if_ne_b (q := 64) 66 C dX1_daysFor_61 (by decide) rfl (fun g61 => ?_) (fun g61 => ?_)
          · refine pw_aload_n (q := 67) (j := 0) C dX1_daysFor_66 rfl rfl rfl ?_
            refine pw_aload_n (q := 68) (j := 1) C dX1_daysFor_67 rfl rfl rfl ?_
            refine pw_void (q := 71) (cr_v (j := iX1_workOneDay) C dX1_daysFor_68 lX1_41 mX1_workOneDay (ro_mk (by decide) (by decide)) hF.1 rfl (f_work hF (hL.far sm (by omega)) hI hd9 hw9 hl9 hz9) rfl rfl (Nat.le_of_ble_eq_true rfl) ⟨by omega, by omega⟩) rfl (fun M68 e68 => ?_)
            obtain ⟨⟨W5, hF5⟩, sm5⟩ := e68
            have hF := hF5
            refine pw_aload_n (q := 72) (j := 0) C dX1_daysFor_71 rfl rfl rfl ?_
            refine pw_aload_n (q := 73) (j := 1) C dX1_daysFor_72 rfl rfl rfl ?_
            refine pw_iconst_n (q := 74) C 1 dX1_daysFor_73 (by decide +kernel) rfl ?_
            refine pw_void (q := 77) (cr_v (j := iX1_takeWork) C dX1_daysFor_74 lX1_33 mX1_takeWork (ro_mk (by decide) (by decide)) hF.1 rfl (f_take hF5 (hL.far (sm.tr sm5) (by omega)) hI hd9 (by omega)) rfl rfl (Nat.le_of_ble_eq_true rfl) ⟨by omega, by omega⟩) rfl (fun M74 e74 => ?_)
            obtain ⟨⟨W6, hF6, hw6⟩, sm6⟩ := e74
            refine pw_iinc_n (q := 80) C 1 dX1_daysFor_77 rfl (by decide +kernel) rfl (by decide) rfl ?_
            refine pw_goto (q := 0) 51 C dX1_daysFor_80 (by decide) ?_
            exact ih (t + 1) (by omega) _ _ _ hF6 ((sm.tr sm5).tr sm6) (dayL_succ hl2 hb.2.2.1 hw2) (fun m hm => by rw [if_neg (by omega)]; exact hw6 m hm) (fun e he => (Nat.lt_succ_iff_lt_or_eq.mp he).elim (hno e) (fun h q => by
              obtain ⟨c, h1, h2⟩ := any_yes g61
              rw [hl2 c h1] at h2
              by_cases h5 : c < P 5
              · rw [h] at q; rw [q c h5] at h2; omega
              · rw [dayL_hi (by omega), lackL, if_neg h5] at h2; omega))
          · refine pw_iload_n (q := 65) (j := 2) C dX1_daysFor_64 rfl rfl rfl ?_
            exact pw_iret C dX1_daysFor_65 rfl ⟨by omega, by omega⟩ (RV.mk (by rw [daysP, fst_eq (k := t) (by omega) (fun c hc => by rw [← hl2 c (by omega)]; exact any_no g61 c (by omega)) hno, orNone, if_pos (by omega)]) ⟨⟨_, _, hF⟩, sm⟩)
      exact loop 100 0 (by omega) _ _ _ hF5 (sm.tr sm5) (fun c hc => hl c (by omega)) (fun m hm => hw5 m hm) (fun e h => absurd h (Nat.not_lt_zero e))
    | succ d ih =>
      intro c hd
      intro M2 L2 hF sm hl
      have hL2 := hL.far sm (by omega)
      obtain ⟨fc, fm, fs, hG, hr⟩ := id hL2
      refine pw_iload_n (q := 3) (j := 2) C dX1_daysFor_2 rfl rfl rfl ?_
      refine pw_aload_n (q := 4) (j := 0) C dX1_daysFor_3 rfl rfl rfl ?_
      refine pw_getf (q := 7) C dX1_daysFor_4 fX1_9 hF.1 (by rfl) rfl ?_
      refine pw_alen_n (q := 8) C dX1_daysFor_7 hF.2.1 (by rfl) rfl ?_
      refine pw_icmp_ge_n (q := 11) 43 C dX1_daysFor_8 (by decide) rfl (by omega) (by omega) (fun g8 => absurd g8 (by omega)) (fun g8 => ?_)
      by_cases hc : c < P 5
      · refine pw_aload_n (q := 12) (j := 0) C dX1_daysFor_11 rfl rfl rfl ?_
        refine pw_getf (q := 15) C dX1_daysFor_12 fX1_9 hF.1 (by rfl) rfl ?_
        refine pw_iload_n (q := 16) (j := 2) C dX1_daysFor_15 rfl rfl rfl ?_
        refine pw_aload_n (q := 17) (j := 1) C dX1_daysFor_16 rfl rfl rfl ?_
        refine pw_getf (q := 20) C dX1_daysFor_17 fX1_18 hG.1 (by rfl) rfl ?_
        refine pw_iload_n (q := 21) (j := 2) C dX1_daysFor_20 rfl rfl rfl ?_
        refine pw_rd (q := 24) (cr_v (j := iX8_has) C dX1_daysFor_21 lX1_24 mX8_has (ro_mk (by decide) (by decide)) hG.2.1.1 rfl (k_has_in hG.2.1 hc) rfl rfl (Nat.le_of_ble_eq_true rfl) ⟨by omega, by omega⟩) rfl ?_
        refine pw_if_eq_n (q := 27) 35 C dX1_daysFor_24 (by decide) rfl (by omega) (fun g24 => absurd g24 (by omega)) (fun g24 => ?_)
        refine pw_aload_n (q := 28) (j := 1) C dX1_daysFor_27 rfl rfl rfl ?_
        refine pw_iload_n (q := 29) (j := 2) C dX1_daysFor_28 rfl rfl rfl ?_
        refine pw_rd (q := 32) (cr_v (j := iX2_lacking) C dX1_daysFor_29 lX1_30 mX2_lacking (ro_mk (by decide) (by decide)) hG.1 rfl (k_lacking hL2 hI hc) rfl rfl (Nat.le_of_ble_eq_true rfl) ⟨by omega, by omega⟩) rfl ?_
        refine pw_goto (q := 0) 36 C dX1_daysFor_32 (by decide) ?_
        refine pw_ipgst (q := 37) C dX1_daysFor_36 hF.2.1 (by omega) (by omega) rfl ?_
        refine pw_iinc_n (q := 40) C 1 dX1_daysFor_37 rfl (by decide +kernel) rfl (by decide) rfl ?_
        refine pw_goto (q := 0) 2 C dX1_daysFor_40 (by decide) ?_
        exact ih (c + 1) (by omega) _ _ (hF.putL (updN L2 c (lacks P c))) (sm.tr (Same.put (by omega) (by omega))) (fun j hj => by
          unfold updN
          split
          · rename_i h; rw [h, lackL, if_pos hc]
          · exact hl j (by omega))
      · refine pw_aload_n (q := 12) (j := 0) C dX1_daysFor_11 rfl rfl rfl ?_
        refine pw_getf (q := 15) C dX1_daysFor_12 fX1_9 hF.1 (by rfl) rfl ?_
        refine pw_iload_n (q := 16) (j := 2) C dX1_daysFor_15 rfl rfl rfl ?_
        refine pw_aload_n (q := 17) (j := 1) C dX1_daysFor_16 rfl rfl rfl ?_
        refine pw_getf (q := 20) C dX1_daysFor_17 fX1_18 hG.1 (by rfl) rfl ?_
        refine pw_iload_n (q := 21) (j := 2) C dX1_daysFor_20 rfl rfl rfl ?_
        refine pw_rd (q := 24) (cr_v (j := iX8_has) C dX1_daysFor_21 lX1_24 mX8_has (ro_mk (by decide) (by decide)) hG.2.1.1 rfl (k_has_bad hG.2.1 (Or.inr ((nI_leI (by omega) (by omega)).mpr (by omega)))) rfl rfl (Nat.le_of_ble_eq_true rfl) ⟨by omega, by omega⟩) rfl ?_
        refine pw_if_eq_n (q := 27) 35 C dX1_daysFor_24 (by decide) rfl (by omega) (fun g24 => ?_) (fun g24 => absurd g24 (by omega))
        refine pw_iconst_n (q := 36) C 0 dX1_daysFor_35 (by decide +kernel) rfl ?_
        refine pw_ipgst (q := 37) C dX1_daysFor_36 hF.2.1 (by omega) (by omega) rfl ?_
        refine pw_iinc_n (q := 40) C 1 dX1_daysFor_37 rfl (by decide +kernel) rfl (by decide) rfl ?_
        refine pw_goto (q := 0) 2 C dX1_daysFor_40 (by decide) ?_
        exact ih (c + 1) (by omega) _ _ (hF.putL (updN L2 c (0))) (sm.tr (Same.put (by omega) (by omega))) (fun j hj => by
          unfold updN
          split
          · rename_i h; rw [h, lackL, if_neg hc]
          · exact hl j (by omega))
  refine pw_iconst_n (q := 1) C 0 dX1_daysFor_0 (by decide +kernel) rfl ?_
  refine pw_istore_n (q := 2) (j := 2) C dX1_daysFor_1 rfl rfl (by decide) rfl ?_
  exact loop 6 0 (by omega) M L hF Same.rf (fun j h => absurd h (Nat.not_lt_zero j))
