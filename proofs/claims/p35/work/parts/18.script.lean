/-! Script, Simulation. -/
theorem in_or_bad {n R : Nat} (hn : n < 2147483648) (hR : R < 2147483648) : n < R ∨ badR (nI n) R := by
  by_cases h : n < R
  · exact Or.inl h
  · exact Or.inr (Or.inr ((nI_leI hR hn).mpr (by omega)))
theorem badNone (R : Nat) : badR (-9) R := Or.inl (by decide +kernel)
/-- one command, its group g: the state behind it; none if it fails -/
def cmd1 (P : Nat → Nat) (g : Nat) : Option (Nat → Nat) := if g % 10 = 0 ∧ g / 1000 % 10 < P 6 ∧ g / 100 % 10 < P 5 ∧ canCut P (g / 1000 % 10) (g / 100 % 10) then some (cutP P (g / 1000 % 10) (g / 100 % 10) (g / 10 % 10)) else none
def cmd2 (P : Nat → Nat) (g : Nat) : Option (Nat → Nat) := if g / 1000 % 10 = 0 ∧ g / 100 % 10 = 0 ∧ g % 100 < P 7 ∧ P (50 + 6 * (g % 100) + 3) = 0 then some (inspectP P (g % 100)) else none
def cmd3 (P : Nat → Nat) (g : Nat) : Option (Nat → Nat) := if g / 1000 % 10 < P 6 ∧ g % 100 < P 7 ∧ g / 100 % 10 < P 5 ∧ canRecut P (g / 1000 % 10) (g % 100) (g / 100 % 10) then some (recutP P (g / 1000 % 10) (g % 100) (g / 100 % 10)) else none
def cmd4 (P : Nat → Nat) (g : Nat) : Option (Nat → Nat) := if g / 1000 % 10 = 0 ∧ g / 100 % 10 = 0 ∧ g % 100 < P 7 ∧ why P (g % 100) = 0 then some (stateP P (g % 100) 3) else none
def cmd5 (P : Nat → Nat) (g : Nat) : Option (Nat → Nat) := if g / 1000 % 10 = 0 ∧ g / 100 % 10 = 0 ∧ g / 10 % 10 = 0 ∧ g % 10 ≤ 1 then some (dayP P (g % 10)) else none
def cmd6 (P : Nat → Nat) (g : Nat) : Option (Nat → Nat) := if g / 1000 % 10 = 0 ∧ g / 100 % 10 = 0 ∧ g / 10 % 10 = 0 then some (updN P 0 (g % 10)) else none
def cmd7 (P : Nat → Nat) (g : Nat) : Option (Nat → Nat) := if g / 1000 % 10 = 0 ∧ g / 100 % 10 = 0 ∧ g % 100 < P 7 ∧ P (50 + 6 * (g % 100) + 3) = 2 then some (stateP P (g % 100) 4) else none
def cmd8 (P : Nat → Nat) (g : Nat) : Option (Nat → Nat) := if nI (g % 10000) ≤ nI (owedAll P) then some P else none
def cmd9 (P : Nat → Nat) (g : Nat) : Option (Nat → Nat) := if g / 100 % 10 = 0 ∧ g / 10 % 10 = 0 ∧ g / 1000 % 10 < P 5 ∧ cntC P (g / 1000 % 10) 3 = g % 10 then some P else none
def cmd (P : Nat → Nat) (g : Nat) : Option (Nat → Nat) := if g / 10000 = 1 then cmd1 P g else if g / 10000 = 2 then cmd2 P g else if g / 10000 = 3 then cmd3 P g else if g / 10000 = 4 then cmd4 P g else if g / 10000 = 5 then cmd5 P g else if g / 10000 = 6 then cmd6 P g else if g / 10000 = 7 then cmd7 P g else if g / 10000 = 8 then cmd8 P g else if g / 10000 = 9 then cmd9 P g else none
section
variable {P : Nat → Nat} {g : Nat}
theorem cmd_0 (h : g / 10000 = 0) : cmd P g = none := by simp [cmd, h]
theorem cmd_1 (h : g / 10000 = 1) : cmd P g = cmd1 P g := by simp [cmd, h]
theorem cmd_2 (h : g / 10000 = 2) : cmd P g = cmd2 P g := by simp [cmd, h]
theorem cmd_3 (h : g / 10000 = 3) : cmd P g = cmd3 P g := by simp [cmd, h]
theorem cmd_4 (h : g / 10000 = 4) : cmd P g = cmd4 P g := by simp [cmd, h]
theorem cmd_5 (h : g / 10000 = 5) : cmd P g = cmd5 P g := by simp [cmd, h]
theorem cmd_6 (h : g / 10000 = 6) : cmd P g = cmd6 P g := by simp [cmd, h]
theorem cmd_7 (h : g / 10000 = 7) : cmd P g = cmd7 P g := by simp [cmd, h]
theorem cmd_8 (h : g / 10000 = 8) : cmd P g = cmd8 P g := by simp [cmd, h]
theorem cmd_9 (h : g / 10000 = 9) : cmd P g = cmd9 P g := by simp [cmd, h]
end
theorem ok_no {X : Nat → Nat} {c : Prop} [Decidable c] (h : ¬ c) : Value.int (nI 0) = Value.int (nI (bN ((if c then some X else none).isSome = true))) := by
  rw [if_neg h]; exact v0 (by decide)
theorem ok_yes {X : Nat → Nat} {c : Prop} [Decidable c] (h : c) : Value.int (nI 1) = Value.int (nI (bN ((if c then some X else none).isSome = true))) := by
  rw [if_pos h]; exact v1 rfl
theorem st_no {X P : Nat → Nat} {c : Prop} [Decidable c] (h : ¬ c) : (if c then some X else none).getD P = P := by rw [if_neg h]; rfl
theorem st_yes {X P : Nat → Nat} {c : Prop} [Decidable c] (h : c) : (if c then some X else none).getD P = X := by rw [if_pos h]; rfl
set_option maxHeartbeats 200000 in
set_option maxRecDepth 100000 in
theorem c_begins {M : PH} {a : Nat} {P : Nat → Nat} (hL : LodgeAt M a P) (hI : Inv P) {fr : Nat} (hf : fr < 10) (hd : P 1 + 1 < 100000) : Run iX5_begins [.ref a, .int (nI fr)] M 0 0 (RV (.int (nI (bN (fr ≤ 1)))) (fun M1 => LodgeAt M1 a (if fr ≤ 1 then dayP P fr else P) ∧ Same M M1 a (a + 7))) := by
  obtain ⟨fc, fm, fs, hG, hr⟩ := id hL
  refine Run.of (l0 := [some (.ref a), some (.int (nI fr))]) (by decide +kernel) (Nat.le_of_ble_eq_true rfl) (by rfl) (fun Γ G C => ?_)
  refine pw_iload_n (q := 1) (j := 1) C dX5_begins_0 rfl rfl rfl ?_
  refine pw_iconst_n (q := 2) C 1 dX5_begins_1 (by decide +kernel) rfl ?_
  refine pw_icmp_le_n (q := 5) 7 C dX5_begins_2 (by decide) rfl (by omega) (by omega) (fun g2 => ?_) (fun g2 => ?_)
  · refine pw_aload_n (q := 8) (j := 0) C dX5_begins_7 rfl rfl rfl ?_
    refine pw_iload_n (q := 9) (j := 1) C dX5_begins_8 rfl rfl rfl ?_
    refine pw_iconst_n (q := 10) C 1 dX5_begins_9 (by decide +kernel) rfl ?_
    refine pw_icmp_ne_n (q := 13) 17 C dX5_begins_10 (by decide) rfl (by omega) (by omega) (fun g10 => ?_) (fun g10 => ?_)
    · refine pw_iconst_n (q := 18) C 0 dX5_begins_17 (by decide +kernel) rfl ?_
      refine pw_val (q := 21) (cr_v (j := iX2_beginDay) C dX5_begins_18 lX5_64 mX2_beginDay (ro_mk (by decide) (by decide)) hG.1 rfl (w_day (fr := 0) hL hI (by omega)) rfl rfl (Nat.le_of_ble_eq_true rfl) ⟨by omega, by omega⟩) rfl (fun M18 e18 => ?_)
      refine pw_pop (q := 22) C dX5_begins_21 rfl rfl ?_
      refine pw_iconst_n (q := 23) C 1 dX5_begins_22 (by decide +kernel) rfl ?_
      exact pw_zret C dX5_begins_23 rfl (by first | decide +kernel | exact nar_bN _ | exact nar_01 (by omega)) ⟨by omega, by omega⟩ (RV.mk (v1 (by omega)) ⟨by rw [if_pos (by omega), show fr = 0 by omega]; exact e18.1, e18.2⟩)
    · refine pw_iconst_n (q := 14) C 1 dX5_begins_13 (by decide +kernel) rfl ?_
      refine pw_goto (q := 0) 18 C dX5_begins_14 (by decide) ?_
      refine pw_val (q := 21) (cr_v (j := iX2_beginDay) C dX5_begins_18 lX5_64 mX2_beginDay (ro_mk (by decide) (by decide)) hG.1 rfl (w_day (fr := 1) hL hI (by omega)) rfl rfl (Nat.le_of_ble_eq_true rfl) ⟨by omega, by omega⟩) rfl (fun M18 e18 => ?_)
      refine pw_pop (q := 22) C dX5_begins_21 rfl rfl ?_
      refine pw_iconst_n (q := 23) C 1 dX5_begins_22 (by decide +kernel) rfl ?_
      exact pw_zret C dX5_begins_23 rfl (by first | decide +kernel | exact nar_bN _ | exact nar_01 (by omega)) ⟨by omega, by omega⟩ (RV.mk (v1 (by omega)) ⟨by rw [if_pos (by omega), show fr = 1 by omega]; exact e18.1, e18.2⟩)
  · refine pw_iconst_n (q := 6) C 0 dX5_begins_5 (by decide +kernel) rfl ?_
    exact pw_zret C dX5_begins_6 rfl (by first | decide +kernel | exact nar_bN _ | exact nar_01 (by omega)) ⟨by omega, by omega⟩ (RV.mk (v0 (by omega)) ⟨by rw [if_neg (by omega)]; exact hL, Same.rf⟩)
set_option maxHeartbeats 200000 in
set_option maxRecDepth 100000 in
theorem c_bounds {M : PH} {a : Nat} {P : Nat → Nat} (hL : LodgeAt M a P) (hI : Inv P) (b : Nat) : Run iX5_bounds [.ref a, .int (nI b)] M 0 0 (RV (.int (nI 1)) (fun M1 => LodgeAt M1 a (updN P 0 b) ∧ Same M M1 a (a + 7))) := by
  obtain ⟨fc, fm, fs, hG, hr⟩ := id hL
  refine Run.of (l0 := [some (.ref a), some (.int (nI b))]) (by decide +kernel) (Nat.le_of_ble_eq_true rfl) (by rfl) (fun Γ G C => ?_)
  refine pw_aload_n (q := 1) (j := 0) C dX5_bounds_0 rfl rfl rfl ?_
  refine pw_iload_n (q := 2) (j := 1) C dX5_bounds_1 rfl rfl rfl ?_
  refine pw_put (q := 5) C dX5_bounds_2 fX5_68 hG.1 (by rfl) (by rfl) (Nat.le_of_ble_eq_true rfl) rfl ?_
  refine pw_heap (fun M9 => LodgeAt M9 a (updN P 0 b) ∧ Same M M9 a (a + 7)) ⟨hL.sc 0 b (by omega), Same.put (by omega) (by omega)⟩ (fun M9 e9 => ?_)
  refine pw_iconst_n (q := 6) C 1 dX5_bounds_5 (by decide +kernel) rfl ?_
  exact pw_zret C dX5_bounds_6 rfl (by first | decide +kernel | exact nar_bN _ | exact nar_01 (by omega)) ⟨by omega, by omega⟩ (RV.mk rfl e9)
theorem nbad {n R : Nat} (h : badR (nI n) R) (hn : n < 2147483648) (hR : R < 2147483648) : ¬ n < R := by
  rcases h with h | h
  · exact absurd h (nI_pos hn)
  · have := (nI_leI hR hn).mp h
    omega
set_option maxHeartbeats 200000 in
set_option maxRecDepth 100000 in
theorem c_succeeds {M : PH} {a : Nat} {P : Nat → Nat} (hL : LodgeAt M a P) (hI : Inv P) {g : Nat} (hg : g < 100000) (hd : P 1 + 1 < 100000) : Run iX5_succeeds [.ref a, .int (nI g)] M 0 0 (RV (.int (nI (bN ((cmd P g).isSome = true)))) (fun M1 => LodgeAt M1 a ((cmd P g).getD P) ∧ Same M M1 a (a + 7))) := by
  obtain ⟨fc, fm, fs, hG, hr⟩ := id hL
  have hb := hI.b
  have q9 := cntC_le hI (g / 1000 % 10) 3
  refine Run.of (l0 := [some (.ref a), some (.int (nI g)), none, none, none, none, none]) (by decide +kernel) (Nat.le_of_ble_eq_true rfl) (by rfl) (fun Γ G C => ?_)
  refine pw_iload_n (q := 1) (j := 1) C dX5_succeeds_0 rfl rfl rfl ?_
  refine pw_sipush_n (q := 4) C 1000 dX5_succeeds_1 (by decide +kernel) rfl ?_
  refine pw_idiv_n (q := 5) C dX5_succeeds_4 (by omega) (by omega) (by omega) rfl ?_
  refine pw_bipush_n (q := 7) C 10 dX5_succeeds_5 (by decide +kernel) rfl ?_
  refine pw_irem_n (q := 8) C dX5_succeeds_7 (by omega) (by omega) (by omega) rfl ?_
  refine pw_istore_n (q := 9) (j := 2) C dX5_succeeds_8 rfl rfl (by decide) rfl ?_
  refine pw_iload_n (q := 10) (j := 1) C dX5_succeeds_9 rfl rfl rfl ?_
  refine pw_bipush_n (q := 12) C 100 dX5_succeeds_10 (by decide +kernel) rfl ?_
  refine pw_idiv_n (q := 13) C dX5_succeeds_12 (by omega) (by omega) (by omega) rfl ?_
  refine pw_bipush_n (q := 15) C 10 dX5_succeeds_13 (by decide +kernel) rfl ?_
  refine pw_irem_n (q := 16) C dX5_succeeds_15 (by omega) (by omega) (by omega) rfl ?_
  refine pw_istore_n (q := 17) (j := 3) C dX5_succeeds_16 rfl rfl (by decide) rfl ?_
  refine pw_iload_n (q := 18) (j := 1) C dX5_succeeds_17 rfl rfl rfl ?_
  refine pw_bipush_n (q := 20) C 10 dX5_succeeds_18 (by decide +kernel) rfl ?_
  refine pw_idiv_n (q := 21) C dX5_succeeds_20 (by omega) (by omega) (by omega) rfl ?_
  refine pw_bipush_n (q := 23) C 10 dX5_succeeds_21 (by decide +kernel) rfl ?_
  refine pw_irem_n (q := 24) C dX5_succeeds_23 (by omega) (by omega) (by omega) rfl ?_
  refine pw_istore (q := 26) C dX5_succeeds_24 rfl (by decide) rfl ?_
  refine pw_iload_n (q := 27) (j := 1) C dX5_succeeds_26 rfl rfl rfl ?_
  refine pw_bipush_n (q := 29) C 10 dX5_succeeds_27 (by decide +kernel) rfl ?_
  refine pw_irem_n (q := 30) C dX5_succeeds_29 (by omega) (by omega) (by omega) rfl ?_
  refine pw_istore (q := 32) C dX5_succeeds_30 rfl (by decide) rfl ?_
  refine pw_iload_n (q := 33) (j := 1) C dX5_succeeds_32 rfl rfl rfl ?_
  refine pw_bipush_n (q := 35) C 100 dX5_succeeds_33 (by decide +kernel) rfl ?_
  refine pw_irem_n (q := 36) C dX5_succeeds_35 (by omega) (by omega) (by omega) rfl ?_
  refine pw_istore (q := 38) C dX5_succeeds_36 rfl (by decide) rfl ?_
  refine pw_iload_n (q := 39) (j := 1) C dX5_succeeds_38 rfl rfl rfl ?_
  refine pw_sipush_n (q := 42) C 10000 dX5_succeeds_39 (by decide +kernel) rfl ?_
  refine pw_idiv_n (q := 43) C dX5_succeeds_42 (by omega) (by omega) (by omega) rfl ?_
  rcases (show g / 10000 = 1 ∨ g / 10000 = 2 ∨ g / 10000 = 3 ∨ g / 10000 = 4 ∨ g / 10000 = 5 ∨ g / 10000 = 6 ∨ g / 10000 = 7 ∨ g / 10000 = 8 ∨ g / 10000 = 9 ∨ g / 10000 = 0 by omega) with h43 | h43 | h43 | h43 | h43 | h43 | h43 | h43 | h43 | h43
  · rw [h43, cmd_1 h43]
    unfold cmd1
    refine pw_tableIn (q := 0) 92 C dX5_succeeds_43 (by decide +kernel) (by decide +kernel) (by rfl) (by decide) ?_
    refine pw_iload (q := 94) C dX5_succeeds_92 rfl rfl ?_
    refine pw_if_ne_n (q := 97) 112 C dX5_succeeds_94 (by decide) rfl (by omega) (fun g94 => ?_) (fun g94 => ?_)
    · refine pw_iconst_n (q := 113) C 0 dX5_succeeds_112 (by decide +kernel) rfl ?_
      exact pw_zret C dX5_succeeds_113 rfl (by first | decide +kernel | exact nar_bN _ | exact nar_01 (by omega)) ⟨by omega, by omega⟩ (RV.mk (ok_no (fun q => g94 q.1)) ⟨by rw [st_no (fun q => g94 q.1)]; exact hL, Same.rf⟩)
    · have h3 : ((g / 1000 % 10) < P 6 ∧ (g / 100 % 10) < P 5) ∨ badR (nI (g / 1000 % 10)) (P 6) ∨ ((g / 1000 % 10) < P 6 ∧ badR (nI (g / 100 % 10)) (P 5)) := by
        rcases in_or_bad (n := (g / 1000 % 10)) (R := P 6) (by omega) (by omega) with h | h
        · rcases in_or_bad (n := (g / 100 % 10)) (R := P 5) (by omega) (by omega) with h1 | h1
          · exact Or.inl ⟨h, h1⟩
          · exact Or.inr (Or.inr ⟨h, h1⟩)
        · exact Or.inr (Or.inl h)
      rcases h3 with ⟨hm, hc⟩ | hbad | ⟨hm, hbad⟩
      · refine pw_aload_n (q := 98) (j := 0) C dX5_succeeds_97 rfl rfl rfl ?_
        refine pw_iload_n (q := 99) (j := 2) C dX5_succeeds_98 rfl rfl rfl ?_
        refine pw_iload_n (q := 100) (j := 3) C dX5_succeeds_99 rfl rfl rfl ?_
        refine pw_iload (q := 102) C dX5_succeeds_100 rfl rfl ?_
        refine pw_val (q := 105) (cr_s (j := iX0_cuts) C dX5_succeeds_102 lX5_11 mX0_cuts (ro_mk (by decide) (by decide))  (a_cuts hL hI hm hc) rfl rfl (Nat.le_of_ble_eq_true rfl) ⟨by omega, by omega⟩) rfl (fun M102 e102 => ?_)
        refine pw_if_eq_b (q := 108) 112 C dX5_succeeds_105 (by decide) rfl (fun g105 => ?_) (fun g105 => ?_)
        · refine pw_iconst_n (q := 113) C 0 dX5_succeeds_112 (by decide +kernel) rfl ?_
          exact pw_zret C dX5_succeeds_113 rfl (by first | decide +kernel | exact nar_bN _ | exact nar_01 (by omega)) ⟨by omega, by omega⟩ (RV.mk (ok_no (fun q => g105 q.2.2.2)) ⟨by rw [st_no (fun q => g105 q.2.2.2)]; rw [if_neg g105] at e102; exact e102.1, e102.2⟩)
        · refine pw_iconst_n (q := 109) C 1 dX5_succeeds_108 (by decide +kernel) rfl ?_
          refine pw_goto (q := 0) 113 C dX5_succeeds_109 (by decide) ?_
          exact pw_zret C dX5_succeeds_113 rfl (by first | decide +kernel | exact nar_bN _ | exact nar_01 (by omega)) ⟨by omega, by omega⟩ (RV.mk (ok_yes ⟨by omega, hm, hc, g105⟩) ⟨by rw [st_yes ⟨by omega, hm, hc, g105⟩]; rw [if_pos g105] at e102; exact e102.1, e102.2⟩)
      · refine pw_aload_n (q := 98) (j := 0) C dX5_succeeds_97 rfl rfl rfl ?_
        refine pw_iload_n (q := 99) (j := 2) C dX5_succeeds_98 rfl rfl rfl ?_
        refine pw_iload_n (q := 100) (j := 3) C dX5_succeeds_99 rfl rfl rfl ?_
        refine pw_iload (q := 102) C dX5_succeeds_100 rfl rfl ?_
        refine pw_rd (q := 105) (cr_s (j := iX0_cuts) C dX5_succeeds_102 lX5_11 mX0_cuts (ro_mk (by decide) (by decide))  (a_cuts_badm hL hI hbad) rfl rfl (Nat.le_of_ble_eq_true rfl) ⟨by omega, by omega⟩) rfl ?_
        refine pw_if_eq_n (q := 108) 112 C dX5_succeeds_105 (by decide) rfl (by omega) (fun g105 => ?_) (fun g105 => absurd g105 (by omega))
        refine pw_iconst_n (q := 113) C 0 dX5_succeeds_112 (by decide +kernel) rfl ?_
        exact pw_zret C dX5_succeeds_113 rfl (by first | decide +kernel | exact nar_bN _ | exact nar_01 (by omega)) ⟨by omega, by omega⟩ (RV.mk (ok_no (fun q => nbad hbad (by omega) (by omega) q.2.1)) ⟨by rw [st_no (fun q => nbad hbad (by omega) (by omega) q.2.1)]; exact hL, Same.rf⟩)
      · refine pw_aload_n (q := 98) (j := 0) C dX5_succeeds_97 rfl rfl rfl ?_
        refine pw_iload_n (q := 99) (j := 2) C dX5_succeeds_98 rfl rfl rfl ?_
        refine pw_iload_n (q := 100) (j := 3) C dX5_succeeds_99 rfl rfl rfl ?_
        refine pw_iload (q := 102) C dX5_succeeds_100 rfl rfl ?_
        refine pw_rd (q := 105) (cr_s (j := iX0_cuts) C dX5_succeeds_102 lX5_11 mX0_cuts (ro_mk (by decide) (by decide))  (a_cuts_badc hL hI hm hbad) rfl rfl (Nat.le_of_ble_eq_true rfl) ⟨by omega, by omega⟩) rfl ?_
        refine pw_if_eq_n (q := 108) 112 C dX5_succeeds_105 (by decide) rfl (by omega) (fun g105 => ?_) (fun g105 => absurd g105 (by omega))
        refine pw_iconst_n (q := 113) C 0 dX5_succeeds_112 (by decide +kernel) rfl ?_
        exact pw_zret C dX5_succeeds_113 rfl (by first | decide +kernel | exact nar_bN _ | exact nar_01 (by omega)) ⟨by omega, by omega⟩ (RV.mk (ok_no (fun q => nbad hbad (by omega) (by omega) q.2.2.1)) ⟨by rw [st_no (fun q => nbad hbad (by omega) (by omega) q.2.2.1)]; exact hL, Same.rf⟩)
  · rw [h43, cmd_2 h43]
    unfold cmd2
    refine pw_tableIn (q := 0) 114 C dX5_succeeds_43 (by decide +kernel) (by decide +kernel) (by rfl) (by decide) ?_
    refine pw_iload_n (q := 115) (j := 2) C dX5_succeeds_114 rfl rfl rfl ?_
    refine pw_if_ne_n (q := 118) 135 C dX5_succeeds_115 (by decide) rfl (by omega) (fun g115 => ?_) (fun g115 => ?_)
    · refine pw_iconst_n (q := 136) C 0 dX5_succeeds_135 (by decide +kernel) rfl ?_
      exact pw_zret C dX5_succeeds_136 rfl (by first | decide +kernel | exact nar_bN _ | exact nar_01 (by omega)) ⟨by omega, by omega⟩ (RV.mk (ok_no (fun q => g115 q.1)) ⟨by rw [st_no (fun q => g115 q.1)]; exact hL, Same.rf⟩)
    · refine pw_iload_n (q := 119) (j := 3) C dX5_succeeds_118 rfl rfl rfl ?_
      refine pw_if_ne_n (q := 122) 135 C dX5_succeeds_119 (by decide) rfl (by omega) (fun g119 => ?_) (fun g119 => ?_)
      · refine pw_iconst_n (q := 136) C 0 dX5_succeeds_135 (by decide +kernel) rfl ?_
        exact pw_zret C dX5_succeeds_136 rfl (by first | decide +kernel | exact nar_bN _ | exact nar_01 (by omega)) ⟨by omega, by omega⟩ (RV.mk (ok_no (fun q => g119 q.2.1)) ⟨by rw [st_no (fun q => g119 q.2.1)]; exact hL, Same.rf⟩)
      · rcases in_or_bad (n := (g % 100)) (R := P 7) (by omega) (by omega) with hx | hbad
        · refine pw_aload_n (q := 123) (j := 0) C dX5_succeeds_122 rfl rfl rfl ?_
          refine pw_iload (q := 125) C dX5_succeeds_123 rfl rfl ?_
          refine pw_val (q := 128) (cr_s (j := iX0_inspects) C dX5_succeeds_125 lX5_17 mX0_inspects (ro_mk (by decide) (by decide))  (a_inspects hL hI hx) rfl rfl (Nat.le_of_ble_eq_true rfl) ⟨by omega, by omega⟩) rfl (fun M125 e125 => ?_)
          refine pw_if_eq_b (q := 131) 135 C dX5_succeeds_128 (by decide) rfl (fun g128 => ?_) (fun g128 => ?_)
          · refine pw_iconst_n (q := 136) C 0 dX5_succeeds_135 (by decide +kernel) rfl ?_
            exact pw_zret C dX5_succeeds_136 rfl (by first | decide +kernel | exact nar_bN _ | exact nar_01 (by omega)) ⟨by omega, by omega⟩ (RV.mk (ok_no (fun q => g128 q.2.2.2)) ⟨by rw [st_no (fun q => g128 q.2.2.2)]; rw [if_neg g128] at e125; exact e125.1, e125.2⟩)
          · refine pw_iconst_n (q := 132) C 1 dX5_succeeds_131 (by decide +kernel) rfl ?_
            refine pw_goto (q := 0) 136 C dX5_succeeds_132 (by decide) ?_
            exact pw_zret C dX5_succeeds_136 rfl (by first | decide +kernel | exact nar_bN _ | exact nar_01 (by omega)) ⟨by omega, by omega⟩ (RV.mk (ok_yes ⟨by omega, by omega, hx, g128⟩) ⟨by rw [st_yes ⟨by omega, by omega, hx, g128⟩]; rw [if_pos g128] at e125; exact e125.1, e125.2⟩)
        · refine pw_aload_n (q := 123) (j := 0) C dX5_succeeds_122 rfl rfl rfl ?_
          refine pw_iload (q := 125) C dX5_succeeds_123 rfl rfl ?_
          refine pw_rd (q := 128) (cr_s (j := iX0_inspects) C dX5_succeeds_125 lX5_17 mX0_inspects (ro_mk (by decide) (by decide))  (a_inspects_bad hL hI hbad) rfl rfl (Nat.le_of_ble_eq_true rfl) ⟨by omega, by omega⟩) rfl ?_
          refine pw_if_eq_n (q := 131) 135 C dX5_succeeds_128 (by decide) rfl (by omega) (fun g128 => ?_) (fun g128 => absurd g128 (by omega))
          refine pw_iconst_n (q := 136) C 0 dX5_succeeds_135 (by decide +kernel) rfl ?_
          exact pw_zret C dX5_succeeds_136 rfl (by first | decide +kernel | exact nar_bN _ | exact nar_01 (by omega)) ⟨by omega, by omega⟩ (RV.mk (ok_no (fun q => nbad hbad (by omega) (by omega) q.2.2.1)) ⟨by rw [st_no (fun q => nbad hbad (by omega) (by omega) q.2.2.1)]; exact hL, Same.rf⟩)
  · rw [h43, cmd_3 h43]
    unfold cmd3
    refine pw_tableIn (q := 0) 137 C dX5_succeeds_43 (by decide +kernel) (by decide +kernel) (by rfl) (by decide) ?_
    have h3 : ((g / 1000 % 10) < P 6 ∧ (g % 100) < P 7 ∧ (g / 100 % 10) < P 5) ∨ badR (nI (g / 1000 % 10)) (P 6) ∨ ((g / 1000 % 10) < P 6 ∧ badR (nI (g % 100)) (P 7)) ∨ ((g / 1000 % 10) < P 6 ∧ (g % 100) < P 7 ∧ badR (nI (g / 100 % 10)) (P 5)) := by
      rcases in_or_bad (n := (g / 1000 % 10)) (R := P 6) (by omega) (by omega) with h | h
      · rcases in_or_bad (n := (g % 100)) (R := P 7) (by omega) (by omega) with h2 | h2
        · rcases in_or_bad (n := (g / 100 % 10)) (R := P 5) (by omega) (by omega) with h1 | h1
          · exact Or.inl ⟨h, h2, h1⟩
          · exact Or.inr (Or.inr (Or.inr ⟨h, h2, h1⟩))
        · exact Or.inr (Or.inr (Or.inl ⟨h, h2⟩))
      · exact Or.inr (Or.inl h)
    rcases h3 with ⟨hm, hx, hc⟩ | hbad | ⟨hm, hbad⟩ | ⟨hm, hx, hbad⟩
    · refine pw_aload_n (q := 138) (j := 0) C dX5_succeeds_137 rfl rfl rfl ?_
      refine pw_iload_n (q := 139) (j := 2) C dX5_succeeds_138 rfl rfl rfl ?_
      refine pw_iload (q := 141) C dX5_succeeds_139 rfl rfl ?_
      refine pw_iload_n (q := 142) (j := 3) C dX5_succeeds_141 rfl rfl rfl ?_
      refine pw_val (q := 145) (cr_s (j := iX0_recuts) C dX5_succeeds_142 lX5_21 mX0_recuts (ro_mk (by decide) (by decide))  (a_recuts hL hI hm hx hc) rfl rfl (Nat.le_of_ble_eq_true rfl) ⟨by omega, by omega⟩) rfl (fun M142 e142 => ?_)
      exact pw_zret C dX5_succeeds_145 rfl (by first | decide +kernel | exact nar_bN _ | exact nar_01 (by omega)) ⟨by omega, by omega⟩ (by
          by_cases h9 : canRecut P (g / 1000 % 10) (g % 100) (g / 100 % 10)
          · rw [if_pos h9] at e142
            exact RV.mk (by rw [bN, if_pos h9]; exact ok_yes ⟨hm, hx, hc, h9⟩) ⟨by rw [st_yes ⟨hm, hx, hc, h9⟩]; exact e142.1, e142.2⟩
          · rw [if_neg h9] at e142
            exact RV.mk (by rw [bN, if_neg h9]; exact ok_no (fun q => h9 q.2.2.2)) ⟨by rw [st_no (fun q => h9 q.2.2.2)]; exact e142.1, e142.2⟩)
    · refine pw_aload_n (q := 138) (j := 0) C dX5_succeeds_137 rfl rfl rfl ?_
      refine pw_iload_n (q := 139) (j := 2) C dX5_succeeds_138 rfl rfl rfl ?_
      refine pw_iload (q := 141) C dX5_succeeds_139 rfl rfl ?_
      refine pw_iload_n (q := 142) (j := 3) C dX5_succeeds_141 rfl rfl rfl ?_
      refine pw_rd (q := 145) (cr_s (j := iX0_recuts) C dX5_succeeds_142 lX5_21 mX0_recuts (ro_mk (by decide) (by decide))  (a_recuts_badm hL hI hbad) rfl rfl (Nat.le_of_ble_eq_true rfl) ⟨by omega, by omega⟩) rfl ?_
      exact pw_zret C dX5_succeeds_145 rfl (by first | decide +kernel | exact nar_bN _ | exact nar_01 (by omega)) ⟨by omega, by omega⟩ (RV.mk (ok_no (fun q => nbad hbad (by omega) (by omega) q.1)) ⟨by rw [st_no (fun q => nbad hbad (by omega) (by omega) q.1)]; exact hL, Same.rf⟩)
    · refine pw_aload_n (q := 138) (j := 0) C dX5_succeeds_137 rfl rfl rfl ?_
      refine pw_iload_n (q := 139) (j := 2) C dX5_succeeds_138 rfl rfl rfl ?_
      refine pw_iload (q := 141) C dX5_succeeds_139 rfl rfl ?_
      refine pw_iload_n (q := 142) (j := 3) C dX5_succeeds_141 rfl rfl rfl ?_
      refine pw_rd (q := 145) (cr_s (j := iX0_recuts) C dX5_succeeds_142 lX5_21 mX0_recuts (ro_mk (by decide) (by decide))  (a_recuts_bads hL hI hm hbad) rfl rfl (Nat.le_of_ble_eq_true rfl) ⟨by omega, by omega⟩) rfl ?_
      exact pw_zret C dX5_succeeds_145 rfl (by first | decide +kernel | exact nar_bN _ | exact nar_01 (by omega)) ⟨by omega, by omega⟩ (RV.mk (ok_no (fun q => nbad hbad (by omega) (by omega) q.2.1)) ⟨by rw [st_no (fun q => nbad hbad (by omega) (by omega) q.2.1)]; exact hL, Same.rf⟩)
    · refine pw_aload_n (q := 138) (j := 0) C dX5_succeeds_137 rfl rfl rfl ?_
      refine pw_iload_n (q := 139) (j := 2) C dX5_succeeds_138 rfl rfl rfl ?_
      refine pw_iload (q := 141) C dX5_succeeds_139 rfl rfl ?_
      refine pw_iload_n (q := 142) (j := 3) C dX5_succeeds_141 rfl rfl rfl ?_
      refine pw_rd (q := 145) (cr_s (j := iX0_recuts) C dX5_succeeds_142 lX5_21 mX0_recuts (ro_mk (by decide) (by decide))  (a_recuts_badc hL hI hm hx hbad) rfl rfl (Nat.le_of_ble_eq_true rfl) ⟨by omega, by omega⟩) rfl ?_
      exact pw_zret C dX5_succeeds_145 rfl (by first | decide +kernel | exact nar_bN _ | exact nar_01 (by omega)) ⟨by omega, by omega⟩ (RV.mk (ok_no (fun q => nbad hbad (by omega) (by omega) q.2.2.1)) ⟨by rw [st_no (fun q => nbad hbad (by omega) (by omega) q.2.2.1)]; exact hL, Same.rf⟩)
  · rw [h43, cmd_4 h43]
    unfold cmd4
    refine pw_tableIn (q := 0) 146 C dX5_succeeds_43 (by decide +kernel) (by decide +kernel) (by rfl) (by decide) ?_
    refine pw_iload_n (q := 147) (j := 2) C dX5_succeeds_146 rfl rfl rfl ?_
    refine pw_if_ne_n (q := 150) 167 C dX5_succeeds_147 (by decide) rfl (by omega) (fun g147 => ?_) (fun g147 => ?_)
    · refine pw_iconst_n (q := 168) C 0 dX5_succeeds_167 (by decide +kernel) rfl ?_
      exact pw_zret C dX5_succeeds_168 rfl (by first | decide +kernel | exact nar_bN _ | exact nar_01 (by omega)) ⟨by omega, by omega⟩ (RV.mk (ok_no (fun q => g147 q.1)) ⟨by rw [st_no (fun q => g147 q.1)]; exact hL, Same.rf⟩)
    · refine pw_iload_n (q := 151) (j := 3) C dX5_succeeds_150 rfl rfl rfl ?_
      refine pw_if_ne_n (q := 154) 167 C dX5_succeeds_151 (by decide) rfl (by omega) (fun g151 => ?_) (fun g151 => ?_)
      · refine pw_iconst_n (q := 168) C 0 dX5_succeeds_167 (by decide +kernel) rfl ?_
        exact pw_zret C dX5_succeeds_168 rfl (by first | decide +kernel | exact nar_bN _ | exact nar_01 (by omega)) ⟨by omega, by omega⟩ (RV.mk (ok_no (fun q => g151 q.2.1)) ⟨by rw [st_no (fun q => g151 q.2.1)]; exact hL, Same.rf⟩)
      · rcases in_or_bad (n := (g % 100)) (R := P 7) (by omega) (by omega) with hx | hbad
        · refine pw_aload_n (q := 155) (j := 0) C dX5_succeeds_154 rfl rfl rfl ?_
          refine pw_iload (q := 157) C dX5_succeeds_155 rfl rfl ?_
          refine pw_val (q := 160) (cr_s (j := iX0_sets) C dX5_succeeds_157 lX5_24 mX0_sets (ro_mk (by decide) (by decide))  (a_sets hL hI hx (fun h => hI.set hx h)) rfl rfl (Nat.le_of_ble_eq_true rfl) ⟨by omega, by omega⟩) rfl (fun M157 e157 => ?_)
          refine pw_if_eq_b (q := 163) 167 C dX5_succeeds_160 (by decide) rfl (fun g160 => ?_) (fun g160 => ?_)
          · refine pw_iconst_n (q := 168) C 0 dX5_succeeds_167 (by decide +kernel) rfl ?_
            exact pw_zret C dX5_succeeds_168 rfl (by first | decide +kernel | exact nar_bN _ | exact nar_01 (by omega)) ⟨by omega, by omega⟩ (RV.mk (ok_no (fun q => g160 q.2.2.2)) ⟨by rw [st_no (fun q => g160 q.2.2.2)]; rw [if_neg g160] at e157; exact e157.1, e157.2⟩)
          · refine pw_iconst_n (q := 164) C 1 dX5_succeeds_163 (by decide +kernel) rfl ?_
            refine pw_goto (q := 0) 168 C dX5_succeeds_164 (by decide) ?_
            exact pw_zret C dX5_succeeds_168 rfl (by first | decide +kernel | exact nar_bN _ | exact nar_01 (by omega)) ⟨by omega, by omega⟩ (RV.mk (ok_yes ⟨by omega, by omega, hx, g160⟩) ⟨by rw [st_yes ⟨by omega, by omega, hx, g160⟩]; rw [if_pos g160] at e157; exact e157.1, e157.2⟩)
        · refine pw_aload_n (q := 155) (j := 0) C dX5_succeeds_154 rfl rfl rfl ?_
          refine pw_iload (q := 157) C dX5_succeeds_155 rfl rfl ?_
          refine pw_rd (q := 160) (cr_s (j := iX0_sets) C dX5_succeeds_157 lX5_24 mX0_sets (ro_mk (by decide) (by decide))  (a_sets_bad hL hI hbad) rfl rfl (Nat.le_of_ble_eq_true rfl) ⟨by omega, by omega⟩) rfl ?_
          refine pw_if_eq_n (q := 163) 167 C dX5_succeeds_160 (by decide) rfl (by omega) (fun g160 => ?_) (fun g160 => absurd g160 (by omega))
          refine pw_iconst_n (q := 168) C 0 dX5_succeeds_167 (by decide +kernel) rfl ?_
          exact pw_zret C dX5_succeeds_168 rfl (by first | decide +kernel | exact nar_bN _ | exact nar_01 (by omega)) ⟨by omega, by omega⟩ (RV.mk (ok_no (fun q => nbad hbad (by omega) (by omega) q.2.2.1)) ⟨by rw [st_no (fun q => nbad hbad (by omega) (by omega) q.2.2.1)]; exact hL, Same.rf⟩)
  · rw [h43, cmd_5 h43]
    unfold cmd5
    refine pw_tableIn (q := 0) 169 C dX5_succeeds_43 (by decide +kernel) (by decide +kernel) (by rfl) (by decide) ?_
    refine pw_iload_n (q := 170) (j := 2) C dX5_succeeds_169 rfl rfl rfl ?_
    refine pw_if_ne_n (q := 173) 195 C dX5_succeeds_170 (by decide) rfl (by omega) (fun g170 => ?_) (fun g170 => ?_)
    · refine pw_iconst_n (q := 196) C 0 dX5_succeeds_195 (by decide +kernel) rfl ?_
      exact pw_zret C dX5_succeeds_196 rfl (by first | decide +kernel | exact nar_bN _ | exact nar_01 (by omega)) ⟨by omega, by omega⟩ (RV.mk (ok_no (fun q => g170 q.1)) ⟨by rw [st_no (fun q => g170 q.1)]; exact hL, Same.rf⟩)
    · refine pw_iload_n (q := 174) (j := 3) C dX5_succeeds_173 rfl rfl rfl ?_
      refine pw_if_ne_n (q := 177) 195 C dX5_succeeds_174 (by decide) rfl (by omega) (fun g174 => ?_) (fun g174 => ?_)
      · refine pw_iconst_n (q := 196) C 0 dX5_succeeds_195 (by decide +kernel) rfl ?_
        exact pw_zret C dX5_succeeds_196 rfl (by first | decide +kernel | exact nar_bN _ | exact nar_01 (by omega)) ⟨by omega, by omega⟩ (RV.mk (ok_no (fun q => g174 q.2.1)) ⟨by rw [st_no (fun q => g174 q.2.1)]; exact hL, Same.rf⟩)
      · refine pw_iload (q := 179) C dX5_succeeds_177 rfl rfl ?_
        refine pw_if_ne_n (q := 182) 195 C dX5_succeeds_179 (by decide) rfl (by omega) (fun g179 => ?_) (fun g179 => ?_)
        · refine pw_iconst_n (q := 196) C 0 dX5_succeeds_195 (by decide +kernel) rfl ?_
          exact pw_zret C dX5_succeeds_196 rfl (by first | decide +kernel | exact nar_bN _ | exact nar_01 (by omega)) ⟨by omega, by omega⟩ (RV.mk (ok_no (fun q => g179 q.2.2.1)) ⟨by rw [st_no (fun q => g179 q.2.2.1)]; exact hL, Same.rf⟩)
        · refine pw_aload_n (q := 183) (j := 0) C dX5_succeeds_182 rfl rfl rfl ?_
          refine pw_iload (q := 185) C dX5_succeeds_183 rfl rfl ?_
          refine pw_val (q := 188) (cr_s (j := iX5_begins) C dX5_succeeds_185 lX5_27 mX5_begins (ro_mk (by decide) (by decide))  (c_begins hL hI (by omega) hd) rfl rfl (Nat.le_of_ble_eq_true rfl) ⟨by omega, by omega⟩) rfl (fun M185 e185 => ?_)
          refine pw_if_eq_b (q := 191) 195 C dX5_succeeds_188 (by decide) rfl (fun g188 => ?_) (fun g188 => ?_)
          · refine pw_iconst_n (q := 196) C 0 dX5_succeeds_195 (by decide +kernel) rfl ?_
            exact pw_zret C dX5_succeeds_196 rfl (by first | decide +kernel | exact nar_bN _ | exact nar_01 (by omega)) ⟨by omega, by omega⟩ (RV.mk (ok_no (fun q => g188 q.2.2.2)) ⟨by rw [st_no (fun q => g188 q.2.2.2)]; rw [if_neg g188] at e185; exact e185.1, e185.2⟩)
          · refine pw_iconst_n (q := 192) C 1 dX5_succeeds_191 (by decide +kernel) rfl ?_
            refine pw_goto (q := 0) 196 C dX5_succeeds_192 (by decide) ?_
            exact pw_zret C dX5_succeeds_196 rfl (by first | decide +kernel | exact nar_bN _ | exact nar_01 (by omega)) ⟨by omega, by omega⟩ (RV.mk (ok_yes ⟨by omega, by omega, by omega, g188⟩) ⟨by rw [st_yes ⟨by omega, by omega, by omega, g188⟩]; rw [if_pos g188] at e185; exact e185.1, e185.2⟩)
  · rw [h43, cmd_6 h43]
    unfold cmd6
    refine pw_tableIn (q := 0) 197 C dX5_succeeds_43 (by decide +kernel) (by decide +kernel) (by rfl) (by decide) ?_
    refine pw_iload_n (q := 198) (j := 2) C dX5_succeeds_197 rfl rfl rfl ?_
    refine pw_if_ne_n (q := 201) 223 C dX5_succeeds_198 (by decide) rfl (by omega) (fun g198 => ?_) (fun g198 => ?_)
    · refine pw_iconst_n (q := 224) C 0 dX5_succeeds_223 (by decide +kernel) rfl ?_
      exact pw_zret C dX5_succeeds_224 rfl (by first | decide +kernel | exact nar_bN _ | exact nar_01 (by omega)) ⟨by omega, by omega⟩ (RV.mk (ok_no (fun q => g198 q.1)) ⟨by rw [st_no (fun q => g198 q.1)]; exact hL, Same.rf⟩)
    · refine pw_iload_n (q := 202) (j := 3) C dX5_succeeds_201 rfl rfl rfl ?_
      refine pw_if_ne_n (q := 205) 223 C dX5_succeeds_202 (by decide) rfl (by omega) (fun g202 => ?_) (fun g202 => ?_)
      · refine pw_iconst_n (q := 224) C 0 dX5_succeeds_223 (by decide +kernel) rfl ?_
        exact pw_zret C dX5_succeeds_224 rfl (by first | decide +kernel | exact nar_bN _ | exact nar_01 (by omega)) ⟨by omega, by omega⟩ (RV.mk (ok_no (fun q => g202 q.2.1)) ⟨by rw [st_no (fun q => g202 q.2.1)]; exact hL, Same.rf⟩)
      · refine pw_iload (q := 207) C dX5_succeeds_205 rfl rfl ?_
        refine pw_if_ne_n (q := 210) 223 C dX5_succeeds_207 (by decide) rfl (by omega) (fun g207 => ?_) (fun g207 => ?_)
        · refine pw_iconst_n (q := 224) C 0 dX5_succeeds_223 (by decide +kernel) rfl ?_
          exact pw_zret C dX5_succeeds_224 rfl (by first | decide +kernel | exact nar_bN _ | exact nar_01 (by omega)) ⟨by omega, by omega⟩ (RV.mk (ok_no (fun q => g207 q.2.2)) ⟨by rw [st_no (fun q => g207 q.2.2)]; exact hL, Same.rf⟩)
        · refine pw_aload_n (q := 211) (j := 0) C dX5_succeeds_210 rfl rfl rfl ?_
          refine pw_iload (q := 213) C dX5_succeeds_211 rfl rfl ?_
          refine pw_val (q := 216) (cr_s (j := iX5_bounds) C dX5_succeeds_213 lX5_32 mX5_bounds (ro_mk (by decide) (by decide))  (c_bounds hL hI _) rfl rfl (Nat.le_of_ble_eq_true rfl) ⟨by omega, by omega⟩) rfl (fun M213 e213 => ?_)
          refine pw_if_eq_n (q := 219) 223 C dX5_succeeds_216 (by decide) rfl (by omega) (fun g216 => absurd g216 (by omega)) (fun g216 => ?_)
          refine pw_iconst_n (q := 220) C 1 dX5_succeeds_219 (by decide +kernel) rfl ?_
          refine pw_goto (q := 0) 224 C dX5_succeeds_220 (by decide) ?_
          exact pw_zret C dX5_succeeds_224 rfl (by first | decide +kernel | exact nar_bN _ | exact nar_01 (by omega)) ⟨by omega, by omega⟩ (RV.mk (ok_yes ⟨by omega, by omega, by omega⟩) ⟨by rw [st_yes ⟨by omega, by omega, by omega⟩]; exact e213.1, e213.2⟩)
  · rw [h43, cmd_7 h43]
    unfold cmd7
    refine pw_tableIn (q := 0) 225 C dX5_succeeds_43 (by decide +kernel) (by decide +kernel) (by rfl) (by decide) ?_
    refine pw_iload_n (q := 226) (j := 2) C dX5_succeeds_225 rfl rfl rfl ?_
    refine pw_if_ne_n (q := 229) 246 C dX5_succeeds_226 (by decide) rfl (by omega) (fun g226 => ?_) (fun g226 => ?_)
    · refine pw_iconst_n (q := 247) C 0 dX5_succeeds_246 (by decide +kernel) rfl ?_
      exact pw_zret C dX5_succeeds_247 rfl (by first | decide +kernel | exact nar_bN _ | exact nar_01 (by omega)) ⟨by omega, by omega⟩ (RV.mk (ok_no (fun q => g226 q.1)) ⟨by rw [st_no (fun q => g226 q.1)]; exact hL, Same.rf⟩)
    · refine pw_iload_n (q := 230) (j := 3) C dX5_succeeds_229 rfl rfl rfl ?_
      refine pw_if_ne_n (q := 233) 246 C dX5_succeeds_230 (by decide) rfl (by omega) (fun g230 => ?_) (fun g230 => ?_)
      · refine pw_iconst_n (q := 247) C 0 dX5_succeeds_246 (by decide +kernel) rfl ?_
        exact pw_zret C dX5_succeeds_247 rfl (by first | decide +kernel | exact nar_bN _ | exact nar_01 (by omega)) ⟨by omega, by omega⟩ (RV.mk (ok_no (fun q => g230 q.2.1)) ⟨by rw [st_no (fun q => g230 q.2.1)]; exact hL, Same.rf⟩)
      · rcases in_or_bad (n := (g % 100)) (R := P 7) (by omega) (by omega) with hx | hbad
        · refine pw_aload_n (q := 234) (j := 0) C dX5_succeeds_233 rfl rfl rfl ?_
          refine pw_iload (q := 236) C dX5_succeeds_234 rfl rfl ?_
          refine pw_val (q := 239) (cr_s (j := iX0_scraps) C dX5_succeeds_236 lX5_35 mX0_scraps (ro_mk (by decide) (by decide))  (a_scraps hL hI hx (fun h => hI.scrap hx h)) rfl rfl (Nat.le_of_ble_eq_true rfl) ⟨by omega, by omega⟩) rfl (fun M236 e236 => ?_)
          refine pw_if_eq_b (q := 242) 246 C dX5_succeeds_239 (by decide) rfl (fun g239 => ?_) (fun g239 => ?_)
          · refine pw_iconst_n (q := 247) C 0 dX5_succeeds_246 (by decide +kernel) rfl ?_
            exact pw_zret C dX5_succeeds_247 rfl (by first | decide +kernel | exact nar_bN _ | exact nar_01 (by omega)) ⟨by omega, by omega⟩ (RV.mk (ok_no (fun q => g239 q.2.2.2)) ⟨by rw [st_no (fun q => g239 q.2.2.2)]; rw [if_neg g239] at e236; exact e236.1, e236.2⟩)
          · refine pw_iconst_n (q := 243) C 1 dX5_succeeds_242 (by decide +kernel) rfl ?_
            refine pw_goto (q := 0) 247 C dX5_succeeds_243 (by decide) ?_
            exact pw_zret C dX5_succeeds_247 rfl (by first | decide +kernel | exact nar_bN _ | exact nar_01 (by omega)) ⟨by omega, by omega⟩ (RV.mk (ok_yes ⟨by omega, by omega, hx, g239⟩) ⟨by rw [st_yes ⟨by omega, by omega, hx, g239⟩]; rw [if_pos g239] at e236; exact e236.1, e236.2⟩)
        · refine pw_aload_n (q := 234) (j := 0) C dX5_succeeds_233 rfl rfl rfl ?_
          refine pw_iload (q := 236) C dX5_succeeds_234 rfl rfl ?_
          refine pw_rd (q := 239) (cr_s (j := iX0_scraps) C dX5_succeeds_236 lX5_35 mX0_scraps (ro_mk (by decide) (by decide))  (a_scraps_bad hL hI hbad) rfl rfl (Nat.le_of_ble_eq_true rfl) ⟨by omega, by omega⟩) rfl ?_
          refine pw_if_eq_n (q := 242) 246 C dX5_succeeds_239 (by decide) rfl (by omega) (fun g239 => ?_) (fun g239 => absurd g239 (by omega))
          refine pw_iconst_n (q := 247) C 0 dX5_succeeds_246 (by decide +kernel) rfl ?_
          exact pw_zret C dX5_succeeds_247 rfl (by first | decide +kernel | exact nar_bN _ | exact nar_01 (by omega)) ⟨by omega, by omega⟩ (RV.mk (ok_no (fun q => nbad hbad (by omega) (by omega) q.2.2.1)) ⟨by rw [st_no (fun q => nbad hbad (by omega) (by omega) q.2.2.1)]; exact hL, Same.rf⟩)
  · rw [h43, cmd_8 h43]
    unfold cmd8
    refine pw_tableIn (q := 0) 248 C dX5_succeeds_43 (by decide +kernel) (by decide +kernel) (by rfl) (by decide) ?_
    refine pw_aload_n (q := 249) (j := 0) C dX5_succeeds_248 rfl rfl rfl ?_
    refine pw_getf (q := 252) C dX5_succeeds_249 fX5_38 hG.1 (by rfl) rfl ?_
    refine pw_iconst_n (q := 253) C 3 dX5_succeeds_252 (by decide +kernel) rfl ?_
    refine pw_rd (q := 256) (cr_v (j := iX8_sum) C dX5_succeeds_253 lX5_44 mX8_sum (ro_mk (by decide) (by decide)) hG.2.2.1.1 rfl (g_owed hG hr) rfl rfl (Nat.le_of_ble_eq_true rfl) ⟨by omega, by omega⟩) rfl ?_
    refine pw_iload_n (q := 257) (j := 1) C dX5_succeeds_256 rfl rfl rfl ?_
    refine pw_sipush_n (q := 260) C 10000 dX5_succeeds_257 (by decide +kernel) rfl ?_
    refine pw_irem_n (q := 261) C dX5_succeeds_260 (by omega) (by omega) (by omega) rfl ?_
    
    refine pw_icmp_lt (q := 264) 268 C dX5_succeeds_261 (by decide) rfl (fun g261 => ?_) (fun g261 => ?_)
    · refine pw_iconst_n (q := 269) C 0 dX5_succeeds_268 (by decide +kernel) rfl ?_
      exact pw_zret C dX5_succeeds_269 rfl (by first | decide +kernel | exact nar_bN _ | exact nar_01 (by omega)) ⟨by omega, by omega⟩ (RV.mk (ok_no (fun q => absurd g261 (Int32.not_lt.mpr q))) ⟨by rw [st_no (fun q => absurd g261 (Int32.not_lt.mpr q))]; exact hL, Same.rf⟩)
    · refine pw_iconst_n (q := 265) C 1 dX5_succeeds_264 (by decide +kernel) rfl ?_
      refine pw_goto (q := 0) 269 C dX5_succeeds_265 (by decide) ?_
      exact pw_zret C dX5_succeeds_269 rfl (by first | decide +kernel | exact nar_bN _ | exact nar_01 (by omega)) ⟨by omega, by omega⟩ (RV.mk (ok_yes (Int32.not_lt.mp g261)) ⟨by rw [st_yes (Int32.not_lt.mp g261)]; exact hL, Same.rf⟩)
  · rw [h43, cmd_9 h43]
    unfold cmd9
    refine pw_tableIn (q := 0) 270 C dX5_succeeds_43 (by decide +kernel) (by decide +kernel) (by rfl) (by decide) ?_
    refine pw_iload_n (q := 271) (j := 3) C dX5_succeeds_270 rfl rfl rfl ?_
    refine pw_if_ne_n (q := 274) 310 C dX5_succeeds_271 (by decide) rfl (by omega) (fun g271 => ?_) (fun g271 => ?_)
    · refine pw_iconst_n (q := 311) C 0 dX5_succeeds_310 (by decide +kernel) rfl ?_
      exact pw_zret C dX5_succeeds_311 rfl (by first | decide +kernel | exact nar_bN _ | exact nar_01 (by omega)) ⟨by omega, by omega⟩ (RV.mk (ok_no (fun q => g271 q.1)) ⟨by rw [st_no (fun q => g271 q.1)]; exact hL, Same.rf⟩)
    · refine pw_iload (q := 276) C dX5_succeeds_274 rfl rfl ?_
      refine pw_if_ne_n (q := 279) 310 C dX5_succeeds_276 (by decide) rfl (by omega) (fun g276 => ?_) (fun g276 => ?_)
      · refine pw_iconst_n (q := 311) C 0 dX5_succeeds_310 (by decide +kernel) rfl ?_
        exact pw_zret C dX5_succeeds_311 rfl (by first | decide +kernel | exact nar_bN _ | exact nar_01 (by omega)) ⟨by omega, by omega⟩ (RV.mk (ok_no (fun q => g276 q.2.1)) ⟨by rw [st_no (fun q => g276 q.2.1)]; exact hL, Same.rf⟩)
      · rcases in_or_bad (n := (g / 1000 % 10)) (R := P 5) (by omega) (by omega) with hx | hbad
        · refine pw_aload_n (q := 280) (j := 0) C dX5_succeeds_279 rfl rfl rfl ?_
          refine pw_getf (q := 283) C dX5_succeeds_280 fX5_50 hG.1 (by rfl) rfl ?_
          refine pw_iload_n (q := 284) (j := 2) C dX5_succeeds_283 rfl rfl rfl ?_
          refine pw_rd (q := 287) (cr_v (j := iX8_has) C dX5_succeeds_284 lX5_53 mX8_has (ro_mk (by decide) (by decide)) hG.2.1.1 rfl (k_has_in hG.2.1 hx) rfl rfl (Nat.le_of_ble_eq_true rfl) ⟨by omega, by omega⟩) rfl ?_
          refine pw_if_eq_n (q := 290) 310 C dX5_succeeds_287 (by decide) rfl (by omega) (fun g287 => absurd g287 (by omega)) (fun g287 => ?_)
          refine pw_aload_n (q := 291) (j := 0) C dX5_succeeds_290 rfl rfl rfl ?_
          refine pw_getf (q := 294) C dX5_succeeds_291 fX5_57 hG.1 (by rfl) rfl ?_
          refine pw_iconst_n (q := 295) C 0 dX5_succeeds_294 (by decide +kernel) rfl ?_
          refine pw_iload_n (q := 296) (j := 2) C dX5_succeeds_295 rfl rfl rfl ?_
          refine pw_iconst_n (q := 297) C 3 dX5_succeeds_296 (by decide +kernel) rfl ?_
          refine pw_iconst_n (q := 298) C 3 dX5_succeeds_297 (by decide +kernel) rfl ?_
          refine pw_rd (q := 301) (cr_v (j := iX8_countBoth) C dX5_succeeds_298 lX5_60 mX8_countBoth (ro_mk (by decide) (by decide)) hG.2.2.2.1 rfl (g_cC hG hr hI (by omega) (by omega)) rfl rfl (Nat.le_of_ble_eq_true rfl) ⟨by omega, by omega⟩) rfl ?_
          refine pw_iload (q := 303) C dX5_succeeds_301 rfl rfl ?_
          refine pw_icmp_ne_n (q := 306) 310 C dX5_succeeds_303 (by decide) rfl (by omega) (by omega) (fun g303 => ?_) (fun g303 => ?_)
          · refine pw_iconst_n (q := 311) C 0 dX5_succeeds_310 (by decide +kernel) rfl ?_
            exact pw_zret C dX5_succeeds_311 rfl (by first | decide +kernel | exact nar_bN _ | exact nar_01 (by omega)) ⟨by omega, by omega⟩ (RV.mk (ok_no (fun q => g303 q.2.2.2)) ⟨by rw [st_no (fun q => g303 q.2.2.2)]; exact hL, Same.rf⟩)
          · refine pw_iconst_n (q := 307) C 1 dX5_succeeds_306 (by decide +kernel) rfl ?_
            refine pw_goto (q := 0) 311 C dX5_succeeds_307 (by decide) ?_
            exact pw_zret C dX5_succeeds_311 rfl (by first | decide +kernel | exact nar_bN _ | exact nar_01 (by omega)) ⟨by omega, by omega⟩ (RV.mk (ok_yes ⟨by omega, by omega, hx, g303⟩) ⟨by rw [st_yes ⟨by omega, by omega, hx, g303⟩]; exact hL, Same.rf⟩)
        · refine pw_aload_n (q := 280) (j := 0) C dX5_succeeds_279 rfl rfl rfl ?_
          refine pw_getf (q := 283) C dX5_succeeds_280 fX5_50 hG.1 (by rfl) rfl ?_
          refine pw_iload_n (q := 284) (j := 2) C dX5_succeeds_283 rfl rfl rfl ?_
          refine pw_rd (q := 287) (cr_v (j := iX8_has) C dX5_succeeds_284 lX5_53 mX8_has (ro_mk (by decide) (by decide)) hG.2.1.1 rfl (k_has_bad hG.2.1 hbad) rfl rfl (Nat.le_of_ble_eq_true rfl) ⟨by omega, by omega⟩) rfl ?_
          refine pw_if_eq_n (q := 290) 310 C dX5_succeeds_287 (by decide) rfl (by omega) (fun g287 => ?_) (fun g287 => absurd g287 (by omega))
          refine pw_iconst_n (q := 311) C 0 dX5_succeeds_310 (by decide +kernel) rfl ?_
          exact pw_zret C dX5_succeeds_311 rfl (by first | decide +kernel | exact nar_bN _ | exact nar_01 (by omega)) ⟨by omega, by omega⟩ (RV.mk (ok_no (fun q => nbad hbad (by omega) (by omega) q.2.2.1)) ⟨by rw [st_no (fun q => nbad hbad (by omega) (by omega) q.2.2.1)]; exact hL, Same.rf⟩)
  · rw [h43, cmd_0 h43]
    refine pw_tableOut (q := 0) 312 C dX5_succeeds_43 (Or.inl (by decide +kernel)) (by decide) ?_
    refine pw_iconst_n (q := 313) C 0 dX5_succeeds_312 (by decide +kernel) rfl ?_
    exact pw_zret C dX5_succeeds_313 rfl (by first | decide +kernel | exact nar_bN _ | exact nar_01 (by omega)) ⟨by omega, by omega⟩ (RV.mk (v0 (by decide)) ⟨hL, Same.rf⟩)
