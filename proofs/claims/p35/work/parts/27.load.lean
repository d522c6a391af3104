/-! errorPosition, load. -/
def loadP (S : St) : Nat → Nat := workAt (clP (allS (sT S) (sN S)).2.2.1 (allS (sT S) (sN S)).2.2.2) ((allS (sT S) (sN S)).2.2.1 6)
def spLoad (S : St) : RS := if (allS (sT S) (sN S)).1 = 1 then (0, nI (loadP S 7), (sN S, sT S, loadP S, 0, sH S, clrB (sB S), sK S)) else (1, 0, S)
theorem readS_p {T : Nat → Nat} {n : Nat} : ∀ {k p : Nat} {R : Nat → Nat} {fr : Nat}, (readS T n k p R fr).2.1 ≤ p + 4 * k
  | 0, p, R, fr => Nat.le_refl _
  | k + 1, p, R, fr => by
    have h1 := @parS_p T n p R fr
    rw [readS]
    split
    · split
      · have h2 := @readS_p T n k (parS T n p R fr).2.1 (parS T n p R fr).2.2.1 (parS T n p R fr).2.2.2
        omega
      · omega
    · dsimp only
      omega
theorem allS_p (T : Nat → Nat) (n : Nat) : (allS T n).2.1 ≤ 400 := by
  unfold allS
  split
  · split
    · have := @readS_p T n 80 2 (page0 (T 1 - 48)) 0
      omega
    · dsimp only
      omega
  · dsimp only
    omega
section
variable {M M1 : PH} {x : Nat} {S : St}
theorem RepX.trial2 (h : RepX M x S) (hQ : ∃ Q, LodgeAt M1 (x + 10) Q) (hz : M.1 ≤ M1.1) (hs : ∀ q, q < x + 137 → (q < x + 10 ∨ x + 10 + 7 ≤ q) → M1.2 q = M.2 q) : RepX M1 x S := by
  obtain ⟨a0, a1, a2, a3, a4, ⟨nx, a5⟩, a6, L, W, a7⟩ := h
  exact ⟨(hs _ (by omega) (by omega)).trans a0, by omega, a2.keep (fun q g1 g2 => hs q (by omega) (by omega)), a3.keep (fun q g1 g2 => hs q (by omega) (by omega)), hQ, ⟨nx, a5.keep (fun q g1 g2 => hs q (by omega) (by omega))⟩, a6.keep (fun q g1 g2 => hs q (by omega) (by omega)), L, W, a7.keep (fun q g1 g2 => hs q (by omega) (by omega))⟩
theorem RepX.load (h : RepX M x S) {P : Nat → Nat} {B : Nat → Nat} (hP : LodgeAt M1 (x + 3) P) (hR : ∃ nx, RingAt M1 (x + 17) nx 0 (sH S)) (hB : ShelfAt M1 (x + 117) B (sK S)) (hQ : ∃ Q, LodgeAt M1 (x + 10) Q) (hz : M.1 ≤ M1.1) (hs : ∀ q, q < x + 137 → (q < x + 3 ∨ x + 17 ≤ q) → (q < x + 17 ∨ x + 18 ≤ q) → (q < x + 117 ∨ x + 134 ≤ q) → M1.2 q = M.2 q) : RepX M1 x (sN S, sT S, P, 0, sH S, B, sK S) := by
  obtain ⟨a0, a1, a2, a3, a4, a5, a6, L, W, a7⟩ := h
  exact ⟨(hs _ (by omega) (by omega) (by omega) (by omega)).trans a0, by omega, a2.keep (fun q g1 g2 => hs q (by omega) (by omega) (by omega) (by omega)), hP, hQ, hR, hB, L, W, a7.keep (fun q g1 g2 => hs q (by omega) (by omega) (by omega) (by omega))⟩
end
set_option maxHeartbeats 200000 in
set_option maxRecDepth 100000 in
theorem p_errorPosition {M : PH} {x D : Nat} {S : St} (hX : RepX M x S) (hS : SInv D S) : Run iX10_errorPosition [.ref x] M 2 12 (QX M x (EX xA xA xA) ((0, errS (sT S) (sN S), S))) := by
  obtain ⟨a0, ax, aT, hL, ⟨aQ, aq⟩, ⟨nx, aR⟩, aS, aL, aW, aF⟩ := id hX
  obtain ⟨fc, fm, fs, hG, hr⟩ := id hL
  have hI := hS.1.1
  have hb := hI.b
  refine Run.of (l0 := [some (.ref x)]) (by decide +kernel) (Nat.le_of_ble_eq_true rfl) (by rfl) (fun Γ G C => ?_)
  refine pw_new (q := 3) C dX10_errorPosition_0 nX10_75 ⟨by omega, by omega⟩ rfl ?_
  refine pw_heap (fun M0 => M0.2 M.1 = some (.inr (3, [.null, .null, .int 0])) ∧ M.1 ≤ M0.1 ∧ ∀ q, q ≠ M.1 → M0.2 q = M.2 q) ⟨hnew_at rfl, Nat.le_succ _, fun q hq => hnew_ne rfl hq⟩ (fun M0 ⟨hR0, hz0, k0⟩ => ?_)
  have hX0 : RepX M0 x S := hX.keep hz0 (fun q g1 g2 => k0 q (by omega))
  obtain ⟨a0, _, aT, hL, ⟨aQ, aq⟩, ⟨nx, aR⟩, aS, aL, aW, aF⟩ := id hX0
  refine pw_dup (q := 4) C dX10_errorPosition_3 rfl rfl ?_
  refine pw_aload_n (q := 5) (j := 0) C dX10_errorPosition_4 rfl rfl rfl ?_
  refine pw_getf (q := 8) C dX10_errorPosition_5 fX10_10 a0 (by rfl) rfl ?_
  refine pw_aload_n (q := 9) (j := 0) C dX10_errorPosition_8 rfl rfl rfl ?_
  refine pw_getf (q := 12) C dX10_errorPosition_9 fX10_23 a0 (by rfl) rfl ?_
  refine pw_void (q := 15) (cr_i (j := iX4_init) C dX10_errorPosition_12 lX10_77 mX4_init (ro_mk (by decide) (by decide)) RN.no (d_init hR0) rfl rfl (Nat.le_of_ble_eq_true rfl) ⟨by omega, by omega⟩) rfl (fun M12 e12 => ?_)
  obtain ⟨hR, sm9⟩ := e12
  have hX2 : RepX M12 x S := hX0.keep (Nat.le_of_eq sm9.1.symm) (fun q g1 g2 => sm9.2 q (by omega))
  obtain ⟨a0, _, aT, hL, ⟨aQ, aq⟩, ⟨nx, aR⟩, aS, aL, aW, aF⟩ := id hX2
  refine pw_val (q := 18) (cr_v (j := iX4_read) C dX10_errorPosition_15 lX10_80 mX4_read (ro_mk (by decide) (by decide)) hR rfl (d_read hR aT aq ⟨by omega, by omega, by omega, by omega, by omega⟩) rfl rfl (Nat.le_of_ble_eq_true rfl) ⟨by omega, by omega⟩) rfl (fun M15 e15 => ?_)
  obtain ⟨hq, hld, sm7⟩ := e15
  have hz15 : M.1 ≤ M15.1 := by rw [sm7.1, sm9.1]; exact hz0
  have hk15 : ∀ q, q < M.1 → (q < x + 10 ∨ x + 10 + 7 ≤ q) → M15.2 q = M.2 q := fun q g1 g2 => ((sm7.2 q (by omega) g2).trans (sm9.2 q (by omega))).trans (k0 q (by omega))
  have hX5 : RepX M15 x S := hX.trial2 hq hz15 (fun q g1 g2 => hk15 q (by omega) g2)
  have f15 : Fr M M15 x := ⟨hz15, fun q g1 g2 => hk15 q g1 (by omega)⟩
  obtain ⟨a0, _, aT, hL, ⟨aQ, aq⟩, ⟨nx, aR⟩, aS, aL, aW, aF⟩ := id hX5
  exact pw_iret C dX10_errorPosition_18 rfl ⟨by omega, by omega⟩ (QX.ok (by rfl) hX5 f15)
set_option maxHeartbeats 200000 in
set_option maxRecDepth 100000 in
theorem p_load {M : PH} {x D : Nat} {S : St} (hX : RepX M x S) (hS : SInv D S) : Run iX10_load [.ref x] M 2 12 (QX M x (EX xS xS xS) (spLoad S)) := by
  obtain ⟨a0, ax, aT, hL, ⟨aQ, aq⟩, ⟨nx, aR⟩, aS, aL, aW, aF⟩ := id hX
  obtain ⟨fc, fm, fs, hG, hr⟩ := id hL
  have hI := hS.1.1
  have hb := hI.b
  refine Run.of (l0 := [some (.ref x)]) (by decide +kernel) (Nat.le_of_ble_eq_true rfl) (by rfl) (fun Γ G C => ?_)
  refine pw_new (q := 3) C dX10_load_0 nX10_75 ⟨by omega, by omega⟩ rfl ?_
  refine pw_heap (fun M0 => M0.2 M.1 = some (.inr (3, [.null, .null, .int 0])) ∧ M.1 ≤ M0.1 ∧ ∀ q, q ≠ M.1 → M0.2 q = M.2 q) ⟨hnew_at rfl, Nat.le_succ _, fun q hq => hnew_ne rfl hq⟩ (fun M0 ⟨hR0, hz0, k0⟩ => ?_)
  have hX0 : RepX M0 x S := hX.keep hz0 (fun q g1 g2 => k0 q (by omega))
  obtain ⟨a0, _, aT, hL, ⟨aQ, aq⟩, ⟨nx, aR⟩, aS, aL, aW, aF⟩ := id hX0
  refine pw_dup (q := 4) C dX10_load_3 rfl rfl ?_
  refine pw_aload_n (q := 5) (j := 0) C dX10_load_4 rfl rfl rfl ?_
  refine pw_getf (q := 8) C dX10_load_5 fX10_10 a0 (by rfl) rfl ?_
  refine pw_aload_n (q := 9) (j := 0) C dX10_load_8 rfl rfl rfl ?_
  refine pw_getf (q := 12) C dX10_load_9 fX10_23 a0 (by rfl) rfl ?_
  refine pw_void (q := 15) (cr_i (j := iX4_init) C dX10_load_12 lX10_77 mX4_init (ro_mk (by decide) (by decide)) RN.no (d_init hR0) rfl rfl (Nat.le_of_ble_eq_true rfl) ⟨by omega, by omega⟩) rfl (fun M12 e12 => ?_)
  obtain ⟨hR, sm9⟩ := e12
  have hX2 : RepX M12 x S := hX0.keep (Nat.le_of_eq sm9.1.symm) (fun q g1 g2 => sm9.2 q (by omega))
  obtain ⟨a0, _, aT, hL, ⟨aQ, aq⟩, ⟨nx, aR⟩, aS, aL, aW, aF⟩ := id hX2
  refine pw_val (q := 18) (cr_v (j := iX4_read) C dX10_load_15 lX10_80 mX4_read (ro_mk (by decide) (by decide)) hR rfl (d_read hR aT aq ⟨by omega, by omega, by omega, by omega, by omega⟩) rfl rfl (Nat.le_of_ble_eq_true rfl) ⟨by omega, by omega⟩) rfl (fun M15 e15 => ?_)
  obtain ⟨hq, hld, sm7⟩ := e15
  have hz15 : M.1 ≤ M15.1 := by rw [sm7.1, sm9.1]; exact hz0
  have hk15 : ∀ q, q < M.1 → (q < x + 10 ∨ x + 10 + 7 ≤ q) → M15.2 q = M.2 q := fun q g1 g2 => ((sm7.2 q (by omega) g2).trans (sm9.2 q (by omega))).trans (k0 q (by omega))
  have hX5 : RepX M15 x S := hX.trial2 hq hz15 (fun q g1 g2 => hk15 q (by omega) g2)
  have f15 : Fr M M15 x := ⟨hz15, fun q g1 g2 => hk15 q g1 (by omega)⟩
  obtain ⟨a0, _, aT, hL, ⟨aQ, aq⟩, ⟨nx, aR⟩, aS, aL, aW, aF⟩ := id hX5
  by_cases h1 : (allS (sT S) (sN S)).1 = 1
  · rw [errS, if_pos h1]
    obtain ⟨hQL, hI9, hfr9⟩ := hld h1
    have hQ2 : loadP S 2 ≤ 1 := by unfold loadP; rw [workAt_ne (by omega)]; exact hfr9
    refine pw_bipush (q := 20) (v := (-9)) C dX10_load_18 (by decide +kernel) rfl ?_
    refine pw_icmp_eq (q := 23) 33 C dX10_load_20 (by decide) rfl (fun g20 => ?_) (fun g20 => absurd g20 (fun q => q rfl))
    refine pw_aload_n (q := 34) (j := 0) C dX10_load_33 rfl rfl rfl ?_
    refine pw_getf (q := 37) C dX10_load_34 fX10_23 a0 (by rfl) rfl ?_
    refine pw_aload_n (q := 38) (j := 0) C dX10_load_37 rfl rfl rfl ?_
    refine pw_getf (q := 41) C dX10_load_38 fX10_19 a0 (by rfl) rfl ?_
    refine pw_void (q := 44) (cr_s (j := iX10_copyLodge) C dX10_load_41 lX10_85 mX10_copyLodge (ro_mk (by decide) (by decide))  (w_copyLodge hL hQL (by omega) hQ2) rfl rfl (Nat.le_of_ble_eq_true rfl) ⟨by omega, by omega⟩) rfl (fun M41 e41 => ?_)
    obtain ⟨hL, sm4⟩ := e41
    have hQL := hQL.far sm4 (by omega)
    have a0 := (sm4.2 x (by omega)).trans a0
    have aR := aR.keep (fun q g1 g2 => sm4.2 q (by omega))
    have aS := aS.keep (fun q g1 g2 => sm4.2 q (by omega))
    refine pw_aload_n (q := 45) (j := 0) C dX10_load_44 rfl rfl rfl ?_
    refine pw_getf (q := 48) C dX10_load_45 fX10_29 a0 (by rfl) rfl ?_
    refine pw_void (q := 51) (cr_v (j := iX3_forgetAll) C dX10_load_48 lX10_89 mX3_forgetAll (ro_mk (by decide) (by decide)) aR.1 rfl (r_forget aR) rfl rfl (Nat.le_of_ble_eq_true rfl) ⟨by omega, by omega⟩) rfl (fun M48 e48 => ?_)
    obtain ⟨aR, sm5⟩ := e48
    have hL := hL.far sm5 (by omega)
    have hQL := hQL.far sm5 (by omega)
    have a0 := (sm5.2 x (by omega)).trans a0
    have aS := aS.keep (fun q g1 g2 => sm5.2 q (by omega))
    refine pw_aload_n (q := 52) (j := 0) C dX10_load_51 rfl rfl rfl ?_
    refine pw_getf (q := 55) C dX10_load_52 fX10_36 a0 (by rfl) rfl ?_
    refine pw_void (q := 58) (cr_v (j := iX6_emptyAll) C dX10_load_55 lX10_92 mX6_emptyAll (ro_mk (by decide) (by decide)) aS.1 rfl (s_emptyAll aS) rfl rfl (Nat.le_of_ble_eq_true rfl) ⟨by omega, by omega⟩) rfl (fun M55 e55 => ?_)
    obtain ⟨aS, sm6⟩ := e55
    have hL := hL.far sm6 (by omega)
    have hQL := hQL.far sm6 (by omega)
    have a0 := (sm6.2 x (by omega)).trans a0
    have aR := aR.keep (fun q g1 g2 => sm6.2 q (by omega))
    obtain ⟨fc, fm, fs, hG, hr⟩ := id hL
    refine pw_aload_n (q := 59) (j := 0) C dX10_load_58 rfl rfl rfl ?_
    refine pw_getf (q := 62) C dX10_load_59 fX10_19 a0 (by rfl) rfl ?_
    refine pw_getf (q := 65) C dX10_load_62 fX10_95 hG.1 (by rfl) rfl ?_
    refine pw_rd (q := 68) (cr_v (j := iX8_size) C dX10_load_65 lX10_99 mX8_size (ro_mk (by decide) (by decide)) hG.2.2.2.1 rfl (k_size hG.2.2.2) rfl rfl (Nat.le_of_ble_eq_true rfl) ⟨by omega, by omega⟩) rfl ?_
    exact pw_iret C dX10_load_68 rfl ⟨by omega, by omega⟩ (by
        have t := hX5.load hL ⟨_, aR⟩ aS ⟨_, hQL⟩ (by rw [sm6.1, sm5.1, sm4.1]; exact Nat.le_refl _) (fun q g1 g2 g3 g4 => ((sm6.2 q g4).trans (sm5.2 q g3)).trans (sm4.2 q (by omega)))
        exact QX.ok (by rw [spLoad, if_pos h1]; rfl) t (f15.tr ⟨by rw [sm6.1, sm5.1, sm4.1]; exact Nat.le_refl _, fun q g1 g2 => ((sm6.2 q (by omega)).trans (sm5.2 q (by omega))).trans (sm4.2 q (by omega))⟩))
  · rw [errS, if_neg h1]
    have hpl := allS_p (sT S) (sN S)
    refine pw_bipush (q := 20) (v := (-9)) C dX10_load_18 (by decide +kernel) rfl ?_
    refine pw_icmp_eq (q := 23) 33 C dX10_load_20 (by decide) rfl (fun g20 => absurd g20 (optI_ne (by omega))) (fun g20 => ?_)
    refine pw_throw (T := []) C twX10_62_83_66 dX10_load_23 dX10_load_26 dX10_load_27 dX10_load_29 dX10_load_32 ⟨by decide, Nat.le_of_ble_eq_true rfl⟩ ⟨by omega, by omega⟩ (fun z hz => QX.no 0 (by rw [spLoad, if_neg h1]) rfl (hX5.up hz) (f15.tr (Fr.up hz)))
