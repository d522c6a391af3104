/-! Text, forecast, save slots. -/
theorem i2c_n {k : Nat} (h : k ≤ 255) : ((nI k).toUInt32 % 65536).toInt32 = nI k := by
  have t : ∀ k : Fin 256, ((nI k.1).toUInt32 % 65536).toInt32 = nI k.1 := by decide +kernel
  exact t ⟨k, by omega⟩
def spAppend (S : St) (c : Int32) : RS := if inW c 0 255 then (if sN S < 80 then (0, nI (sN S + 1), (sN S + 1, updN (sT S) (sN S) (idx c), sP S, sM S, sH S, sB S, sK S)) else (2, 0, S)) else (1, 0, S)
def spClear (S : St) : RS := (0, nI (sN S), (0, sT S, sP S, sM S, sH S, sB S, sK S))
def spSave (S : St) (s : Int32) : RS := if inW s 0 1 then (0, nI (sP S 1), (sN S, sT S, sP S, sM S, sH S, updN (sB S) (idx s) 1, fun i => if i = idx s then sP S else sK S i)) else (1, 0, S)
def spRestore (S : St) (s : Int32) : RS := if inW s 0 1 then (if sB S (idx s) = 1 then (0, nI (sK S (idx s) 1), (sN S, sT S, sK S (idx s), 0, sH S, sB S, sK S)) else (2, 0, S)) else (1, 0, S)
section
variable {M M1 : PH} {x : Nat} {S : St}
theorem RepX.text (h : RepX M x S) {n : Nat} {T : Nat → Nat} (hT : TextAt M1 (x + 1) (x + 2) n T) (s : Same M M1 (x + 1) (x + 3)) : RepX M1 x (n, T, sP S, sM S, sH S, sB S, sK S) ∧ Fr M M1 x := by
  obtain ⟨a0, a1, a2, a3, ⟨Q, a4⟩, ⟨nx, a5⟩, a6, L, W, a7⟩ := h
  have hs := s.2
  have hz : M1.1 = M.1 := s.1
  exact ⟨⟨(hs _ (by omega)).trans a0, by omega, hT, a3.keep (fun q g1 g2 => hs q (by omega)), ⟨Q, a4.keep (fun q g1 g2 => hs q (by omega))⟩, ⟨nx, a5.keep (fun q g1 g2 => hs q (by omega))⟩, a6.keep (fun q g1 g2 => hs q (by omega)), L, W, a7.keep (fun q g1 g2 => hs q (by omega))⟩, s.fr (by omega) (by omega)⟩
theorem RepX.fore (h : RepX M x S) (hF : ∃ L W, ForeAt M1 (x + 134) L W) (s : Same M M1 (x + 134) (x + 134 + 3)) : RepX M1 x S ∧ Fr M M1 x := by
  obtain ⟨a0, a1, a2, a3, ⟨Q, a4⟩, ⟨nx, a5⟩, a6, L, W, a7⟩ := h
  have hs := s.2
  have hz : M1.1 = M.1 := s.1
  exact ⟨⟨(hs _ (by omega)).trans a0, by omega, a2.keep (fun q g1 g2 => hs q (by omega)), a3.keep (fun q g1 g2 => hs q (by omega)), ⟨Q, a4.keep (fun q g1 g2 => hs q (by omega))⟩, ⟨nx, a5.keep (fun q g1 g2 => hs q (by omega))⟩, a6.keep (fun q g1 g2 => hs q (by omega)), hF⟩, s.fr (by omega) (by omega)⟩
theorem RepX.trial (h : RepX M x S) (hQ : ∃ Q, LodgeAt M1 (x + 10) Q) (s : Same M M1 (x + 10) (x + 10 + 7)) : RepX M1 x S ∧ Fr M M1 x := by
  obtain ⟨a0, a1, a2, a3, a4, ⟨nx, a5⟩, a6, L, W, a7⟩ := h
  have hs := s.2
  have hz : M1.1 = M.1 := s.1
  exact ⟨⟨(hs _ (by omega)).trans a0, by omega, a2.keep (fun q g1 g2 => hs q (by omega)), a3.keep (fun q g1 g2 => hs q (by omega)), hQ, ⟨nx, a5.keep (fun q g1 g2 => hs q (by omega))⟩, a6.keep (fun q g1 g2 => hs q (by omega)), L, W, a7.keep (fun q g1 g2 => hs q (by omega))⟩, s.fr (by omega) (by omega)⟩
theorem RepX.shelf (h : RepX M x S) {B : Nat → Nat} {K : Nat → Nat → Nat} (hB : ShelfAt M1 (x + 117) B K) (s : Same M M1 (x + 117) (x + 117 + 17)) : RepX M1 x (sN S, sT S, sP S, sM S, sH S, B, K) ∧ Fr M M1 x := by
  obtain ⟨a0, a1, a2, a3, ⟨Q, a4⟩, ⟨nx, a5⟩, a6, L, W, a7⟩ := h
  have hs := s.2
  have hz : M1.1 = M.1 := s.1
  exact ⟨⟨(hs _ (by omega)).trans a0, by omega, a2.keep (fun q g1 g2 => hs q (by omega)), a3.keep (fun q g1 g2 => hs q (by omega)), ⟨Q, a4.keep (fun q g1 g2 => hs q (by omega))⟩, ⟨nx, a5.keep (fun q g1 g2 => hs q (by omega))⟩, hB, L, W, a7.keep (fun q g1 g2 => hs q (by omega))⟩, s.fr (by omega) (by omega)⟩
end
set_option maxHeartbeats 200000 in
set_option maxRecDepth 100000 in
theorem p_append {M : PH} {x D : Nat} {S : St} (hX : RepX M x S) (hS : SInv D S) (c1 : Int32) : Run iX10_append [.ref x, .int c1] M 2 12 (QX M x (EX xA xS xS) (spAppend S c1)) := by
  obtain ⟨a0, ax, aT, hL, ⟨aQ, aq⟩, ⟨nx, aR⟩, aS, aL, aW, aF⟩ := id hX
  obtain ⟨fc, fm, fs, hG, hr⟩ := id hL
  have hI := hS.1.1
  have hb := hI.b
  refine Run.of (l0 := [some (.ref x), some (.int c1)]) (by decide +kernel) (Nat.le_of_ble_eq_true rfl) (by rfl) (fun Γ G C => ?_)
  by_cases h1 : inW c1 0 255
  · refine pw_iload_n (q := 1) (j := 1) C dX10_append_0 rfl rfl rfl ?_
    refine pw_iconst_n (q := 2) C 0 dX10_append_1 (by decide +kernel) rfl ?_
    refine pw_sipush_n (q := 5) C 255 dX10_append_2 (by decide +kernel) rfl ?_
    refine pw_rd (q := 8) (cr_s (j := iX10_isWithin) C dX10_append_5 lX10_47 mX10_isWithin (ro_mk (by decide) (by decide))  (i_in h1) rfl rfl (Nat.le_of_ble_eq_true rfl) ⟨by omega, by omega⟩) rfl ?_
    refine pw_if_ne_n (q := 11) 21 C dX10_append_8 (by decide) rfl (by omega) (fun g8 => ?_) (fun g8 => absurd g8 (fun q => absurd q (by decide)))
    obtain ⟨k1, hl1, hk1, rfl⟩ := inW_n h1 (by omega) (by omega)
    refine pw_aload_n (q := 22) (j := 0) C dX10_append_21 rfl rfl rfl ?_
    refine pw_getf (q := 25) C dX10_append_22 fX10_10 a0 (by rfl) rfl ?_
    refine pw_rd (q := 28) (cr_v (j := iX9_isFull) C dX10_append_25 lX10_58 mX9_isFull (ro_mk (by decide) (by decide)) aT.1 rfl (x_isFull aT) rfl rfl (Nat.le_of_ble_eq_true rfl) ⟨by omega, by omega⟩) rfl ?_
    refine pw_if_eq_b (q := 31) 41 C dX10_append_28 (by decide) rfl (fun g28 => ?_) (fun g28 => ?_)
    · refine pw_aload_n (q := 42) (j := 0) C dX10_append_41 rfl rfl rfl ?_
      refine pw_getf (q := 45) C dX10_append_42 fX10_10 a0 (by rfl) rfl ?_
      refine pw_iload_n (q := 46) (j := 1) C dX10_append_45 rfl rfl rfl ?_
      refine pw_i2c (q := 47) C dX10_append_46 rfl ?_
      rw [i2c_n hk1]
      refine pw_val (q := 50) (cr_v (j := iX9_addCharacter) C dX10_append_47 lX10_67 mX9_addCharacter (ro_mk (by decide) (by decide)) aT.1 rfl (x_add aT hk1 (by omega) rfl) rfl rfl (Nat.le_of_ble_eq_true rfl) ⟨by omega, by omega⟩) rfl (fun M47 e47 => ?_)
      exact pw_iret C dX10_append_50 rfl ⟨by omega, by omega⟩ (by
          have t := hX.text e47.1 e47.2
          exact QX.ok (by rw [spAppend, if_pos h1, if_pos (show sN S < 80 by omega), idx_n (show k1 < 2147483648 by omega)]) t.1 t.2)
    · refine pw_throw (T := []) C twX10_62_64_66 dX10_append_31 dX10_append_34 dX10_append_35 dX10_append_37 dX10_append_40 ⟨by decide, Nat.le_of_ble_eq_true rfl⟩ ⟨by omega, by omega⟩ (fun z hz => QX.no 1 (by rw [spAppend, if_pos h1, if_neg (show ¬ sN S < 80 by omega)]) rfl (hX.up hz) (Fr.up hz))
  · refine pw_iload_n (q := 1) (j := 1) C dX10_append_0 rfl rfl rfl ?_
    refine pw_iconst_n (q := 2) C 0 dX10_append_1 (by decide +kernel) rfl ?_
    refine pw_sipush_n (q := 5) C 255 dX10_append_2 (by decide +kernel) rfl ?_
    refine pw_rd (q := 8) (cr_s (j := iX10_isWithin) C dX10_append_5 lX10_47 mX10_isWithin (ro_mk (by decide) (by decide))  (i_out h1) rfl rfl (Nat.le_of_ble_eq_true rfl) ⟨by omega, by omega⟩) rfl ?_
    refine pw_if_ne_n (q := 11) 21 C dX10_append_8 (by decide) rfl (by omega) (fun g8 => absurd g8 (by omega)) (fun g8 => ?_)
    refine pw_throw (T := []) C twX10_51_53_55 dX10_append_11 dX10_append_14 dX10_append_15 dX10_append_17 dX10_append_20 ⟨by decide, Nat.le_of_ble_eq_true rfl⟩ ⟨by omega, by omega⟩ (fun z hz => QX.no 0 (by rw [spAppend, if_neg h1]) rfl (hX.up hz) (Fr.up hz))
set_option maxHeartbeats 200000 in
set_option maxRecDepth 100000 in
theorem p_daysLeft {M : PH} {x D : Nat} {S : St} (hX : RepX M x S) (hS : SInv D S) : Run iX10_daysLeft [.ref x] M 2 12 (QX M x (EX xA xA xA) ((0, daysP (sP S), S))) := by
  obtain ⟨a0, ax, aT, hL, ⟨aQ, aq⟩, ⟨nx, aR⟩, aS, aL, aW, aF⟩ := id hX
  obtain ⟨fc, fm, fs, hG, hr⟩ := id hL
  have hI := hS.1.1
  have hb := hI.b
  refine Run.of (l0 := [some (.ref x)]) (by decide +kernel) (Nat.le_of_ble_eq_true rfl) (by rfl) (fun Γ G C => ?_)
  refine pw_aload_n (q := 1) (j := 0) C dX10_daysLeft_0 rfl rfl rfl ?_
  refine pw_getf (q := 4) C dX10_daysLeft_1 fX10_43 a0 (by rfl) rfl ?_
  refine pw_aload_n (q := 5) (j := 0) C dX10_daysLeft_4 rfl rfl rfl ?_
  refine pw_getf (q := 8) C dX10_daysLeft_5 fX10_19 a0 (by rfl) rfl ?_
  refine pw_val (q := 11) (cr_v (j := iX1_daysFor) C dX10_daysLeft_8 lX10_267 mX1_daysFor (ro_mk (by decide) (by decide)) aF.1 rfl (f_days aF hL hI (by omega)) rfl rfl (Nat.le_of_ble_eq_true rfl) ⟨by omega, by omega⟩) rfl (fun M8 e8 => ?_)
  exact pw_iret C dX10_daysLeft_11 rfl ⟨by omega, by omega⟩ (by
      have t := hX.fore e8.1 e8.2
      exact QX.ok (by rfl) t.1 t.2)
set_option maxHeartbeats 200000 in
set_option maxRecDepth 100000 in
theorem p_save {M : PH} {x D : Nat} {S : St} (hX : RepX M x S) (hS : SInv D S) (c1 : Int32) : Run iX10_save [.ref x, .int c1] M 2 12 (QX M x (EX xB xB xB) (spSave S c1)) := by
  obtain ⟨a0, ax, aT, hL, ⟨aQ, aq⟩, ⟨nx, aR⟩, aS, aL, aW, aF⟩ := id hX
  obtain ⟨fc, fm, fs, hG, hr⟩ := id hL
  have hI := hS.1.1
  have hb := hI.b
  refine Run.of (l0 := [some (.ref x), some (.int c1)]) (by decide +kernel) (Nat.le_of_ble_eq_true rfl) (by rfl) (fun Γ G C => ?_)
  by_cases h1 : inW c1 0 1
  · refine pw_iload_n (q := 1) (j := 1) C dX10_save_0 rfl rfl rfl ?_
    refine pw_void (q := 4) (cr_s (j := iX10_requireSlot) C dX10_save_1 lX10_314 mX10_requireSlot (ro_mk (by decide) (by decide))  (q_Slot h1) rfl rfl (Nat.le_of_ble_eq_true rfl) ⟨by omega, by omega⟩) rfl (fun M1 e1 => ?_)
    subst e1
    obtain ⟨k1, hl1, hk1, rfl⟩ := inW_n h1 (by omega) (by omega)
    refine pw_aload_n (q := 5) (j := 0) C dX10_save_4 rfl rfl rfl ?_
    refine pw_getf (q := 8) C dX10_save_5 fX10_36 a0 (by rfl) rfl ?_
    refine pw_iload_n (q := 9) (j := 1) C dX10_save_8 rfl rfl rfl ?_
    refine pw_aload_n (q := 10) (j := 0) C dX10_save_9 rfl rfl rfl ?_
    refine pw_getf (q := 13) C dX10_save_10 fX10_19 a0 (by rfl) rfl ?_
    refine pw_void (q := 16) (cr_v (j := iX6_store) C dX10_save_13 lX10_317 mX6_store (ro_mk (by decide) (by decide)) aS.1 rfl (s_store aS (by omega) hL hb.2.1 (by omega)) rfl rfl (Nat.le_of_ble_eq_true rfl) ⟨by omega, by omega⟩) rfl (fun M13 e13 => ?_)
    have hL := hL.far e13.2 (by omega)
    obtain ⟨fc, fm, fs, hG, hr⟩ := id hL
    have a0 := (e13.2.2 x (by omega)).trans a0
    refine pw_aload_n (q := 17) (j := 0) C dX10_save_16 rfl rfl rfl ?_
    refine pw_getf (q := 20) C dX10_save_17 fX10_19 a0 (by rfl) rfl ?_
    refine pw_getf (q := 23) C dX10_save_20 fX10_110 hG.1 (by rfl) rfl ?_
    exact pw_iret C dX10_save_23 rfl ⟨by omega, by omega⟩ (by
        have t := hX.shelf e13.1 e13.2
        exact QX.ok (by rw [spSave, if_pos h1, idx_n (show k1 < 2147483648 by omega)]) t.1 t.2)
  · refine pw_iload_n (q := 1) (j := 1) C dX10_save_0 rfl rfl rfl ?_
    refine pw_exc (q := 4) (cr_s (j := iX10_requireSlot) C dX10_save_1 lX10_314 mX10_requireSlot (ro_mk (by decide) (by decide))  (q_SlotN h1) rfl rfl (Nat.le_of_ble_eq_true rfl) ⟨by omega, by omega⟩) (fun M1 e1 => ?_)
    exact px_out C ⟨by omega, by omega⟩ (QX.no 0 (by rw [spSave, if_neg h1]) rfl (hX.up2 e1) (Fr.up2 e1))
set_option maxHeartbeats 200000 in
set_option maxRecDepth 100000 in
theorem p_restore {M : PH} {x D : Nat} {S : St} (hX : RepX M x S) (hS : SInv D S) (c1 : Int32) : Run iX10_restore [.ref x, .int c1] M 2 12 (QX M x (EX xB xS xS) (spRestore S c1)) := by
  obtain ⟨a0, ax, aT, hL, ⟨aQ, aq⟩, ⟨nx, aR⟩, aS, aL, aW, aF⟩ := id hX
  obtain ⟨fc, fm, fs, hG, hr⟩ := id hL
  have hI := hS.1.1
  have hb := hI.b
  refine Run.of (l0 := [some (.ref x), some (.int c1)]) (by decide +kernel) (Nat.le_of_ble_eq_true rfl) (by rfl) (fun Γ G C => ?_)
  by_cases h1 : inW c1 0 1
  · refine pw_iload_n (q := 1) (j := 1) C dX10_restore_0 rfl rfl rfl ?_
    refine pw_void (q := 4) (cr_s (j := iX10_requireSlot) C dX10_restore_1 lX10_314 mX10_requireSlot (ro_mk (by decide) (by decide))  (q_Slot h1) rfl rfl (Nat.le_of_ble_eq_true rfl) ⟨by omega, by omega⟩) rfl (fun M1 e1 => ?_)
    subst e1
    obtain ⟨k1, hl1, hk1, rfl⟩ := inW_n h1 (by omega) (by omega)
    refine pw_aload_n (q := 5) (j := 0) C dX10_restore_4 rfl rfl rfl ?_
    refine pw_getf (q := 8) C dX10_restore_5 fX10_36 a0 (by rfl) rfl ?_
    refine pw_iload_n (q := 9) (j := 1) C dX10_restore_8 rfl rfl rfl ?_
    refine pw_rd (q := 12) (cr_v (j := iX6_isFilled) C dX10_restore_9 lX10_321 mX6_isFilled (ro_mk (by decide) (by decide)) aS.1 rfl (s_isFilled aS (by omega)) rfl rfl (Nat.le_of_ble_eq_true rfl) ⟨by omega, by omega⟩) rfl ?_
    refine pw_if_ne_b (q := 15) 26 C dX10_restore_12 (by decide) rfl (fun g12 => ?_) (fun g12 => ?_)
    · refine pw_aload_n (q := 27) (j := 0) C dX10_restore_26 rfl rfl rfl ?_
      refine pw_getf (q := 30) C dX10_restore_27 fX10_36 a0 (by rfl) rfl ?_
      refine pw_iload_n (q := 31) (j := 1) C dX10_restore_30 rfl rfl rfl ?_
      refine pw_aload_n (q := 32) (j := 0) C dX10_restore_31 rfl rfl rfl ?_
      refine pw_getf (q := 35) C dX10_restore_32 fX10_19 a0 (by rfl) rfl ?_
      refine pw_void (q := 38) (cr_v (j := iX6_fetch) C dX10_restore_35 lX10_326 mX6_fetch (ro_mk (by decide) (by decide)) aS.1 rfl (s_fetch aS (by omega) g12 hL (hS.2.2 k1 (by omega) g12).1.2.1 (by omega)) rfl rfl (Nat.le_of_ble_eq_true rfl) ⟨by omega, by omega⟩) rfl (fun M35 e35 => ?_)
      obtain ⟨hL, sm8⟩ := e35
      have aR := aR.keep (fun q g1 g2 => sm8.2 q (by omega))
      have a0 := (sm8.2 x (by omega)).trans a0
      refine pw_aload_n (q := 39) (j := 0) C dX10_restore_38 rfl rfl rfl ?_
      refine pw_getf (q := 42) C dX10_restore_39 fX10_29 a0 (by rfl) rfl ?_
      refine pw_void (q := 45) (cr_v (j := iX3_forgetAll) C dX10_restore_42 lX10_89 mX3_forgetAll (ro_mk (by decide) (by decide)) aR.1 rfl (r_forget aR) rfl rfl (Nat.le_of_ble_eq_true rfl) ⟨by omega, by omega⟩) rfl (fun M42 e42 => ?_)
      obtain ⟨hR9, sm9⟩ := e42
      have hL := hL.far sm9 (by omega)
      obtain ⟨fc, fm, fs, hG, hr⟩ := id hL
      have a0 := (sm9.2 x (by omega)).trans a0
      refine pw_aload_n (q := 46) (j := 0) C dX10_restore_45 rfl rfl rfl ?_
      refine pw_getf (q := 49) C dX10_restore_46 fX10_19 a0 (by rfl) rfl ?_
      refine pw_getf (q := 52) C dX10_restore_49 fX10_110 hG.1 (by rfl) rfl ?_
      exact pw_iret C dX10_restore_52 rfl ⟨by omega, by omega⟩ (by
          have t := hX.back ⟨_, hR9⟩ hL ⟨sm9.1.trans sm8.1, fun q g1 g2 => (sm9.2 q g1).trans (sm8.2 q g2)⟩
          exact QX.ok (by rw [spRestore, if_pos h1, idx_n (show k1 < 2147483648 by omega), if_pos g12]) t.1 t.2)
    · refine pw_throwW (T := []) C twX10_62_324_66 dX10_restore_15 dX10_restore_18 dX10_restore_19 dX10_restore_22 dX10_restore_25 ⟨by decide, Nat.le_of_ble_eq_true rfl⟩ ⟨by omega, by omega⟩ (fun z hz => QX.no 1 (by rw [spRestore, if_pos h1, idx_n (show k1 < 2147483648 by omega), if_neg g12]) rfl (hX.up hz) (Fr.up hz))
  · refine pw_iload_n (q := 1) (j := 1) C dX10_restore_0 rfl rfl rfl ?_
    refine pw_exc (q := 4) (cr_s (j := iX10_requireSlot) C dX10_restore_1 lX10_314 mX10_requireSlot (ro_mk (by decide) (by decide))  (q_SlotN h1) rfl rfl (Nat.le_of_ble_eq_true rfl) ⟨by omega, by omega⟩) (fun M1 e1 => ?_)
    exact px_out C ⟨by omega, by omega⟩ (QX.no 0 (by rw [spRestore, if_neg h1]) rfl (hX.up2 e1) (Fr.up2 e1))
