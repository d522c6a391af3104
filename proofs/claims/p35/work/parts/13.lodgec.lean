/-! Copies and constructors. -/
set_option maxHeartbeats 200000 in
set_option maxRecDepth 100000 in
theorem w_copy {M : PH} {a b : Nat} {P Q : Nat → Nat} (hL : LodgeAt M a P) (hL2 : LodgeAt M b Q) (hd : a + 7 ≤ b ∨ b + 7 ≤ a) (hQ : Q 2 ≤ 1) : Run iX2_copyFrom [.ref a, .ref b] M 0 0 (RN (fun M1 => LodgeAt M1 a Q ∧ Same M M1 a (a + 7))) := by
  obtain ⟨fc, fm, fs, hG, hr⟩ := id hL
  obtain ⟨gc, gm, gs, hG2, hr2⟩ := id hL2
  have sm : Same M M a (a + 7) := Same.rf
  refine Run.of (l0 := [some (.ref a), some (.ref b)]) (by decide +kernel) (Nat.le_of_ble_eq_true rfl) (by rfl) (fun Γ G C => ?_)
  refine pw_aload_n (q := 1) (j := 0) C dX2_copyFrom_0 rfl rfl rfl ?_
  refine pw_getf (q := 4) C dX2_copyFrom_1 fX2_14 hG.1 (by rfl) rfl ?_
  refine pw_aload_n (q := 5) (j := 1) C dX2_copyFrom_4 rfl rfl rfl ?_
  refine pw_getf (q := 8) C dX2_copyFrom_5 fX2_14 hG2.1 (by rfl) rfl ?_
  refine pw_void (q := 11) (cr_v (j := iX8_copyFrom) C dX2_copyFrom_8 lX2_46 mX8_copyFrom (ro_mk (by decide) (by decide)) hG.2.1.1 rfl (cp_c hG hG2 hd) rfl rfl (Nat.le_of_ble_eq_true rfl) ⟨by omega, by omega⟩) rfl (fun M8 e8 => ?_)
  obtain ⟨hG, hG2, sm9⟩ := e8
  have sm := sm.tr sm9
  refine pw_aload_n (q := 12) (j := 0) C dX2_copyFrom_11 rfl rfl rfl ?_
  refine pw_getf (q := 15) C dX2_copyFrom_12 fX2_20 hG.1 (by rfl) rfl ?_
  refine pw_aload_n (q := 16) (j := 1) C dX2_copyFrom_15 rfl rfl rfl ?_
  refine pw_getf (q := 19) C dX2_copyFrom_16 fX2_20 hG2.1 (by rfl) rfl ?_
  refine pw_void (q := 22) (cr_v (j := iX8_copyFrom) C dX2_copyFrom_19 lX2_46 mX8_copyFrom (ro_mk (by decide) (by decide)) hG.2.2.1.1 rfl (cp_m hG hG2 hd) rfl rfl (Nat.le_of_ble_eq_true rfl) ⟨by omega, by omega⟩) rfl (fun M19 e19 => ?_)
  obtain ⟨hG, hG2, sm9⟩ := e19
  have sm := sm.tr sm9
  refine pw_aload_n (q := 23) (j := 0) C dX2_copyFrom_22 rfl rfl rfl ?_
  refine pw_getf (q := 26) C dX2_copyFrom_23 fX2_23 hG.1 (by rfl) rfl ?_
  refine pw_aload_n (q := 27) (j := 1) C dX2_copyFrom_26 rfl rfl rfl ?_
  refine pw_getf (q := 30) C dX2_copyFrom_27 fX2_23 hG2.1 (by rfl) rfl ?_
  refine pw_void (q := 33) (cr_v (j := iX8_copyFrom) C dX2_copyFrom_30 lX2_46 mX8_copyFrom (ro_mk (by decide) (by decide)) hG.2.2.2.1 rfl (cp_s hG hG2 hd) rfl rfl (Nat.le_of_ble_eq_true rfl) ⟨by omega, by omega⟩) rfl (fun M30 e30 => ?_)
  obtain ⟨hG, hG2, sm9⟩ := e30
  have sm := sm.tr sm9
  refine pw_aload_n (q := 34) (j := 0) C dX2_copyFrom_33 rfl rfl rfl ?_
  refine pw_aload_n (q := 35) (j := 1) C dX2_copyFrom_34 rfl rfl rfl ?_
  refine pw_getf (q := 38) C dX2_copyFrom_35 fX2_33 hG2.1 (by rfl) rfl ?_
  refine pw_put (q := 41) C dX2_copyFrom_38 fX2_33 hG.1 (by rfl) (by rfl) (Nat.le_of_ble_eq_true rfl) rfl ?_
  refine pw_heap (fun M9 => LodgeG M9 a (updN (updN (updN (updN P 5 (Q 5)) 6 (Q 6)) 7 (Q 7)) 1 (Q 1)) (fill gc fc 18) (fill gm fm 24) (fill gs fs 144) ∧ LodgeG M9 b Q gc gm gs ∧ Same M M9 a (a + 7)) ⟨hG.sc 1 (Q 1) (by omega), hG2.keep (fun q g1 g2 => hput_ne (by omega)), sm.tr (Same.put (by omega) (by omega))⟩ (fun M9 ⟨hG, hG2, sm⟩ => ?_)
  refine pw_aload_n (q := 42) (j := 0) C dX2_copyFrom_41 rfl rfl rfl ?_
  refine pw_aload_n (q := 43) (j := 1) C dX2_copyFrom_42 rfl rfl rfl ?_
  refine pw_getf (q := 46) C dX2_copyFrom_43 fX2_36 hG2.1 (by rfl) rfl ?_
  refine pw_put (q := 49) C dX2_copyFrom_46 fX2_36 hG.1 (nar_01 hQ) (fit_01 hQ) (Nat.le_of_ble_eq_true rfl) rfl ?_
  refine pw_heap (fun M9 => LodgeG M9 a (updN (updN (updN (updN (updN P 5 (Q 5)) 6 (Q 6)) 7 (Q 7)) 1 (Q 1)) 2 (Q 2)) (fill gc fc 18) (fill gm fm 24) (fill gs fs 144) ∧ LodgeG M9 b Q gc gm gs ∧ Same M M9 a (a + 7)) ⟨hG.sc 2 (Q 2) (by omega), hG2.keep (fun q g1 g2 => hput_ne (by omega)), sm.tr (Same.put (by omega) (by omega))⟩ (fun M9 ⟨hG, hG2, sm⟩ => ?_)
  refine pw_aload_n (q := 50) (j := 0) C dX2_copyFrom_49 rfl rfl rfl ?_
  refine pw_aload_n (q := 51) (j := 1) C dX2_copyFrom_50 rfl rfl rfl ?_
  refine pw_getf (q := 54) C dX2_copyFrom_51 fX2_26 hG2.1 (by rfl) rfl ?_
  refine pw_put (q := 57) C dX2_copyFrom_54 fX2_26 hG.1 (by rfl) (by rfl) (Nat.le_of_ble_eq_true rfl) rfl ?_
  refine pw_heap (fun M9 => LodgeG M9 a (updN (updN (updN (updN (updN (updN P 5 (Q 5)) 6 (Q 6)) 7 (Q 7)) 1 (Q 1)) 2 (Q 2)) 0 (Q 0)) (fill gc fc 18) (fill gm fm 24) (fill gs fs 144) ∧ LodgeG M9 b Q gc gm gs ∧ Same M M9 a (a + 7)) ⟨hG.sc 0 (Q 0) (by omega), hG2.keep (fun q g1 g2 => hput_ne (by omega)), sm.tr (Same.put (by omega) (by omega))⟩ (fun M9 ⟨hG, hG2, sm⟩ => ?_)
  refine pw_aload_n (q := 58) (j := 0) C dX2_copyFrom_57 rfl rfl rfl ?_
  refine pw_aload_n (q := 59) (j := 1) C dX2_copyFrom_58 rfl rfl rfl ?_
  refine pw_getf (q := 62) C dX2_copyFrom_59 fX2_40 hG2.1 (by rfl) rfl ?_
  refine pw_put (q := 65) C dX2_copyFrom_62 fX2_40 hG.1 (by rfl) (by rfl) (Nat.le_of_ble_eq_true rfl) rfl ?_
  refine pw_heap (fun M9 => LodgeG M9 a (updN (updN (updN (updN (updN (updN (updN P 5 (Q 5)) 6 (Q 6)) 7 (Q 7)) 1 (Q 1)) 2 (Q 2)) 0 (Q 0)) 3 (Q 3)) (fill gc fc 18) (fill gm fm 24) (fill gs fs 144) ∧ LodgeG M9 b Q gc gm gs ∧ Same M M9 a (a + 7)) ⟨hG.sc 3 (Q 3) (by omega), hG2.keep (fun q g1 g2 => hput_ne (by omega)), sm.tr (Same.put (by omega) (by omega))⟩ (fun M9 ⟨hG, hG2, sm⟩ => ?_)
  refine pw_aload_n (q := 66) (j := 0) C dX2_copyFrom_65 rfl rfl rfl ?_
  refine pw_aload_n (q := 67) (j := 1) C dX2_copyFrom_66 rfl rfl rfl ?_
  refine pw_getf (q := 70) C dX2_copyFrom_67 fX2_43 hG2.1 (by rfl) rfl ?_
  refine pw_put (q := 73) C dX2_copyFrom_70 fX2_43 hG.1 (by rfl) (by rfl) (Nat.le_of_ble_eq_true rfl) rfl ?_
  refine pw_heap (fun M9 => LodgeG M9 a (updN (updN (updN (updN (updN (updN (updN (updN P 5 (Q 5)) 6 (Q 6)) 7 (Q 7)) 1 (Q 1)) 2 (Q 2)) 0 (Q 0)) 3 (Q 3)) 4 (Q 4)) (fill gc fc 18) (fill gm fm 24) (fill gs fs 144) ∧ LodgeG M9 b Q gc gm gs ∧ Same M M9 a (a + 7)) ⟨hG.sc 4 (Q 4) (by omega), hG2.keep (fun q g1 g2 => hput_ne (by omega)), sm.tr (Same.put (by omega) (by omega))⟩ (fun M9 ⟨hG, hG2, sm⟩ => ?_)
  exact pw_vret C dX2_copyFrom_73 rfl ⟨by omega, by omega⟩ (RN.mk ⟨⟨_, _, _, hG.cong (fun k hk => by rcases (show k = 0 ∨ k = 1 ∨ k = 2 ∨ k = 3 ∨ k = 4 ∨ k = 5 ∨ k = 6 ∨ k = 7 by omega) with rfl | rfl | rfl | rfl | rfl | rfl | rfl | rfl <;> rfl), copy_rel hr2 hL2.bd⟩, sm⟩)
set_option maxHeartbeats 200000 in
set_option maxRecDepth 100000 in
theorem w_Lodge_init {M : PH} {a : Nat} (hz : M.1 = a + 1) (h0 : M.2 a = some (.inr (1, [.null, .null, .null, .int 0, .int 0, .int 0, .int 0, .int 0]))) : Run iX2_init [.ref a] M 6 198 (RN (fun M1 => LodgeAt M1 a newP ∧ M1.1 = a + 7 ∧ ∀ q, q < a → M1.2 q = M.2 q)) := by
  have lo : ∀ q, q < a → M.2 q = M.2 q := fun _ _ => rfl
  refine Run.of (l0 := [some (.ref a)]) (by decide +kernel) (Nat.le_of_ble_eq_true rfl) (by rfl) (fun Γ G C => ?_)
  refine pw_aload_n (q := 1) (j := 0) C dX2_init_0 rfl rfl rfl ?_
  refine pw_objInit (rest := []) (q := 4) C dX2_init_1 lX2_3 mObj.1 mObj.2 ⟨by decide, Nat.le_of_ble_eq_true rfl⟩ rfl ?_
  refine pw_aload_n (q := 5) (j := 0) C dX2_init_4 rfl rfl rfl ?_
  refine pw_new (q := 8) C dX2_init_5 nX2_9 ⟨by omega, by omega⟩ rfl ?_
  rw [hz]
  refine pw_heap (fun M9 => M9.1 = a + 2 ∧ M9.2 (a) = some (.inr (1, [.null, .null, .null, .int 0, .int 0, .int 0, .int 0, .int 0])) ∧ M9.2 (a + 1) = some (.inr (5, [.null, .int 0, .int 0, .int 0])) ∧ ∀ q, q < a → M9.2 q = M.2 q) ⟨hnew_sz hz, (hnew_ne hz (by omega)).trans h0, hnew_at hz, fun q hq => (hnew_ne hz (by omega)).trans (lo q hq)⟩ (fun M9 ⟨hz, h0, h1, lo⟩ => ?_)
  refine pw_dup (q := 9) C dX2_init_8 rfl rfl ?_
  refine pw_bipush_n (q := 11) C 18 dX2_init_9 (by decide +kernel) rfl ?_
  refine pw_newa_int (N := 18) (q := 13) C dX2_init_11 ac_int (by decide +kernel) (by decide +kernel) (by decide) ⟨by omega, by omega⟩ rfl ?_
  rw [hz]
  refine pw_heap (fun M9 => M9.1 = a + 3 ∧ M9.2 (a) = some (.inr (1, [.null, .null, .null, .int 0, .int 0, .int 0, .int 0, .int 0])) ∧ M9.2 (a + 1) = some (.inr (5, [.null, .int 0, .int 0, .int 0])) ∧ M9.2 (a + 2) = some (.inl (0, 18, .inl (fun _ => 0))) ∧ ∀ q, q < a → M9.2 q = M.2 q) ⟨hnew_sz hz, (hnew_ne hz (by omega)).trans h0, (hnew_ne hz (by omega)).trans h1, hnew_at hz, fun q hq => (hnew_ne hz (by omega)).trans (lo q hq)⟩ (fun M9 ⟨hz, h0, h1, h2, lo⟩ => ?_)
  refine pw_iconst_n (q := 14) C 3 dX2_init_13 (by decide +kernel) rfl ?_
  refine pw_bipush_n (q := 16) C 6 dX2_init_14 (by decide +kernel) rfl ?_
  refine pw_void (q := 19) (cr_i (j := iX8_init) C dX2_init_16 lX2_11 mX8_init (ro_mk (by decide) (by decide)) RN.no (k_Table_init (f := fun _ => 0) h1) rfl rfl (Nat.le_of_ble_eq_true rfl) ⟨by omega, by omega⟩) rfl (fun M16 e16 => ?_)
  subst e16
  refine pw_heap (fun M9 => M9.1 = a + 3 ∧ M9.2 (a) = some (.inr (1, [.null, .null, .null, .int 0, .int 0, .int 0, .int 0, .int 0])) ∧ M9.2 (a + 1) = some (.inr (5, [.ref (a + 2), .int (nI 3), .int (nI 6), .int (nI 0)])) ∧ M9.2 (a + 2) = some (.inl (0, 18, .inl (fun _ => 0))) ∧ ∀ q, q < a → M9.2 q = M.2 q) ⟨hz, (hput_ne (by omega)).trans h0, hput_at _ _ _, (hput_ne (by omega)).trans h2, fun q hq => (hput_ne (by omega)).trans (lo q hq)⟩ (fun M9 ⟨hz, h0, h1, h2, lo⟩ => ?_)
  refine pw_putF (q := 22) C dX2_init_19 rfl fX2_14 rfl h0 (by rfl) (by rfl) (Nat.le_of_ble_eq_true rfl) rfl ?_
  refine pw_heap (fun M9 => M9.1 = a + 3 ∧ M9.2 (a) = some (.inr (1, [.ref (a + 1), .null, .null, .int 0, .int 0, .int 0, .int 0, .int 0])) ∧ M9.2 (a + 1) = some (.inr (5, [.ref (a + 2), .int (nI 3), .int (nI 6), .int (nI 0)])) ∧ M9.2 (a + 2) = some (.inl (0, 18, .inl (fun _ => 0))) ∧ ∀ q, q < a → M9.2 q = M.2 q) ⟨hz, hput_at _ _ _, (hput_ne (by omega)).trans h1, (hput_ne (by omega)).trans h2, fun q hq => (hput_ne (by omega)).trans (lo q hq)⟩ (fun M9 ⟨hz, h0, h1, h2, lo⟩ => ?_)
  refine pw_aload_n (q := 23) (j := 0) C dX2_init_22 rfl rfl rfl ?_
  refine pw_new (q := 26) C dX2_init_23 nX2_9 ⟨by omega, by omega⟩ rfl ?_
  rw [hz]
  refine pw_heap (fun M9 => M9.1 = a + 4 ∧ M9.2 (a) = some (.inr (1, [.ref (a + 1), .null, .null, .int 0, .int 0, .int 0, .int 0, .int 0])) ∧ M9.2 (a + 1) = some (.inr (5, [.ref (a + 2), .int (nI 3), .int (nI 6), .int (nI 0)])) ∧ M9.2 (a + 2) = some (.inl (0, 18, .inl (fun _ => 0))) ∧ M9.2 (a + 3) = some (.inr (5, [.null, .int 0, .int 0, .int 0])) ∧ ∀ q, q < a → M9.2 q = M.2 q) ⟨hnew_sz hz, (hnew_ne hz (by omega)).trans h0, (hnew_ne hz (by omega)).trans h1, (hnew_ne hz (by omega)).trans h2, hnew_at hz, fun q hq => (hnew_ne hz (by omega)).trans (lo q hq)⟩ (fun M9 ⟨hz, h0, h1, h2, h3, lo⟩ => ?_)
  refine pw_dup (q := 27) C dX2_init_26 rfl rfl ?_
  refine pw_bipush_n (q := 29) C 24 dX2_init_27 (by decide +kernel) rfl ?_
  refine pw_newa_int (N := 24) (q := 31) C dX2_init_29 ac_int (by decide +kernel) (by decide +kernel) (by decide) ⟨by omega, by omega⟩ rfl ?_
  rw [hz]
  refine pw_heap (fun M9 => M9.1 = a + 5 ∧ M9.2 (a) = some (.inr (1, [.ref (a + 1), .null, .null, .int 0, .int 0, .int 0, .int 0, .int 0])) ∧ M9.2 (a + 1) = some (.inr (5, [.ref (a + 2), .int (nI 3), .int (nI 6), .int (nI 0)])) ∧ M9.2 (a + 2) = some (.inl (0, 18, .inl (fun _ => 0))) ∧ M9.2 (a + 3) = some (.inr (5, [.null, .int 0, .int 0, .int 0])) ∧ M9.2 (a + 4) = some (.inl (0, 24, .inl (fun _ => 0))) ∧ ∀ q, q < a → M9.2 q = M.2 q) ⟨hnew_sz hz, (hnew_ne hz (by omega)).trans h0, (hnew_ne hz (by omega)).trans h1, (hnew_ne hz (by omega)).trans h2, (hnew_ne hz (by omega)).trans h3, hnew_at hz, fun q hq => (hnew_ne hz (by omega)).trans (lo q hq)⟩ (fun M9 ⟨hz, h0, h1, h2, h3, h4, lo⟩ => ?_)
  refine pw_iconst_n (q := 32) C 4 dX2_init_31 (by decide +kernel) rfl ?_
  refine pw_bipush_n (q := 34) C 6 dX2_init_32 (by decide +kernel) rfl ?_
  refine pw_void (q := 37) (cr_i (j := iX8_init) C dX2_init_34 lX2_11 mX8_init (ro_mk (by decide) (by decide)) RN.no (k_Table_init (f := fun _ => 0) h3) rfl rfl (Nat.le_of_ble_eq_true rfl) ⟨by omega, by omega⟩) rfl (fun M34 e34 => ?_)
  subst e34
  refine pw_heap (fun M9 => M9.1 = a + 5 ∧ M9.2 (a) = some (.inr (1, [.ref (a + 1), .null, .null, .int 0, .int 0, .int 0, .int 0, .int 0])) ∧ M9.2 (a + 1) = some (.inr (5, [.ref (a + 2), .int (nI 3), .int (nI 6), .int (nI 0)])) ∧ M9.2 (a + 2) = some (.inl (0, 18, .inl (fun _ => 0))) ∧ M9.2 (a + 3) = some (.inr (5, [.ref (a + 4), .int (nI 4), .int (nI 6), .int (nI 0)])) ∧ M9.2 (a + 4) = some (.inl (0, 24, .inl (fun _ => 0))) ∧ ∀ q, q < a → M9.2 q = M.2 q) ⟨hz, (hput_ne (by omega)).trans h0, (hput_ne (by omega)).trans h1, (hput_ne (by omega)).trans h2, hput_at _ _ _, (hput_ne (by omega)).trans h4, fun q hq => (hput_ne (by omega)).trans (lo q hq)⟩ (fun M9 ⟨hz, h0, h1, h2, h3, h4, lo⟩ => ?_)
  refine pw_putF (q := 40) C dX2_init_37 rfl fX2_20 rfl h0 (by rfl) (by rfl) (Nat.le_of_ble_eq_true rfl) rfl ?_
  refine pw_heap (fun M9 => M9.1 = a + 5 ∧ M9.2 (a) = some (.inr (1, [.ref (a + 1), .ref (a + 3), .null, .int 0, .int 0, .int 0, .int 0, .int 0])) ∧ M9.2 (a + 1) = some (.inr (5, [.ref (a + 2), .int (nI 3), .int (nI 6), .int (nI 0)])) ∧ M9.2 (a + 2) = some (.inl (0, 18, .inl (fun _ => 0))) ∧ M9.2 (a + 3) = some (.inr (5, [.ref (a + 4), .int (nI 4), .int (nI 6), .int (nI 0)])) ∧ M9.2 (a + 4) = some (.inl (0, 24, .inl (fun _ => 0))) ∧ ∀ q, q < a → M9.2 q = M.2 q) ⟨hz, hput_at _ _ _, (hput_ne (by omega)).trans h1, (hput_ne (by omega)).trans h2, (hput_ne (by omega)).trans h3, (hput_ne (by omega)).trans h4, fun q hq => (hput_ne (by omega)).trans (lo q hq)⟩ (fun M9 ⟨hz, h0, h1, h2, h3, h4, lo⟩ => ?_)
  refine pw_aload_n (q := 41) (j := 0) C dX2_init_40 rfl rfl rfl ?_
  refine pw_new (q := 44) C dX2_init_41 nX2_9 ⟨by omega, by omega⟩ rfl ?_
  rw [hz]
  refine pw_heap (fun M9 => M9.1 = a + 6 ∧ M9.2 (a) = some (.inr (1, [.ref (a + 1), .ref (a + 3), .null, .int 0, .int 0, .int 0, .int 0, .int 0])) ∧ M9.2 (a + 1) = some (.inr (5, [.ref (a + 2), .int (nI 3), .int (nI 6), .int (nI 0)])) ∧ M9.2 (a + 2) = some (.inl (0, 18, .inl (fun _ => 0))) ∧ M9.2 (a + 3) = some (.inr (5, [.ref (a + 4), .int (nI 4), .int (nI 6), .int (nI 0)])) ∧ M9.2 (a + 4) = some (.inl (0, 24, .inl (fun _ => 0))) ∧ M9.2 (a + 5) = some (.inr (5, [.null, .int 0, .int 0, .int 0])) ∧ ∀ q, q < a → M9.2 q = M.2 q) ⟨hnew_sz hz, (hnew_ne hz (by omega)).trans h0, (hnew_ne hz (by omega)).trans h1, (hnew_ne hz (by omega)).trans h2, (hnew_ne hz (by omega)).trans h3, (hnew_ne hz (by omega)).trans h4, hnew_at hz, fun q hq => (hnew_ne hz (by omega)).trans (lo q hq)⟩ (fun M9 ⟨hz, h0, h1, h2, h3, h4, h5, lo⟩ => ?_)
  refine pw_dup (q := 45) C dX2_init_44 rfl rfl ?_
  refine pw_sipush_n (q := 48) C 144 dX2_init_45 (by decide +kernel) rfl ?_
  refine pw_newa_int (N := 144) (q := 50) C dX2_init_48 ac_int (by decide +kernel) (by decide +kernel) (by decide) ⟨by omega, by omega⟩ rfl ?_
  rw [hz]
  refine pw_heap (fun M9 => M9.1 = a + 7 ∧ M9.2 (a) = some (.inr (1, [.ref (a + 1), .ref (a + 3), .null, .int 0, .int 0, .int 0, .int 0, .int 0])) ∧ M9.2 (a + 1) = some (.inr (5, [.ref (a + 2), .int (nI 3), .int (nI 6), .int (nI 0)])) ∧ M9.2 (a + 2) = some (.inl (0, 18, .inl (fun _ => 0))) ∧ M9.2 (a + 3) = some (.inr (5, [.ref (a + 4), .int (nI 4), .int (nI 6), .int (nI 0)])) ∧ M9.2 (a + 4) = some (.inl (0, 24, .inl (fun _ => 0))) ∧ M9.2 (a + 5) = some (.inr (5, [.null, .int 0, .int 0, .int 0])) ∧ M9.2 (a + 6) = some (.inl (0, 144, .inl (fun _ => 0))) ∧ ∀ q, q < a → M9.2 q = M.2 q) ⟨hnew_sz hz, (hnew_ne hz (by omega)).trans h0, (hnew_ne hz (by omega)).trans h1, (hnew_ne hz (by omega)).trans h2, (hnew_ne hz (by omega)).trans h3, (hnew_ne hz (by omega)).trans h4, (hnew_ne hz (by omega)).trans h5, hnew_at hz, fun q hq => (hnew_ne hz (by omega)).trans (lo q hq)⟩ (fun M9 ⟨hz, h0, h1, h2, h3, h4, h5, h6, lo⟩ => ?_)
  refine pw_bipush_n (q := 52) C 6 dX2_init_50 (by decide +kernel) rfl ?_
  refine pw_bipush_n (q := 54) C 24 dX2_init_52 (by decide +kernel) rfl ?_
  refine pw_void (q := 57) (cr_i (j := iX8_init) C dX2_init_54 lX2_11 mX8_init (ro_mk (by decide) (by decide)) RN.no (k_Table_init (f := fun _ => 0) h5) rfl rfl (Nat.le_of_ble_eq_true rfl) ⟨by omega, by omega⟩) rfl (fun M54 e54 => ?_)
  subst e54
  refine pw_heap (fun M9 => M9.1 = a + 7 ∧ M9.2 (a) = some (.inr (1, [.ref (a + 1), .ref (a + 3), .null, .int 0, .int 0, .int 0, .int 0, .int 0])) ∧ M9.2 (a + 1) = some (.inr (5, [.ref (a + 2), .int (nI 3), .int (nI 6), .int (nI 0)])) ∧ M9.2 (a + 2) = some (.inl (0, 18, .inl (fun _ => 0))) ∧ M9.2 (a + 3) = some (.inr (5, [.ref (a + 4), .int (nI 4), .int (nI 6), .int (nI 0)])) ∧ M9.2 (a + 4) = some (.inl (0, 24, .inl (fun _ => 0))) ∧ M9.2 (a + 5) = some (.inr (5, [.ref (a + 6), .int (nI 6), .int (nI 24), .int (nI 0)])) ∧ M9.2 (a + 6) = some (.inl (0, 144, .inl (fun _ => 0))) ∧ ∀ q, q < a → M9.2 q = M.2 q) ⟨hz, (hput_ne (by omega)).trans h0, (hput_ne (by omega)).trans h1, (hput_ne (by omega)).trans h2, (hput_ne (by omega)).trans h3, (hput_ne (by omega)).trans h4, hput_at _ _ _, (hput_ne (by omega)).trans h6, fun q hq => (hput_ne (by omega)).trans (lo q hq)⟩ (fun M9 ⟨hz, h0, h1, h2, h3, h4, h5, h6, lo⟩ => ?_)
  refine pw_putF (q := 60) C dX2_init_57 rfl fX2_23 rfl h0 (by rfl) (by rfl) (Nat.le_of_ble_eq_true rfl) rfl ?_
  refine pw_heap (fun M9 => M9.1 = a + 7 ∧ M9.2 (a) = some (.inr (1, [.ref (a + 1), .ref (a + 3), .ref (a + 5), .int 0, .int 0, .int 0, .int 0, .int 0])) ∧ M9.2 (a + 1) = some (.inr (5, [.ref (a + 2), .int (nI 3), .int (nI 6), .int (nI 0)])) ∧ M9.2 (a + 2) = some (.inl (0, 18, .inl (fun _ => 0))) ∧ M9.2 (a + 3) = some (.inr (5, [.ref (a + 4), .int (nI 4), .int (nI 6), .int (nI 0)])) ∧ M9.2 (a + 4) = some (.inl (0, 24, .inl (fun _ => 0))) ∧ M9.2 (a + 5) = some (.inr (5, [.ref (a + 6), .int (nI 6), .int (nI 24), .int (nI 0)])) ∧ M9.2 (a + 6) = some (.inl (0, 144, .inl (fun _ => 0))) ∧ ∀ q, q < a → M9.2 q = M.2 q) ⟨hz, hput_at _ _ _, (hput_ne (by omega)).trans h1, (hput_ne (by omega)).trans h2, (hput_ne (by omega)).trans h3, (hput_ne (by omega)).trans h4, (hput_ne (by omega)).trans h5, (hput_ne (by omega)).trans h6, fun q hq => (hput_ne (by omega)).trans (lo q hq)⟩ (fun M9 ⟨hz, h0, h1, h2, h3, h4, h5, h6, lo⟩ => ?_)
  refine pw_aload_n (q := 61) (j := 0) C dX2_init_60 rfl rfl rfl ?_
  refine pw_iconst_n (q := 62) C 3 dX2_init_61 (by decide +kernel) rfl ?_
  refine pw_put (q := 65) C dX2_init_62 fX2_26 h0 (by rfl) (by rfl) (Nat.le_of_ble_eq_true rfl) rfl ?_
  refine pw_heap (fun M9 => M9.1 = a + 7 ∧ M9.2 (a) = some (.inr (1, [.ref (a + 1), .ref (a + 3), .ref (a + 5), .int 0, .int 0, .int (nI 3), .int 0, .int 0])) ∧ M9.2 (a + 1) = some (.inr (5, [.ref (a + 2), .int (nI 3), .int (nI 6), .int (nI 0)])) ∧ M9.2 (a + 2) = some (.inl (0, 18, .inl (fun _ => 0))) ∧ M9.2 (a + 3) = some (.inr (5, [.ref (a + 4), .int (nI 4), .int (nI 6), .int (nI 0)])) ∧ M9.2 (a + 4) = some (.inl (0, 24, .inl (fun _ => 0))) ∧ M9.2 (a + 5) = some (.inr (5, [.ref (a + 6), .int (nI 6), .int (nI 24), .int (nI 0)])) ∧ M9.2 (a + 6) = some (.inl (0, 144, .inl (fun _ => 0))) ∧ ∀ q, q < a → M9.2 q = M.2 q) ⟨hz, hput_at _ _ _, (hput_ne (by omega)).trans h1, (hput_ne (by omega)).trans h2, (hput_ne (by omega)).trans h3, (hput_ne (by omega)).trans h4, (hput_ne (by omega)).trans h5, (hput_ne (by omega)).trans h6, fun q hq => (hput_ne (by omega)).trans (lo q hq)⟩ (fun M9 ⟨hz, h0, h1, h2, h3, h4, h5, h6, lo⟩ => ?_)
  exact pw_vret C dX2_init_65 rfl ⟨by omega, by omega⟩ (RN.mk ⟨⟨fun _ => 0, fun _ => 0, fun _ => 0, ⟨h0, ⟨h1, h2, by decide, by decide, by decide, by decide⟩, ⟨h3, h4, by decide, by decide, by decide, by decide⟩, ⟨h5, h6, by decide, by decide, by decide, by decide⟩⟩, fun c j h _ => absurd h (Nat.not_lt_zero c), fun c j h _ => absurd h (Nat.not_lt_zero c), fun c j h _ => absurd h (Nat.not_lt_zero c)⟩, hz, lo⟩)
