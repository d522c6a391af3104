/-! Constructors. -/
theorem lt9 {x a b : Nat} (h : a < b) : x + a < x + b := Nat.add_lt_add_left h x
theorem lt0 {x b : Nat} (h : 0 < b) : x < x + b := Nat.lt_add_of_pos_right h
theorem ltq {x b q : Nat} (h : q < x) : q < x + b := Nat.lt_add_right b h
theorem ltk {x a z b q : Nat} (h : q < x + a + z) (h2 : a + z ≤ b) : q < x + b := by omega
theorem nek {x a q : Nat} (h : x + a ≤ q) (h2 : 0 < a) : q ≠ x := by omega
theorem ne0 {x b : Nat} (h : 0 < b) : x ≠ x + b := by omega
theorem ne9 {x a b : Nat} (h : a ≠ b) : x + a ≠ x + b := by omega
def zeroP : Nat → Nat := fun _ => 0
theorem pg_zero : (fun _ => 0 : Nat → Int32) = pg zeroP := rfl
set_option maxHeartbeats 200000 in
set_option maxRecDepth 100000 in
theorem t_init {M : PH} {a : Nat} (hz : M.1 = a + 1) (h0 : M.2 a = some (.inr (6, [.null, .int 0]))) : Run iX9_init [.ref a] M 1 80 (RN (fun M1 => TextAt M1 a (a + 1) 0 zeroP ∧ M1.1 = a + 2 ∧ ∀ q, q < a → M1.2 q = M.2 q)) := by
  have lo : ∀ q, q < a → M.2 q = M.2 q := fun _ _ => rfl
  refine Run.of (l0 := [some (.ref a)]) (by decide +kernel) (Nat.le_of_ble_eq_true rfl) (by rfl) (fun Γ G C => ?_)
  refine pw_aload_n (q := 1) (j := 0) C dX9_init_0 rfl rfl rfl ?_
  refine pw_objInit (rest := []) (q := 4) C dX9_init_1 lX9_3 mObj.1 mObj.2 ⟨by decide, Nat.le_of_ble_eq_true rfl⟩ rfl ?_
  refine pw_aload_n (q := 5) (j := 0) C dX9_init_4 rfl rfl rfl ?_
  refine pw_bipush_n (q := 7) C 80 dX9_init_5 (by decide +kernel) rfl ?_
  refine pw_newa_char (N := 80) (q := 9) C dX9_init_7 ac_char (by decide +kernel) (by decide +kernel) (by decide) ⟨by omega, by omega⟩ rfl ?_
  rw [hz]
  refine pw_heap (fun M9 => M9.1 = a + 2 ∧ M9.2 (a) = some (.inr (6, [.null, .int 0])) ∧ M9.2 (a + 1) = some (.inl (1, 80, .inl (fun _ => 0))) ∧ ∀ q, q < a → M9.2 q = M.2 q) ⟨hnew_sz hz, (hnew_ne hz (by omega)).trans h0, hnew_at hz, fun q hq => (hnew_ne hz (by omega)).trans (lo q hq)⟩ (fun M9 ⟨hz, h0, h1, lo⟩ => ?_)
  refine pw_putF (q := 12) C dX9_init_9 rfl fX9_9 rfl h0 (by rfl) (by rfl) (Nat.le_of_ble_eq_true rfl) rfl ?_
  refine pw_heap (fun M9 => M9.1 = a + 2 ∧ M9.2 (a) = some (.inr (6, [.ref (a + 1), .int 0])) ∧ M9.2 (a + 1) = some (.inl (1, 80, .inl (fun _ => 0))) ∧ ∀ q, q < a → M9.2 q = M.2 q) ⟨hz, hput_at _ _ _, (hput_ne (by omega)).trans h1, fun q hq => (hput_ne (by omega)).trans (lo q hq)⟩ (fun M9 ⟨hz, h0, h1, lo⟩ => ?_)
  exact pw_vret C dX9_init_12 rfl ⟨by omega, by omega⟩ (RN.mk ⟨⟨h0, h1, by omega, fun k hk => absurd hk (Nat.not_lt_zero k), by omega⟩, hz, lo⟩)
set_option maxHeartbeats 200000 in
set_option maxRecDepth 100000 in
theorem f_init {M : PH} {a : Nat} (hz : M.1 = a + 1) (h0 : M.2 a = some (.inr (0, [.null, .null]))) : Run iX1_init [.ref a] M 2 12 (RN (fun M1 => ForeAt M1 a zeroP zeroP ∧ M1.1 = a + 3 ∧ ∀ q, q < a → M1.2 q = M.2 q)) := by
  have lo : ∀ q, q < a → M.2 q = M.2 q := fun _ _ => rfl
  refine Run.of (l0 := [some (.ref a)]) (by decide +kernel) (Nat.le_of_ble_eq_true rfl) (by rfl) (fun Γ G C => ?_)
  refine pw_aload_n (q := 1) (j := 0) C dX1_init_0 rfl rfl rfl ?_
  refine pw_objInit (rest := []) (q := 4) C dX1_init_1 lX1_3 mObj.1 mObj.2 ⟨by decide, Nat.le_of_ble_eq_true rfl⟩ rfl ?_
  refine pw_aload_n (q := 5) (j := 0) C dX1_init_4 rfl rfl rfl ?_
  refine pw_bipush_n (q := 7) C 6 dX1_init_5 (by decide +kernel) rfl ?_
  refine pw_newa_int (N := 6) (q := 9) C dX1_init_7 ac_int (by decide +kernel) (by decide +kernel) (by decide) ⟨by omega, by omega⟩ rfl ?_
  rw [hz]
  refine pw_heap (fun M9 => M9.1 = a + 2 ∧ M9.2 (a) = some (.inr (0, [.null, .null])) ∧ M9.2 (a + 1) = some (.inl (0, 6, .inl (fun _ => 0))) ∧ ∀ q, q < a → M9.2 q = M.2 q) ⟨hnew_sz hz, (hnew_ne hz (by omega)).trans h0, hnew_at hz, fun q hq => (hnew_ne hz (by omega)).trans (lo q hq)⟩ (fun M9 ⟨hz, h0, h1, lo⟩ => ?_)
  refine pw_putF (q := 12) C dX1_init_9 rfl fX1_9 rfl h0 (by rfl) (by rfl) (Nat.le_of_ble_eq_true rfl) rfl ?_
  refine pw_heap (fun M9 => M9.1 = a + 2 ∧ M9.2 (a) = some (.inr (0, [.ref (a + 1), .null])) ∧ M9.2 (a + 1) = some (.inl (0, 6, .inl (fun _ => 0))) ∧ ∀ q, q < a → M9.2 q = M.2 q) ⟨hz, hput_at _ _ _, (hput_ne (by omega)).trans h1, fun q hq => (hput_ne (by omega)).trans (lo q hq)⟩ (fun M9 ⟨hz, h0, h1, lo⟩ => ?_)
  refine pw_aload_n (q := 13) (j := 0) C dX1_init_12 rfl rfl rfl ?_
  refine pw_bipush_n (q := 15) C 6 dX1_init_13 (by decide +kernel) rfl ?_
  refine pw_newa_int (N := 6) (q := 17) C dX1_init_15 ac_int (by decide +kernel) (by decide +kernel) (by decide) ⟨by omega, by omega⟩ rfl ?_
  rw [hz]
  refine pw_heap (fun M9 => M9.1 = a + 3 ∧ M9.2 (a) = some (.inr (0, [.ref (a + 1), .null])) ∧ M9.2 (a + 1) = some (.inl (0, 6, .inl (fun _ => 0))) ∧ M9.2 (a + 2) = some (.inl (0, 6, .inl (fun _ => 0))) ∧ ∀ q, q < a → M9.2 q = M.2 q) ⟨hnew_sz hz, (hnew_ne hz (by omega)).trans h0, (hnew_ne hz (by omega)).trans h1, hnew_at hz, fun q hq => (hnew_ne hz (by omega)).trans (lo q hq)⟩ (fun M9 ⟨hz, h0, h1, h2, lo⟩ => ?_)
  refine pw_putF (q := 20) C dX1_init_17 rfl fX1_15 rfl h0 (by rfl) (by rfl) (Nat.le_of_ble_eq_true rfl) rfl ?_
  refine pw_heap (fun M9 => M9.1 = a + 3 ∧ M9.2 (a) = some (.inr (0, [.ref (a + 1), .ref (a + 2)])) ∧ M9.2 (a + 1) = some (.inl (0, 6, .inl (fun _ => 0))) ∧ M9.2 (a + 2) = some (.inl (0, 6, .inl (fun _ => 0))) ∧ ∀ q, q < a → M9.2 q = M.2 q) ⟨hz, hput_at _ _ _, (hput_ne (by omega)).trans h1, (hput_ne (by omega)).trans h2, fun q hq => (hput_ne (by omega)).trans (lo q hq)⟩ (fun M9 ⟨hz, h0, h1, h2, lo⟩ => ?_)
  exact pw_vret C dX1_init_20 rfl ⟨by omega, by omega⟩ (RN.mk ⟨⟨h0, h1, h2⟩, hz, lo⟩)
set_option maxHeartbeats 200000 in
set_option maxRecDepth 100000 in
theorem y_init {M : PH} {a : Nat} (hz : M.1 = a + 1) (h0 : M.2 a = some (.inr (2, [.null, .int 0, .int 0]))) : Run iX3_init [.ref a] M 99 2898 (RN (fun M1 => RingAt M1 a 0 0 (fun _ => newP) ∧ M1.1 = a + 100 ∧ ∀ q, q < a → M1.2 q = M.2 q)) := by
  have lo : ∀ q, q < a → M.2 q = M.2 q := fun _ _ => rfl
  refine Run.of (l0 := [some (.ref a), none]) (by decide +kernel) (Nat.le_of_ble_eq_true rfl) (by rfl) (fun Γ G C => ?_)
  have loop : ∀ (d i : Nat), i + d = 14 → ∀ M2 : PH, (M2.1 = a + 2 + 7 * i) → (M2.2 a = some (.inr (2, [.ref (a + 1), .int 0, .int 0]))) → (∃ f : Nat → Option Nat, M2.2 (a + 1) = some (.inl (4, 14, .inr (.inr (.inr (.inr f))))) ∧ ∀ j, j < i → f j = some (a + 2 + 7 * j)) → (∀ j, j < i → LodgeAt M2 (a + 2 + 7 * j) newP) → (∀ q, q < a → M2.2 q = M.2 q) → PW Γ G (ZJ Γ G 99 2898 (RN (fun M1 => RingAt M1 a 0 0 (fun _ => newP) ∧ M1.1 = a + 100 ∧ ∀ q, q < a → M1.2 q = M.2 q))) 15 [some (.ref a), some (.int (nI i))] [] M2 (0 + 1 + 7 * i) (0 + 14 + 206 * i) := by
    intro d
    induction d with
    | zero =>
      intro i hd
      intro M2 hz h0 hA hL lo
      obtain ⟨f, hA, hf⟩ := hA
      refine pw_iload_n (q := 16) (j := 1) C dX3_init_15 rfl rfl rfl ?_
      refine pw_aload_n (q := 17) (j := 0) C dX3_init_16 rfl rfl rfl ?_
      refine pw_getf (q := 20) C dX3_init_17 fX3_11 h0 (by rfl) rfl ?_
      refine pw_alen_n (q := 21) C dX3_init_20 hA (by rfl) rfl ?_
      refine pw_icmp_ge_n (q := 24) 43 C dX3_init_21 (by decide) rfl (by omega) (by omega) (fun g21 => ?_) (fun g21 => absurd g21 (by omega))
      exact pw_vret C dX3_init_43 rfl ⟨by omega, by omega⟩ (RN.mk ⟨⟨h0, ⟨f, hA, fun j hj => hf j (by omega)⟩, by omega, by omega, fun j hj => ⟨_, hL j (by omega)⟩, fun j hj => absurd hj (Nat.not_lt_zero j)⟩, hz.trans (by omega), lo⟩)
    | succ d ih =>
      intro i hd
      intro M2 hz h0 hA hL lo
      obtain ⟨f, hA, hf⟩ := hA
      refine pw_iload_n (q := 16) (j := 1) C dX3_init_15 rfl rfl rfl ?_
      refine pw_aload_n (q := 17) (j := 0) C dX3_init_16 rfl rfl rfl ?_
      refine pw_getf (q := 20) C dX3_init_17 fX3_11 h0 (by rfl) rfl ?_
      refine pw_alen_n (q := 21) C dX3_init_20 hA (by rfl) rfl ?_
      refine pw_icmp_ge_n (q := 24) 43 C dX3_init_21 (by decide) rfl (by omega) (by omega) (fun g21 => absurd g21 (by omega)) (fun g21 => ?_)
      refine pw_aload_n (q := 25) (j := 0) C dX3_init_24 rfl rfl rfl ?_
      refine pw_getf (q := 28) C dX3_init_25 fX3_11 h0 (by rfl) rfl ?_
      refine pw_iload_n (q := 29) (j := 1) C dX3_init_28 rfl rfl rfl ?_
      refine pw_new (q := 32) C dX3_init_29 nX3_9 ⟨by omega, by omega⟩ rfl ?_
      rw [hz]
      refine pw_heap (fun M9 => M9.1 = a + 2 + 7 * i + 1 ∧ M9.2 a = some (.inr (2, [.ref (a + 1), .int 0, .int 0])) ∧ M9.2 (a + 1) = some (.inl (4, 14, .inr (.inr (.inr (.inr f))))) ∧ (∀ j, j < i → LodgeAt M9 (a + 2 + 7 * j) newP) ∧ (∀ q, q < a → M9.2 q = M.2 q) ∧ M9.2 (a + 2 + 7 * i) = some (.inr (1, [.null, .null, .null, .int 0, .int 0, .int 0, .int 0, .int 0]))) ⟨hnew_sz hz, (hnew_ne hz (by omega)).trans h0, (hnew_ne hz (by omega)).trans hA, fun j hj => (hL j hj).keep (fun q g1 g2 => hnew_ne hz (by omega)), fun q hq => (hnew_ne hz (by omega)).trans (lo q hq), hnew_at hz⟩ (fun M9 ⟨hz, h0, hA, hL, lo, hn⟩ => ?_)
      refine pw_dup (q := 33) C dX3_init_32 rfl rfl ?_
      refine pw_void (q := 36) (cr_in (j := iX2_init) C dX3_init_33 lnX3_17 mX2_init (ro_mk (by decide) (by decide)) RN.no (w_Lodge_init hz hn) rfl rfl (Nat.le_of_ble_eq_true rfl) ⟨by omega, by omega⟩) rfl (fun M33 e33 => ?_)
      obtain ⟨hL9, hz, e9⟩ := e33
      have h0 := (e9 a (by omega)).trans h0
      have hA := (e9 (a + 1) (by omega)).trans hA
      have hL := fun j hj => (hL j hj).keep (fun q g1 g2 => e9 q (by omega))
      have lo := fun q hq => (e9 q (Nat.lt_of_lt_of_le hq (by omega))).trans (lo q hq)
      obtain ⟨gc, gm, gs, hG9, hr9⟩ := id hL9
      refine pw_aast (cb := 0) (q := 37) C dX3_init_36 hA (vp_in_n (by omega) (by omega)) hG9.1 rfl ?_
      rw [nI_clamp (by omega)]
      refine pw_iinc_n (q := 40) C 1 dX3_init_37 rfl (by decide +kernel) rfl (by decide) rfl ?_
      refine pw_goto (q := 0) 15 C dX3_init_40 (by decide) ?_
      have hf9 : ∀ j, j < i + 1 → va_up f i (some (a + 2 + 7 * i)) j = some (a + 2 + 7 * j) := by
        intro j hj
        by_cases e : j = i
        · rw [e, va_up_self]
        · rw [va_up_ne _ _ e]; exact hf j (by omega)
      have hL8 : ∀ j, j < i + 1 → LodgeAt (hput M33 (a + 1) (.inl (4, 14, .inr (.inr (.inr (.inr (va_up f i (some (a + 2 + 7 * i))))))))) (a + 2 + 7 * j) newP := by
        intro j hj
        by_cases e : j = i
        · rw [e]; exact hL9.keep (fun q g1 g2 => hput_ne (by omega))
        · exact (hL j (by omega)).keep (fun q g1 g2 => hput_ne (by omega))
      have z9 := ih (i + 1) (by omega) (hput M33 (a + 1) (.inl (4, 14, .inr (.inr (.inr (.inr (va_up f i (some (a + 2 + 7 * i)))))))) ) (hz.trans (by omega)) ((hput_ne (by omega)).trans h0) ⟨_, hput_at _ _ _, hf9⟩ hL8 (fun q hq => (hput_ne (by omega)).trans (lo q hq))
      rw [show 0 + 1 + 7 * (i + 1) = 0 + 1 + 7 * i + 1 + 6 by omega, show 0 + 14 + 206 * (i + 1) = 0 + 14 + 206 * i + 8 + 198 by omega] at z9
      exact z9
  refine pw_aload_n (q := 1) (j := 0) C dX3_init_0 rfl rfl rfl ?_
  refine pw_objInit (rest := []) (q := 4) C dX3_init_1 lX3_3 mObj.1 mObj.2 ⟨by decide, Nat.le_of_ble_eq_true rfl⟩ rfl ?_
  refine pw_aload_n (q := 5) (j := 0) C dX3_init_4 rfl rfl rfl ?_
  refine pw_bipush_n (q := 7) C 14 dX3_init_5 (by decide +kernel) rfl ?_
  refine pw_anewa (N := 14) (q := 10) C dX3_init_7 (gw_of 139 (by decide +kernel) rfl) (by decide +kernel) (by decide +kernel) (by decide) ⟨by omega, by omega⟩ rfl ?_
  rw [hz]
  refine pw_heap (fun M9 => M9.1 = a + 2 ∧ M9.2 (a) = some (.inr (2, [.null, .int 0, .int 0])) ∧ M9.2 (a + 1) = some (.inl (4, 14, .inr (.inr (.inr (.inr (fun _ => none)))))) ∧ ∀ q, q < a → M9.2 q = M.2 q) ⟨hnew_sz hz, (hnew_ne hz (by omega)).trans h0, hnew_at hz, fun q hq => (hnew_ne hz (by omega)).trans (lo q hq)⟩ (fun M9 ⟨hz, h0, h1, lo⟩ => ?_)
  refine pw_putF (q := 13) C dX3_init_10 rfl fX3_11 rfl h0 (by rfl) (by rfl) (Nat.le_of_ble_eq_true rfl) rfl ?_
  refine pw_heap (fun M9 => M9.1 = a + 2 ∧ M9.2 (a) = some (.inr (2, [.ref (a + 1), .int 0, .int 0])) ∧ M9.2 (a + 1) = some (.inl (4, 14, .inr (.inr (.inr (.inr (fun _ => none)))))) ∧ ∀ q, q < a → M9.2 q = M.2 q) ⟨hz, hput_at _ _ _, (hput_ne (by omega)).trans h1, fun q hq => (hput_ne (by omega)).trans (lo q hq)⟩ (fun M9 ⟨hz, h0, h1, lo⟩ => ?_)
  refine pw_iconst_n (q := 14) C 0 dX3_init_13 (by decide +kernel) rfl ?_
  refine pw_istore_n (q := 15) (j := 1) C dX3_init_14 rfl rfl (by decide) rfl ?_
  have l9 := loop 14 0 (by omega) M9 hz h0 ⟨_, h1, fun j hj => absurd hj (Nat.not_lt_zero j)⟩ (fun j hj => absurd hj (Nat.not_lt_zero j)) lo
  exact l9
set_option maxHeartbeats 200000 in
set_option maxRecDepth 100000 in
theorem h_init {M : PH} {a : Nat} (hz : M.1 = a + 1) (h0 : M.2 a = some (.inr (4, [.null, .null]))) : Run iX6_init [.ref a] M 16 416 (RN (fun M1 => ShelfAt M1 a zeroP (fun _ => newP) ∧ M1.1 = a + 17 ∧ ∀ q, q < a → M1.2 q = M.2 q)) := by
  have lo : ∀ q, q < a → M.2 q = M.2 q := fun _ _ => rfl
  refine Run.of (l0 := [some (.ref a), none]) (by decide +kernel) (Nat.le_of_ble_eq_true rfl) (by rfl) (fun Γ G C => ?_)
  have loop : ∀ (d i : Nat), i + d = 2 → ∀ M2 : PH, (M2.1 = a + 3 + 7 * i) → (M2.2 a = some (.inr (4, [.ref (a + 1), .ref (a + 2)]))) → (M2.2 (a + 2) = some (.inl (2, 2, .inl (fun _ => 0)))) → (∃ f : Nat → Option Nat, M2.2 (a + 1) = some (.inl (4, 2, .inr (.inr (.inr (.inr f))))) ∧ ∀ j, j < i → f j = some (a + 3 + 7 * j)) → (∀ j, j < i → LodgeAt M2 (a + 3 + 7 * j) newP) → (∀ q, q < a → M2.2 q = M.2 q) → PW Γ G (ZJ Γ G 16 416 (RN (fun M1 => ShelfAt M1 a zeroP (fun _ => newP) ∧ M1.1 = a + 17 ∧ ∀ q, q < a → M1.2 q = M.2 q))) 21 [some (.ref a), some (.int (nI i))] [] M2 (0 + 1 + 1 + 7 * i) (0 + 2 + 2 + 206 * i) := by
    intro d
    induction d with
    | zero =>
      intro i hd
      intro M2 hz h0 h2 hA hL lo
      obtain ⟨f, hA, hf⟩ := hA
      refine pw_iload_n (q := 22) (j := 1) C dX6_init_21 rfl rfl rfl ?_
      refine pw_aload_n (q := 23) (j := 0) C dX6_init_22 rfl rfl rfl ?_
      refine pw_getf (q := 26) C dX6_init_23 fX6_11 h0 (by rfl) rfl ?_
      refine pw_alen_n (q := 27) C dX6_init_26 hA (by rfl) rfl ?_
      refine pw_icmp_ge_n (q := 30) 49 C dX6_init_27 (by decide) rfl (by omega) (by omega) (fun g27 => ?_) (fun g27 => absurd g27 (by omega))
      exact pw_vret C dX6_init_49 rfl ⟨by omega, by omega⟩ (RN.mk ⟨⟨h0, ⟨f, hA, fun j hj => hf j (by omega)⟩, h2, fun j hj => ⟨Nat.zero_le 1, _, hL j (by omega)⟩, fun j hj hb => absurd hb (show ¬ (0 : Nat) = 1 by decide)⟩, hz.trans (by omega), lo⟩)
    | succ d ih =>
      intro i hd
      intro M2 hz h0 h2 hA hL lo
      obtain ⟨f, hA, hf⟩ := hA
      refine pw_iload_n (q := 22) (j := 1) C dX6_init_21 rfl rfl rfl ?_
      refine pw_aload_n (q := 23) (j := 0) C dX6_init_22 rfl rfl rfl ?_
      refine pw_getf (q := 26) C dX6_init_23 fX6_11 h0 (by rfl) rfl ?_
      refine pw_alen_n (q := 27) C dX6_init_26 hA (by rfl) rfl ?_
      refine pw_icmp_ge_n (q := 30) 49 C dX6_init_27 (by decide) rfl (by omega) (by omega) (fun g27 => absurd g27 (by omega)) (fun g27 => ?_)
      refine pw_aload_n (q := 31) (j := 0) C dX6_init_30 rfl rfl rfl ?_
      refine pw_getf (q := 34) C dX6_init_31 fX6_11 h0 (by rfl) rfl ?_
      refine pw_iload_n (q := 35) (j := 1) C dX6_init_34 rfl rfl rfl ?_
      refine pw_new (q := 38) C dX6_init_35 nX6_9 ⟨by omega, by omega⟩ rfl ?_
      rw [hz]
      refine pw_heap (fun M9 => M9.1 = a + 3 + 7 * i + 1 ∧ M9.2 a = some (.inr (4, [.ref (a + 1), .ref (a + 2)])) ∧ M9.2 (a + 2) = some (.inl (2, 2, .inl (fun _ => 0))) ∧ M9.2 (a + 1) = some (.inl (4, 2, .inr (.inr (.inr (.inr f))))) ∧ (∀ j, j < i → LodgeAt M9 (a + 3 + 7 * j) newP) ∧ (∀ q, q < a → M9.2 q = M.2 q) ∧ M9.2 (a + 3 + 7 * i) = some (.inr (1, [.null, .null, .null, .int 0, .int 0, .int 0, .int 0, .int 0]))) ⟨hnew_sz hz, (hnew_ne hz (by omega)).trans h0, (hnew_ne hz (by omega)).trans h2, (hnew_ne hz (by omega)).trans hA, fun j hj => (hL j hj).keep (fun q g1 g2 => hnew_ne hz (by omega)), fun q hq => (hnew_ne hz (by omega)).trans (lo q hq), hnew_at hz⟩ (fun M9 ⟨hz, h0, h2, hA, hL, lo, hn⟩ => ?_)
      refine pw_dup (q := 39) C dX6_init_38 rfl rfl ?_
      refine pw_void (q := 42) (cr_in (j := iX2_init) C dX6_init_39 lnX6_21 mX2_init (ro_mk (by decide) (by decide)) RN.no (w_Lodge_init hz hn) rfl rfl (Nat.le_of_ble_eq_true rfl) ⟨by omega, by omega⟩) rfl (fun M39 e39 => ?_)
      obtain ⟨hL9, hz, e9⟩ := e39
      have h0 := (e9 a (by omega)).trans h0
      have h2 := (e9 (a + 2) (by omega)).trans h2
      have hA := (e9 (a + 1) (by omega)).trans hA
      have hL := fun j hj => (hL j hj).keep (fun q g1 g2 => e9 q (by omega))
      have lo := fun q hq => (e9 q (Nat.lt_of_lt_of_le hq (by omega))).trans (lo q hq)
      obtain ⟨gc, gm, gs, hG9, hr9⟩ := id hL9
      refine pw_aast (cb := 0) (q := 43) C dX6_init_42 hA (vp_in_n (by omega) (by omega)) hG9.1 rfl ?_
      rw [nI_clamp (by omega)]
      refine pw_iinc_n (q := 46) C 1 dX6_init_43 rfl (by decide +kernel) rfl (by decide) rfl ?_
      refine pw_goto (q := 0) 21 C dX6_init_46 (by decide) ?_
      have hf9 : ∀ j, j < i + 1 → va_up f i (some (a + 3 + 7 * i)) j = some (a + 3 + 7 * j) := by
        intro j hj
        by_cases e : j = i
        · rw [e, va_up_self]
        · rw [va_up_ne _ _ e]; exact hf j (by omega)
      have hL8 : ∀ j, j < i + 1 → LodgeAt (hput M39 (a + 1) (.inl (4, 2, .inr (.inr (.inr (.inr (va_up f i (some (a + 3 + 7 * i))))))))) (a + 3 + 7 * j) newP := by
        intro j hj
        by_cases e : j = i
        · rw [e]; exact hL9.keep (fun q g1 g2 => hput_ne (by omega))
        · exact (hL j (by omega)).keep (fun q g1 g2 => hput_ne (by omega))
      have z9 := ih (i + 1) (by omega) (hput M39 (a + 1) (.inl (4, 2, .inr (.inr (.inr (.inr (va_up f i (some (a + 3 + 7 * i)))))))) ) (hz.trans (by omega)) ((hput_ne (by omega)).trans h0) ((hput_ne (by omega)).trans h2) ⟨_, hput_at _ _ _, hf9⟩ hL8 (fun q hq => (hput_ne (by omega)).trans (lo q hq))
      rw [show 0 + 1 + 1 + 7 * (i + 1) = 0 + 1 + 1 + 7 * i + 1 + 6 by omega, show 0 + 2 + 2 + 206 * (i + 1) = 0 + 2 + 2 + 206 * i + 8 + 198 by omega] at z9
      exact z9
  refine pw_aload_n (q := 1) (j := 0) C dX6_init_0 rfl rfl rfl ?_
  refine pw_objInit (rest := []) (q := 4) C dX6_init_1 lX6_3 mObj.1 mObj.2 ⟨by decide, Nat.le_of_ble_eq_true rfl⟩ rfl ?_
  refine pw_aload_n (q := 5) (j := 0) C dX6_init_4 rfl rfl rfl ?_
  refine pw_iconst_n (q := 6) C 2 dX6_init_5 (by decide +kernel) rfl ?_
  refine pw_anewa (N := 2) (q := 9) C dX6_init_6 (gw_of 158 (by decide +kernel) rfl) (by decide +kernel) (by decide +kernel) (by decide) ⟨by omega, by omega⟩ rfl ?_
  rw [hz]
  refine pw_heap (fun M9 => M9.1 = a + 2 ∧ M9.2 (a) = some (.inr (4, [.null, .null])) ∧ M9.2 (a + 1) = some (.inl (4, 2, .inr (.inr (.inr (.inr (fun _ => none)))))) ∧ ∀ q, q < a → M9.2 q = M.2 q) ⟨hnew_sz hz, (hnew_ne hz (by omega)).trans h0, hnew_at hz, fun q hq => (hnew_ne hz (by omega)).trans (lo q hq)⟩ (fun M9 ⟨hz, h0, h1, lo⟩ => ?_)
  refine pw_putF (q := 12) C dX6_init_9 rfl fX6_11 rfl h0 (by rfl) (by rfl) (Nat.le_of_ble_eq_true rfl) rfl ?_
  refine pw_heap (fun M9 => M9.1 = a + 2 ∧ M9.2 (a) = some (.inr (4, [.ref (a + 1), .null])) ∧ M9.2 (a + 1) = some (.inl (4, 2, .inr (.inr (.inr (.inr (fun _ => none)))))) ∧ ∀ q, q < a → M9.2 q = M.2 q) ⟨hz, hput_at _ _ _, (hput_ne (by omega)).trans h1, fun q hq => (hput_ne (by omega)).trans (lo q hq)⟩ (fun M9 ⟨hz, h0, h1, lo⟩ => ?_)
  refine pw_aload_n (q := 13) (j := 0) C dX6_init_12 rfl rfl rfl ?_
  refine pw_iconst_n (q := 14) C 2 dX6_init_13 (by decide +kernel) rfl ?_
  refine pw_newa_boolean (N := 2) (q := 16) C dX6_init_14 ac_boolean (by decide +kernel) (by decide +kernel) (by decide) ⟨by omega, by omega⟩ rfl ?_
  rw [hz]
  refine pw_heap (fun M9 => M9.1 = a + 3 ∧ M9.2 (a) = some (.inr (4, [.ref (a + 1), .null])) ∧ M9.2 (a + 1) = some (.inl (4, 2, .inr (.inr (.inr (.inr (fun _ => none)))))) ∧ M9.2 (a + 2) = some (.inl (2, 2, .inl (fun _ => 0))) ∧ ∀ q, q < a → M9.2 q = M.2 q) ⟨hnew_sz hz, (hnew_ne hz (by omega)).trans h0, (hnew_ne hz (by omega)).trans h1, hnew_at hz, fun q hq => (hnew_ne hz (by omega)).trans (lo q hq)⟩ (fun M9 ⟨hz, h0, h1, h2, lo⟩ => ?_)
  refine pw_putF (q := 19) C dX6_init_16 rfl fX6_17 rfl h0 (by rfl) (by rfl) (Nat.le_of_ble_eq_true rfl) rfl ?_
  refine pw_heap (fun M9 => M9.1 = a + 3 ∧ M9.2 (a) = some (.inr (4, [.ref (a + 1), .ref (a + 2)])) ∧ M9.2 (a + 1) = some (.inl (4, 2, .inr (.inr (.inr (.inr (fun _ => none)))))) ∧ M9.2 (a + 2) = some (.inl (2, 2, .inl (fun _ => 0))) ∧ ∀ q, q < a → M9.2 q = M.2 q) ⟨hz, hput_at _ _ _, (hput_ne (by omega)).trans h1, (hput_ne (by omega)).trans h2, fun q hq => (hput_ne (by omega)).trans (lo q hq)⟩ (fun M9 ⟨hz, h0, h1, h2, lo⟩ => ?_)
  refine pw_iconst_n (q := 20) C 0 dX6_init_19 (by decide +kernel) rfl ?_
  refine pw_istore_n (q := 21) (j := 1) C dX6_init_20 rfl rfl (by decide) rfl ?_
  have l9 := loop 2 0 (by omega) M9 hz h0 h2 ⟨_, h1, fun j hj => absurd hj (Nat.not_lt_zero j)⟩ (fun j hj => absurd hj (Nat.not_lt_zero j)) lo
  exact l9
abbrev S0 : St := (0, zeroP, newP, 0, fun _ => newP, zeroP, fun _ => newP)
set_option maxHeartbeats 400000 in
set_option maxRecDepth 100000 in
theorem x_new {M : PH} {x : Nat} (hz : M.1 = x + 1) (h0 : M.2 x = some (.inr (7, [.null, .null, .null, .null, .null, .null]))) : Run iX10_init [.ref x] M 136 3827 (RN (fun M1 => RepX M1 x S0 ∧ M1.1 = x + 137 ∧ ∀ q, q < x → M1.2 q = M.2 q)) := by
  have lo : ∀ q, q < x → M.2 q = M.2 q := fun _ _ => rfl
  refine Run.of (l0 := [some (.ref x)]) (by decide +kernel) (Nat.le_of_ble_eq_true rfl) (by rfl) (fun Γ G C => ?_)
  refine pw_aload_n (q := 1) (j := 0) C dX10_init_0 rfl rfl rfl ?_
  refine pw_objInit (rest := []) (q := 4) C dX10_init_1 lX10_1 mObj.1 mObj.2 ⟨by decide, Nat.le_of_ble_eq_true rfl⟩ rfl ?_
  refine pw_aload_n (q := 5) (j := 0) C dX10_init_4 rfl rfl rfl ?_
  refine pw_new (q := 8) C dX10_init_5 nX10_7 ⟨by decide, by decide⟩ rfl ?_
  rw [hz]
  refine pw_heap (fun M9 => M9.1 = x + 2 ∧ M9.2 x = some (.inr (7, [.null, .null, .null, .null, .null, .null])) ∧ M9.2 (x + 1) = some (.inr (6, [.null, .int 0])) ∧ ∀ q, q < x → M9.2 q = M.2 q) ⟨hnew_sz hz, (hnew_ne hz (by omega)).trans h0, hnew_at hz, fun q hq => (hnew_ne hz (by omega)).trans (lo q hq)⟩ (fun M9 ⟨hz, h0, hn, lo⟩ => ?_)
  refine pw_dup (q := 9) C dX10_init_8 rfl rfl ?_
  refine pw_void (q := 12) (cr_in (j := iX9_init) C dX10_init_9 lnX10_9 mX9_init (ro_mk (by decide) (by decide)) RN.no (t_init hz hn) rfl rfl (Nat.le_of_ble_eq_true rfl) ⟨by decide, by decide⟩) rfl (fun M9 e9 => ?_)
  obtain ⟨u0, hz, e9⟩ := e9
  have h0 := (e9 x (lt0 (by decide))).trans h0
  have lo := fun q hq => (e9 q (ltq hq)).trans (lo q hq)
  refine pw_putF (q := 15) C dX10_init_12 rfl fX10_10 rfl h0 (by rfl) (by rfl) (Nat.le_of_ble_eq_true rfl) rfl ?_
  refine pw_heap (fun M9 => M9.1 = x + 3 ∧ M9.2 x = some (.inr (7, [.ref (x + 1), .null, .null, .null, .null, .null])) ∧ TextAt M9 (x + 1) (x + 1 + 1) 0 zeroP ∧ ∀ q, q < x → M9.2 q = M.2 q) ⟨hz, hput_at _ _ _, u0.keep (fun q g1 g2 => hput_ne (nek g1 (by decide))), fun q hq => (hput_ne (Nat.ne_of_lt hq)).trans (lo q hq)⟩ (fun M9 ⟨hz, h0, u0, lo⟩ => ?_)
  refine pw_aload_n (q := 16) (j := 0) C dX10_init_15 rfl rfl rfl ?_
  refine pw_new (q := 19) C dX10_init_16 nX10_16 ⟨by decide, by decide⟩ rfl ?_
  rw [hz]
  refine pw_heap (fun M9 => M9.1 = x + 4 ∧ M9.2 x = some (.inr (7, [.ref (x + 1), .null, .null, .null, .null, .null])) ∧ TextAt M9 (x + 1) (x + 1 + 1) 0 zeroP ∧ M9.2 (x + 3) = some (.inr (1, [.null, .null, .null, .int 0, .int 0, .int 0, .int 0, .int 0])) ∧ ∀ q, q < x → M9.2 q = M.2 q) ⟨hnew_sz hz, (hnew_ne hz (ne0 (by decide))).trans h0, u0.keep (fun q g1 g2 => hnew_ne hz (Nat.ne_of_lt (ltk g2 (by decide)))), hnew_at hz, fun q hq => (hnew_ne hz (Nat.ne_of_lt (ltq hq))).trans (lo q hq)⟩ (fun M9 ⟨hz, h0, u0, hn, lo⟩ => ?_)
  refine pw_dup (q := 20) C dX10_init_19 rfl rfl ?_
  refine pw_void (q := 23) (cr_in (j := iX2_init) C dX10_init_20 lnX10_18 mX2_init (ro_mk (by decide) (by decide)) RN.no (w_Lodge_init hz hn) rfl rfl (Nat.le_of_ble_eq_true rfl) ⟨by decide, by decide⟩) rfl (fun M20 e20 => ?_)
  obtain ⟨u1, hz, e9⟩ := e20
  have h0 := (e9 x (lt0 (by decide))).trans h0
  have u0 := u0.keep (fun q g1 g2 => e9 q (ltk g2 (by decide)))
  have lo := fun q hq => (e9 q (ltq hq)).trans (lo q hq)
  refine pw_putF (q := 26) C dX10_init_23 rfl fX10_19 rfl h0 (by rfl) (by rfl) (Nat.le_of_ble_eq_true rfl) rfl ?_
  refine pw_heap (fun M9 => M9.1 = x + 10 ∧ M9.2 x = some (.inr (7, [.ref (x + 1), .ref (x + 3), .null, .null, .null, .null])) ∧ TextAt M9 (x + 1) (x + 1 + 1) 0 zeroP ∧ LodgeAt M9 (x + 3) newP ∧ ∀ q, q < x → M9.2 q = M.2 q) ⟨hz, hput_at _ _ _, u0.keep (fun q g1 g2 => hput_ne (nek g1 (by decide))), u1.keep (fun q g1 g2 => hput_ne (nek g1 (by decide))), fun q hq => (hput_ne (Nat.ne_of_lt hq)).trans (lo q hq)⟩ (fun M9 ⟨hz, h0, u0, u1, lo⟩ => ?_)
  refine pw_aload_n (q := 27) (j := 0) C dX10_init_26 rfl rfl rfl ?_
  refine pw_new (q := 30) C dX10_init_27 nX10_16 ⟨by decide, by decide⟩ rfl ?_
  rw [hz]
  refine pw_heap (fun M9 => M9.1 = x + 11 ∧ M9.2 x = some (.inr (7, [.ref (x + 1), .ref (x + 3), .null, .null, .null, .null])) ∧ TextAt M9 (x + 1) (x + 1 + 1) 0 zeroP ∧ LodgeAt M9 (x + 3) newP ∧ M9.2 (x + 10) = some (.inr (1, [.null, .null, .null, .int 0, .int 0, .int 0, .int 0, .int 0])) ∧ ∀ q, q < x → M9.2 q = M.2 q) ⟨hnew_sz hz, (hnew_ne hz (ne0 (by decide))).trans h0, u0.keep (fun q g1 g2 => hnew_ne hz (Nat.ne_of_lt (ltk g2 (by decide)))), u1.keep (fun q g1 g2 => hnew_ne hz (Nat.ne_of_lt (ltk g2 (by decide)))), hnew_at hz, fun q hq => (hnew_ne hz (Nat.ne_of_lt (ltq hq))).trans (lo q hq)⟩ (fun M9 ⟨hz, h0, u0, u1, hn, lo⟩ => ?_)
  refine pw_dup (q := 31) C dX10_init_30 rfl rfl ?_
  refine pw_void (q := 34) (cr_in (j := iX2_init) C dX10_init_31 lnX10_18 mX2_init (ro_mk (by decide) (by decide)) RN.no (w_Lodge_init hz hn) rfl rfl (Nat.le_of_ble_eq_true rfl) ⟨by decide, by decide⟩) rfl (fun M31 e31 => ?_)
  obtain ⟨u2, hz, e9⟩ := e31
  have h0 := (e9 x (lt0 (by decide))).trans h0
  have u0 := u0.keep (fun q g1 g2 => e9 q (ltk g2 (by decide)))
  have u1 := u1.keep (fun q g1 g2 => e9 q (ltk g2 (by decide)))
  have lo := fun q hq => (e9 q (ltq hq)).trans (lo q hq)
  refine pw_putF (q := 37) C dX10_init_34 rfl fX10_23 rfl h0 (by rfl) (by rfl) (Nat.le_of_ble_eq_true rfl) rfl ?_
  refine pw_heap (fun M9 => M9.1 = x + 17 ∧ M9.2 x = some (.inr (7, [.ref (x + 1), .ref (x + 3), .ref (x + 10), .null, .null, .null])) ∧ TextAt M9 (x + 1) (x + 1 + 1) 0 zeroP ∧ LodgeAt M9 (x + 3) newP ∧ LodgeAt M9 (x + 10) newP ∧ ∀ q, q < x → M9.2 q = M.2 q) ⟨hz, hput_at _ _ _, u0.keep (fun q g1 g2 => hput_ne (nek g1 (by decide))), u1.keep (fun q g1 g2 => hput_ne (nek g1 (by decide))), u2.keep (fun q g1 g2 => hput_ne (nek g1 (by decide))), fun q hq => (hput_ne (Nat.ne_of_lt hq)).trans (lo q hq)⟩ (fun M9 ⟨hz, h0, u0, u1, u2, lo⟩ => ?_)
  refine pw_aload_n (q := 38) (j := 0) C dX10_init_37 rfl rfl rfl ?_
  refine pw_new (q := 41) C dX10_init_38 nX10_26 ⟨by decide, by decide⟩ rfl ?_
  rw [hz]
  refine pw_heap (fun M9 => M9.1 = x + 18 ∧ M9.2 x = some (.inr (7, [.ref (x + 1), .ref (x + 3), .ref (x + 10), .null, .null, .null])) ∧ TextAt M9 (x + 1) (x + 1 + 1) 0 zeroP ∧ LodgeAt M9 (x + 3) newP ∧ LodgeAt M9 (x + 10) newP ∧ M9.2 (x + 17) = some (.inr (2, [.null, .int 0, .int 0])) ∧ ∀ q, q < x → M9.2 q = M.2 q) ⟨hnew_sz hz, (hnew_ne hz (ne0 (by decide))).trans h0, u0.keep (fun q g1 g2 => hnew_ne hz (Nat.ne_of_lt (ltk g2 (by decide)))), u1.keep (fun q g1 g2 => hnew_ne hz (Nat.ne_of_lt (ltk g2 (by decide)))), u2.keep (fun q g1 g2 => hnew_ne hz (Nat.ne_of_lt (ltk g2 (by decide)))), hnew_at hz, fun q hq => (hnew_ne hz (Nat.ne_of_lt (ltq hq))).trans (lo q hq)⟩ (fun M9 ⟨hz, h0, u0, u1, u2, hn, lo⟩ => ?_)
  refine pw_dup (q := 42) C dX10_init_41 rfl rfl ?_
  refine pw_void (q := 45) (cr_i (j := iX3_init) C dX10_init_42 lX10_28 mX3_init (ro_mk (by decide) (by decide)) RN.no (y_init hz hn) rfl rfl (Nat.le_of_ble_eq_true rfl) ⟨by decide, by decide⟩) rfl (fun M42 e42 => ?_)
  obtain ⟨u3, hz, e9⟩ := e42
  have h0 := (e9 x (lt0 (by decide))).trans h0
  have u0 := u0.keep (fun q g1 g2 => e9 q (ltk g2 (by decide)))
  have u1 := u1.keep (fun q g1 g2 => e9 q (ltk g2 (by decide)))
  have u2 := u2.keep (fun q g1 g2 => e9 q (ltk g2 (by decide)))
  have lo := fun q hq => (e9 q (ltq hq)).trans (lo q hq)
  refine pw_putF (q := 48) C dX10_init_45 rfl fX10_29 rfl h0 (by rfl) (by rfl) (Nat.le_of_ble_eq_true rfl) rfl ?_
  refine pw_heap (fun M9 => M9.1 = x + 117 ∧ M9.2 x = some (.inr (7, [.ref (x + 1), .ref (x + 3), .ref (x + 10), .ref (x + 17), .null, .null])) ∧ TextAt M9 (x + 1) (x + 1 + 1) 0 zeroP ∧ LodgeAt M9 (x + 3) newP ∧ LodgeAt M9 (x + 10) newP ∧ RingAt M9 (x + 17) 0 0 (fun _ => newP) ∧ ∀ q, q < x → M9.2 q = M.2 q) ⟨hz, hput_at _ _ _, u0.keep (fun q g1 g2 => hput_ne (nek g1 (by decide))), u1.keep (fun q g1 g2 => hput_ne (nek g1 (by decide))), u2.keep (fun q g1 g2 => hput_ne (nek g1 (by decide))), u3.keep (fun q g1 g2 => hput_ne (nek g1 (by decide))), fun q hq => (hput_ne (Nat.ne_of_lt hq)).trans (lo q hq)⟩ (fun M9 ⟨hz, h0, u0, u1, u2, u3, lo⟩ => ?_)
  refine pw_aload_n (q := 49) (j := 0) C dX10_init_48 rfl rfl rfl ?_
  refine pw_new (q := 52) C dX10_init_49 nX10_33 ⟨by decide, by decide⟩ rfl ?_
  rw [hz]
  refine pw_heap (fun M9 => M9.1 = x + 118 ∧ M9.2 x = some (.inr (7, [.ref (x + 1), .ref (x + 3), .ref (x + 10), .ref (x + 17), .null, .null])) ∧ TextAt M9 (x + 1) (x + 1 + 1) 0 zeroP ∧ LodgeAt M9 (x + 3) newP ∧ LodgeAt M9 (x + 10) newP ∧ RingAt M9 (x + 17) 0 0 (fun _ => newP) ∧ M9.2 (x + 117) = some (.inr (4, [.null, .null])) ∧ ∀ q, q < x → M9.2 q = M.2 q) ⟨hnew_sz hz, (hnew_ne hz (ne0 (by decide))).trans h0, u0.keep (fun q g1 g2 => hnew_ne hz (Nat.ne_of_lt (ltk g2 (by decide)))), u1.keep (fun q g1 g2 => hnew_ne hz (Nat.ne_of_lt (ltk g2 (by decide)))), u2.keep (fun q g1 g2 => hnew_ne hz (Nat.ne_of_lt (ltk g2 (by decide)))), u3.keep (fun q g1 g2 => hnew_ne hz (Nat.ne_of_lt (ltk g2 (by decide)))), hnew_at hz, fun q hq => (hnew_ne hz (Nat.ne_of_lt (ltq hq))).trans (lo q hq)⟩ (fun M9 ⟨hz, h0, u0, u1, u2, u3, hn, lo⟩ => ?_)
  refine pw_dup (q := 53) C dX10_init_52 rfl rfl ?_
  refine pw_void (q := 56) (cr_i (j := iX6_init) C dX10_init_53 lX10_35 mX6_init (ro_mk (by decide) (by decide)) RN.no (h_init hz hn) rfl rfl (Nat.le_of_ble_eq_true rfl) ⟨by decide, by decide⟩) rfl (fun M53 e53 => ?_)
  obtain ⟨u4, hz, e9⟩ := e53
  have h0 := (e9 x (lt0 (by decide))).trans h0
  have u0 := u0.keep (fun q g1 g2 => e9 q (ltk g2 (by decide)))
  have u1 := u1.keep (fun q g1 g2 => e9 q (ltk g2 (by decide)))
  have u2 := u2.keep (fun q g1 g2 => e9 q (ltk g2 (by decide)))
  have u3 := u3.keep (fun q g1 g2 => e9 q (ltk g2 (by decide)))
  have lo := fun q hq => (e9 q (ltq hq)).trans (lo q hq)
  refine pw_putF (q := 59) C dX10_init_56 rfl fX10_36 rfl h0 (by rfl) (by rfl) (Nat.le_of_ble_eq_true rfl) rfl ?_
  refine pw_heap (fun M9 => M9.1 = x + 134 ∧ M9.2 x = some (.inr (7, [.ref (x + 1), .ref (x + 3), .ref (x + 10), .ref (x + 17), .ref (x + 117), .null])) ∧ TextAt M9 (x + 1) (x + 1 + 1) 0 zeroP ∧ LodgeAt M9 (x + 3) newP ∧ LodgeAt M9 (x + 10) newP ∧ RingAt M9 (x + 17) 0 0 (fun _ => newP) ∧ ShelfAt M9 (x + 117) zeroP (fun _ => newP) ∧ ∀ q, q < x → M9.2 q = M.2 q) ⟨hz, hput_at _ _ _, u0.keep (fun q g1 g2 => hput_ne (nek g1 (by decide))), u1.keep (fun q g1 g2 => hput_ne (nek g1 (by decide))), u2.keep (fun q g1 g2 => hput_ne (nek g1 (by decide))), u3.keep (fun q g1 g2 => hput_ne (nek g1 (by decide))), u4.keep (fun q g1 g2 => hput_ne (nek g1 (by decide))), fun q hq => (hput_ne (Nat.ne_of_lt hq)).trans (lo q hq)⟩ (fun M9 ⟨hz, h0, u0, u1, u2, u3, u4, lo⟩ => ?_)
  refine pw_aload_n (q := 60) (j := 0) C dX10_init_59 rfl rfl rfl ?_
  refine pw_new (q := 63) C dX10_init_60 nX10_40 ⟨by decide, by decide⟩ rfl ?_
  rw [hz]
  refine pw_heap (fun M9 => M9.1 = x + 135 ∧ M9.2 x = some (.inr (7, [.ref (x + 1), .ref (x + 3), .ref (x + 10), .ref (x + 17), .ref (x + 117), .null])) ∧ TextAt M9 (x + 1) (x + 1 + 1) 0 zeroP ∧ LodgeAt M9 (x + 3) newP ∧ LodgeAt M9 (x + 10) newP ∧ RingAt M9 (x + 17) 0 0 (fun _ => newP) ∧ ShelfAt M9 (x + 117) zeroP (fun _ => newP) ∧ M9.2 (x + 134) = some (.inr (0, [.null, .null])) ∧ ∀ q, q < x → M9.2 q = M.2 q) ⟨hnew_sz hz, (hnew_ne hz (ne0 (by decide))).trans h0, u0.keep (fun q g1 g2 => hnew_ne hz (Nat.ne_of_lt (ltk g2 (by decide)))), u1.keep (fun q g1 g2 => hnew_ne hz (Nat.ne_of_lt (ltk g2 (by decide)))), u2.keep (fun q g1 g2 => hnew_ne hz (Nat.ne_of_lt (ltk g2 (by decide)))), u3.keep (fun q g1 g2 => hnew_ne hz (Nat.ne_of_lt (ltk g2 (by decide)))), u4.keep (fun q g1 g2 => hnew_ne hz (Nat.ne_of_lt (ltk g2 (by decide)))), hnew_at hz, fun q hq => (hnew_ne hz (Nat.ne_of_lt (ltq hq))).trans (lo q hq)⟩ (fun M9 ⟨hz, h0, u0, u1, u2, u3, u4, hn, lo⟩ => ?_)
  refine pw_dup (q := 64) C dX10_init_63 rfl rfl ?_
  refine pw_void (q := 67) (cr_in (j := iX1_init) C dX10_init_64 lnX10_42 mX1_init (ro_mk (by decide) (by decide)) RN.no (f_init hz hn) rfl rfl (Nat.le_of_ble_eq_true rfl) ⟨by decide, by decide⟩) rfl (fun M64 e64 => ?_)
  obtain ⟨u5, hz, e9⟩ := e64
  have h0 := (e9 x (lt0 (by decide))).trans h0
  have u0 := u0.keep (fun q g1 g2 => e9 q (ltk g2 (by decide)))
  have u1 := u1.keep (fun q g1 g2 => e9 q (ltk g2 (by decide)))
  have u2 := u2.keep (fun q g1 g2 => e9 q (ltk g2 (by decide)))
  have u3 := u3.keep (fun q g1 g2 => e9 q (ltk g2 (by decide)))
  have u4 := u4.keep (fun q g1 g2 => e9 q (ltk g2 (by decide)))
  have lo := fun q hq => (e9 q (ltq hq)).trans (lo q hq)
  refine pw_putF (q := 70) C dX10_init_67 rfl fX10_43 rfl h0 (by rfl) (by rfl) (Nat.le_of_ble_eq_true rfl) rfl ?_
  refine pw_heap (fun M9 => M9.1 = x + 137 ∧ M9.2 x = some (.inr (7, [.ref (x + 1), .ref (x + 3), .ref (x + 10), .ref (x + 17), .ref (x + 117), .ref (x + 134)])) ∧ TextAt M9 (x + 1) (x + 1 + 1) 0 zeroP ∧ LodgeAt M9 (x + 3) newP ∧ LodgeAt M9 (x + 10) newP ∧ RingAt M9 (x + 17) 0 0 (fun _ => newP) ∧ ShelfAt M9 (x + 117) zeroP (fun _ => newP) ∧ ForeAt M9 (x + 134) zeroP zeroP ∧ ∀ q, q < x → M9.2 q = M.2 q) ⟨hz, hput_at _ _ _, u0.keep (fun q g1 g2 => hput_ne (nek g1 (by decide))), u1.keep (fun q g1 g2 => hput_ne (nek g1 (by decide))), u2.keep (fun q g1 g2 => hput_ne (nek g1 (by decide))), u3.keep (fun q g1 g2 => hput_ne (nek g1 (by decide))), u4.keep (fun q g1 g2 => hput_ne (nek g1 (by decide))), u5.keep (fun q g1 g2 => hput_ne (nek g1 (by decide))), fun q hq => (hput_ne (Nat.ne_of_lt hq)).trans (lo q hq)⟩ (fun M9 ⟨hz, h0, u0, u1, u2, u3, u4, u5, lo⟩ => ?_)
  exact pw_vret C dX10_init_70 rfl ⟨by decide, by decide⟩ (RN.mk ⟨⟨h0, Nat.le_of_eq hz.symm, u0, u1, ⟨_, u2⟩, ⟨_, u3⟩, u4, _, _, u5⟩, hz, lo⟩)
