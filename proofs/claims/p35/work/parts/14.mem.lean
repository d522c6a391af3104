/-! copyLodge, Text, Memory, Shelf. -/
theorem pw_widen {Γ : CX} {G : GC} {Z : State → Prop} {pc k n k1 n1 : Nat} {ls : LL} {st : List Value} {M : PH} (h1 : k ≤ k1) (h2 : n ≤ n1) (K : PW Γ G Z pc ls st M k1 n1) : PW Γ G Z pc ls st M k n := by
  obtain ⟨p, l, e, R, s, m, args, below, meth, c⟩ := Γ
  intro A H locs hl hM hS
  exact W.widen h1 h2 (K A H locs hl hM hS)
theorem LodgeAt.lt {M : PH} {a : Nat} {P : Nat → Nat} (h : LodgeAt M a P) : ∃ vs, M.2 a = some (.inr (1, vs)) := by
  obtain ⟨fc, fm, fs, hG, -⟩ := h
  exact ⟨_, hG.1⟩
theorem nar_c {v : Nat} (h : v < 65536) : narrow .char (.int (nI v)) = .int (nI v) ∧ vp_nar .char (nI v) = nI v := by
  refine ⟨(pk_charN h).1, ?_⟩
  unfold vp_nar
  rw [(pk_charN h).1]
def TextAt (M : PH) (t tc n : Nat) (T : Nat → Nat) : Prop := M.2 t = some (.inr (6, [.ref tc, .int (nI n)])) ∧ M.2 tc = some (.inl (1, 80, .inl (pg T))) ∧ n ≤ 80 ∧ (∀ k, k < n → T k ≤ 255) ∧ t ≠ tc

set_option maxHeartbeats 200000 in
set_option maxRecDepth 100000 in
theorem w_copyLodge {M : PH} {a b : Nat} {P Q : Nat → Nat} (hL : LodgeAt M a P) (hL2 : LodgeAt M b Q) (hd : a + 7 ≤ b ∨ b + 7 ≤ a) (hQ : Q 2 ≤ 1) : Run iX10_copyLodge [.ref b, .ref a] M 0 0 (RN (fun M1 => LodgeAt M1 a Q ∧ Same M M1 a (a + 7))) := by
  obtain ⟨fc, fm, fs, hG, hr⟩ := id hL
  refine Run.of (l0 := [some (.ref b), some (.ref a)]) (by decide +kernel) (Nat.le_of_ble_eq_true rfl) (by rfl) (fun Γ G C => ?_)
  refine pw_aload_n (q := 1) (j := 0) C dX10_copyLodge_0 rfl rfl rfl ?_
  refine pw_ifnull (q := 4) C dX10_copyLodge_1 rfl ?_
  refine pw_aload_n (q := 5) (j := 1) C dX10_copyLodge_4 rfl rfl rfl ?_
  refine pw_ifnull (q := 8) C dX10_copyLodge_5 rfl ?_
  refine pw_aload_n (q := 9) (j := 1) C dX10_copyLodge_8 rfl rfl rfl ?_
  refine pw_aload_n (q := 10) (j := 0) C dX10_copyLodge_9 rfl rfl rfl ?_
  refine pw_void (q := 13) (cr_v (j := iX2_copyFrom) C dX10_copyLodge_10 lX10_345 mX2_copyFrom (ro_mk (by decide) (by decide)) hG.1 rfl (w_copy hL hL2 hd hQ) rfl rfl (Nat.le_of_ble_eq_true rfl) ⟨by omega, by omega⟩) rfl (fun M10 e10 => ?_)
  exact pw_vret C dX10_copyLodge_13 rfl ⟨by omega, by omega⟩ (RN.mk e10)
set_option maxHeartbeats 200000 in
set_option maxRecDepth 100000 in
theorem x_size {M : PH} {t tc n : Nat} {T : Nat → Nat} (hT : TextAt M t tc n T) : Run iX9_size [.ref t] M 0 0 (RV (.int (nI n)) (fun M1 => M1 = M)) := by
  obtain ⟨h0, h1, hn, hc, hne⟩ := id hT
  refine Run.of (l0 := [some (.ref t)]) (by decide +kernel) (Nat.le_of_ble_eq_true rfl) (by rfl) (fun Γ G C => ?_)
  refine pw_aload_n (q := 1) (j := 0) C dX9_size_0 rfl rfl rfl ?_
  refine pw_getf (q := 4) C dX9_size_1 fX9_15 h0 (by rfl) rfl ?_
  exact pw_iret C dX9_size_4 rfl ⟨by omega, by omega⟩ (RV.mk (by rfl) rfl)
set_option maxHeartbeats 200000 in
set_option maxRecDepth 100000 in
theorem x_isFull {M : PH} {t tc n : Nat} {T : Nat → Nat} (hT : TextAt M t tc n T) : Run iX9_isFull [.ref t] M 0 0 (RV (.int (nI (bN (80 ≤ n)))) (fun M1 => M1 = M)) := by
  obtain ⟨h0, h1, hn, hc, hne⟩ := id hT
  refine Run.of (l0 := [some (.ref t)]) (by decide +kernel) (Nat.le_of_ble_eq_true rfl) (by rfl) (fun Γ G C => ?_)
  refine pw_aload_n (q := 1) (j := 0) C dX9_isFull_0 rfl rfl rfl ?_
  refine pw_getf (q := 4) C dX9_isFull_1 fX9_15 h0 (by rfl) rfl ?_
  refine pw_bipush_n (q := 6) C 80 dX9_isFull_4 (by decide +kernel) rfl ?_
  refine pw_icmp_lt_n (q := 9) 13 C dX9_isFull_6 (by decide) rfl (by omega) (by omega) (fun g6 => ?_) (fun g6 => ?_)
  · refine pw_iconst_n (q := 14) C 0 dX9_isFull_13 (by decide +kernel) rfl ?_
    exact pw_zret C dX9_isFull_14 rfl (by first | decide +kernel | exact nar_bN _ | exact nar_01 (by omega)) ⟨by omega, by omega⟩ (RV.mk (v0 (by omega)) rfl)
  · refine pw_iconst_n (q := 10) C 1 dX9_isFull_9 (by decide +kernel) rfl ?_
    refine pw_goto (q := 0) 14 C dX9_isFull_10 (by decide) ?_
    exact pw_zret C dX9_isFull_14 rfl (by first | decide +kernel | exact nar_bN _ | exact nar_01 (by omega)) ⟨by omega, by omega⟩ (RV.mk (v1 (by omega)) rfl)
set_option maxHeartbeats 200000 in
set_option maxRecDepth 100000 in
theorem x_add {M : PH} {t tc n : Nat} {T : Nat → Nat} (hT : TextAt M t tc n T) {c : Nat} (hcc : c ≤ 255) (h80 : n < 80) (htc : tc = t + 1) : Run iX9_addCharacter [.ref t, .int (nI c)] M 0 0 (RV (.int (nI (n + 1))) (fun M1 => TextAt M1 t tc (n + 1) (updN T n c) ∧ Same M M1 t (t + 2))) := by
  obtain ⟨h0, h1, hn, hc, hne⟩ := id hT
  refine Run.of (l0 := [some (.ref t), some (.int (nI c))]) (by decide +kernel) (Nat.le_of_ble_eq_true rfl) (by rfl) (fun Γ G C => ?_)
  refine pw_aload_n (q := 1) (j := 0) C dX9_addCharacter_0 rfl rfl rfl ?_
  refine pw_getf (q := 4) C dX9_addCharacter_1 fX9_15 h0 (by rfl) rfl ?_
  refine pw_if_lt (q := 7) 39 C dX9_addCharacter_4 (by decide) rfl (fun g4 => absurd g4 (nI_pos (by omega))) (fun g4 => ?_)
  refine pw_aload_n (q := 8) (j := 0) C dX9_addCharacter_7 rfl rfl rfl ?_
  refine pw_getf (q := 11) C dX9_addCharacter_8 fX9_15 h0 (by rfl) rfl ?_
  refine pw_aload_n (q := 12) (j := 0) C dX9_addCharacter_11 rfl rfl rfl ?_
  refine pw_getf (q := 15) C dX9_addCharacter_12 fX9_9 h0 (by rfl) rfl ?_
  refine pw_alen_n (q := 16) C dX9_addCharacter_15 h1 (by rfl) rfl ?_
  refine pw_icmp_ge_n (q := 19) 39 C dX9_addCharacter_16 (by decide) rfl (by omega) (by omega) (fun g16 => absurd g16 (by omega)) (fun g16 => ?_)
  refine pw_aload_n (q := 20) (j := 0) C dX9_addCharacter_19 rfl rfl rfl ?_
  refine pw_getf (q := 23) C dX9_addCharacter_20 fX9_9 h0 (by rfl) rfl ?_
  refine pw_aload_n (q := 24) (j := 0) C dX9_addCharacter_23 rfl rfl rfl ?_
  refine pw_getf (q := 27) C dX9_addCharacter_24 fX9_15 h0 (by rfl) rfl ?_
  refine pw_iload_n (q := 28) (j := 1) C dX9_addCharacter_27 rfl rfl rfl ?_
  refine pw_cast (q := 29) C dX9_addCharacter_28 h1 (vp_in_n (by omega) (by omega)) rfl ?_
  rw [nI_clamp (by omega), (nar_c (by omega)).2, upd_pg]
  have h0 := (hput_ne (M := M) (x := (.inl (1, 80, .inl (pg (updN T n c))))) hne).trans h0
  refine pw_aload_n (q := 30) (j := 0) C dX9_addCharacter_29 rfl rfl rfl ?_
  refine pw_dup (q := 31) C dX9_addCharacter_30 rfl rfl ?_
  refine pw_getf (q := 34) C dX9_addCharacter_31 fX9_15 h0 (by rfl) rfl ?_
  refine pw_iconst_n (q := 35) C 1 dX9_addCharacter_34 (by decide +kernel) rfl ?_
  refine pw_iadd_n (q := 36) C dX9_addCharacter_35 rfl ?_
  refine pw_put (q := 39) C dX9_addCharacter_36 fX9_15 h0 (by rfl) (by rfl) (Nat.le_of_ble_eq_true rfl) rfl ?_
  have g0 := hput_at (hput M tc (.inl (1, 80, .inl (pg (updN T n c))))) t (.inr (6, [.ref tc, .int (nI (n + 1))]))
  refine pw_heap (fun M9 => M9.2 t = some (.inr (6, [.ref tc, .int (nI (n + 1))])) ∧ TextAt M9 t tc (n + 1) (updN T n c) ∧ Same M M9 t (t + 2)) ⟨g0, ⟨g0, (hput_ne (Ne.symm hne)).trans (hput_at _ _ _), by omega, fun k hk => ?_, hne⟩, (Same.put (by omega) (by omega)).tr (Same.put (by omega) (by omega))⟩ (fun M9 ⟨h0, h9⟩ => ?_)
  · by_cases e : k = n
    · subst e; rw [updN_at]; exact hcc
    · rw [updN_ne e]; exact hc k (by omega)
  refine pw_aload_n (q := 40) (j := 0) C dX9_addCharacter_39 rfl rfl rfl ?_
  refine pw_getf (q := 43) C dX9_addCharacter_40 fX9_15 h0 (by rfl) rfl ?_
  exact pw_iret C dX9_addCharacter_43 rfl ⟨by omega, by omega⟩ (RV.mk rfl h9)
set_option maxHeartbeats 200000 in
set_option maxRecDepth 100000 in
theorem x_at {M : PH} {t tc n : Nat} {T : Nat → Nat} (hT : TextAt M t tc n T) {k : Nat} (hk : k < 2147483648) : Run iX9_at [.ref t, .int (nI k)] M 0 0 (RV (.int (nI (if k < n then T k else 0))) (fun M1 => M1 = M)) := by
  obtain ⟨h0, h1, hn, hc, hne⟩ := id hT
  refine Run.of (l0 := [some (.ref t), some (.int (nI k))]) (by decide +kernel) (Nat.le_of_ble_eq_true rfl) (by rfl) (fun Γ G C => ?_)
  refine pw_iload_n (q := 1) (j := 1) C dX9_at_0 rfl rfl rfl ?_
  refine pw_if_lt (q := 4) 30 C dX9_at_1 (by decide) rfl (fun g1 => absurd g1 (nI_pos (by omega))) (fun g1 => ?_)
  refine pw_iload_n (q := 5) (j := 1) C dX9_at_4 rfl rfl rfl ?_
  refine pw_aload_n (q := 6) (j := 0) C dX9_at_5 rfl rfl rfl ?_
  refine pw_getf (q := 9) C dX9_at_6 fX9_15 h0 (by rfl) rfl ?_
  refine pw_icmp_ge_n (q := 12) 30 C dX9_at_9 (by decide) rfl (by omega) (by omega) (fun g9 => ?_) (fun g9 => ?_)
  · refine pw_iconst_n (q := 31) C 0 dX9_at_30 (by decide +kernel) rfl ?_
    exact pw_cret C dX9_at_31 rfl (nar_c (by have := hc k; omega)).1 ⟨by omega, by omega⟩ (RV.mk (vnI (by rw [if_neg (by omega)])) rfl)
  · refine pw_iload_n (q := 13) (j := 1) C dX9_at_12 rfl rfl rfl ?_
    refine pw_aload_n (q := 14) (j := 0) C dX9_at_13 rfl rfl rfl ?_
    refine pw_getf (q := 17) C dX9_at_14 fX9_9 h0 (by rfl) rfl ?_
    refine pw_alen_n (q := 18) C dX9_at_17 h1 (by rfl) rfl ?_
    refine pw_icmp_ge_n (q := 21) 30 C dX9_at_18 (by decide) rfl (by omega) (by omega) (fun g18 => absurd g18 (by omega)) (fun g18 => ?_)
    refine pw_aload_n (q := 22) (j := 0) C dX9_at_21 rfl rfl rfl ?_
    refine pw_getf (q := 25) C dX9_at_22 fX9_9 h0 (by rfl) rfl ?_
    refine pw_iload_n (q := 26) (j := 1) C dX9_at_25 rfl rfl rfl ?_
    refine pw_cald_n (q := 27) C dX9_at_26 h1 (by omega) (by omega) rfl ?_
    show PW Γ G _ 27 _ [.int (nI (T k))] M 0 0
    refine pw_goto (q := 0) 31 C dX9_at_27 (by decide) ?_
    exact pw_cret C dX9_at_31 rfl (nar_c (by have := hc k; omega)).1 ⟨by omega, by omega⟩ (RV.mk (vnI (by rw [if_pos (by omega)])) rfl)
