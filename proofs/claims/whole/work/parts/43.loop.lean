/-! The law: its loop and its start. -/
theorem gt_s {L i : Nat} (hL : L ≤ 2048) (hi : i ≤ 1000) : nI L - nI 4 < nI (4 * i) ↔ L < 4 * i + 4 := by
  rw [Int32.lt_iff_toInt_lt, Int32.toInt_sub, nI_toInt (by omega), nI_toInt (by omega), nI_toInt (by omega), Int.bmod_eq_of_le (by omega) (by omega)]
  omega
set_option maxHeartbeats 1000000 in
set_option maxRecDepth 100000 in
theorem law_loop {Γ : CX} {G : GC} {Z : State → Prop} {T : List ExceptionTableEntry} {nm : String} {b L : Nat} {xs : Nat → Int32} (C : Cx Γ G (iLaw nm) T 601024 7293034) (hN : NG Γ) (hX : SC Γ G b L xs) (hL : L ≤ 2048) (KE : ∀ (ls : LL) (M : PH) (k n : Nat), k ≤ 601024 → n ≤ 7293034 → PW Γ G Z 1858 ls [] M k n) {x : Nat} : ∀ (d i : Nat), i + d = L / 4 → i ≤ 512 → ∀ (M : PH) (S : St) (v5 v6 : Option Value), LI M x S i → PW Γ G Z 23 [some (.ref b), some (.ref x), some (.ref (x + 137)), some (.ref (x + 146)), some (.int (nI (4 * i))), v5, v6] [] M (147 + 2 * i) (7621 + 12 * i) := by
  intro d
  induction d with
  | zero =>
    intro i hd hi5 M S v5 v6 hI
    refine pw_iload (q := 25) C dL_law_23 rfl rfl ?_
    refine pw_aload_n (q := 26) (j := 0) C dL_law_25 rfl rfl rfl ?_
    refine pw_slen (q := 27) hX C dL_law_26 rfl ?_
    refine pw_iconst_n (q := 28) C 4 dL_law_27 (by decide +kernel) rfl ?_
    refine pw_isub (q := 29) C dL_law_28 rfl ?_
    refine pw_icmp_gt (q := 32) 1858 C dL_law_29 (by decide) rfl (fun g29 => ?_) (fun g29 => absurd g29 (not_not_intro ((gt_s hL (by omega)).mpr (by omega))))
    exact KE _ _ _ _ (by omega) (by omega)
  | succ d ih =>
    intro i hd hi5 M S v5 v6 hI
    have KK : ∀ (M1 : PH) (S1 : St) (v5 v6 : Option Value), LI M1 x S1 (i + 1) → PW Γ G Z 1852 [some (.ref b), some (.ref x), some (.ref (x + 137)), some (.ref (x + 146)), some (.int (nI (4 * i))), v5, v6] [] M1 (147 + 2 * i + 2) (7621 + 12 * i + 12) := by
      intro M1 S1 v5 v6 hI1
      refine pw_iinc_n (q := 1855) C 4 dL_law_1852 rfl (by decide +kernel) rfl (Nat.le_of_ble_eq_true rfl) rfl ?_
      refine pw_goto (q := 0) 23 C dL_law_1855 (by decide) ?_
      rw [show 4 * i + 4 = 4 * (i + 1) by omega, show 147 + 2 * i + 2 = 147 + 2 * (i + 1) by omega, show 7621 + 12 * i + 12 = 7621 + 12 * (i + 1) by omega]
      exact ih (i + 1) (by omega) (by omega) M1 S1 v5 v6 hI1
    refine pw_iload (q := 25) C dL_law_23 rfl rfl ?_
    refine pw_aload_n (q := 26) (j := 0) C dL_law_25 rfl rfl rfl ?_
    refine pw_slen (q := 27) hX C dL_law_26 rfl ?_
    refine pw_iconst_n (q := 28) C 4 dL_law_27 (by decide +kernel) rfl ?_
    refine pw_isub (q := 29) C dL_law_28 rfl ?_
    refine pw_icmp_gt (q := 32) 1858 C dL_law_29 (by decide) rfl (fun g29 => absurd g29 (fun q => by have := (gt_s hL (by omega)).mp q; omega)) (fun g29 => ?_)
    refine pw_aload_n (q := 33) (j := 0) C dL_law_32 rfl rfl rfl ?_
    refine pw_iload (q := 35) C dL_law_33 rfl rfl ?_
    refine pw_sld (q := 36) hX C dL_law_35 (by omega) (by omega) rfl ?_
    refine pw_bipush_n (q := 38) C 31 dL_law_36 (by decide +kernel) rfl ?_
    refine pw_iand (q := 39) C dL_law_38 rfl ?_
    obtain ⟨kk, hk, ek⟩ := and31 (xs (4 * i))
    rw [ek]
    rcases (show kk = 0 ∨ kk = 1 ∨ kk = 2 ∨ kk = 3 ∨ kk = 4 ∨ kk = 5 ∨ kk = 6 ∨ kk = 7 ∨ kk = 8 ∨ kk = 9 ∨ kk = 10 ∨ kk = 11 ∨ kk = 12 ∨ kk = 13 ∨ kk = 14 ∨ kk = 15 ∨ kk = 16 ∨ kk = 17 ∨ kk = 18 ∨ kk = 19 ∨ kk = 20 ∨ kk = 21 ∨ kk = 22 ∨ kk = 23 ∨ kk = 24 ∨ kk = 25 ∨ kk = 26 ∨ kk = 27 ∨ kk = 28 ∨ kk = 29 ∨ kk = 30 ∨ kk = 31 by omega) with rfl | rfl | rfl | rfl | rfl | rfl | rfl | rfl | rfl | rfl | rfl | rfl | rfl | rfl | rfl | rfl | rfl | rfl | rfl | rfl | rfl | rfl | rfl | rfl | rfl | rfl | rfl | rfl | rfl | rfl | rfl | rfl
    · refine pw_tableIn (q := 0) 180 C dL_law_39 (by decide +kernel) (by decide +kernel) (by rfl) (by decide) ?_
      exact law_0 C hN hX hL (by omega) hI ⟨by omega, by omega⟩ KK
    · refine pw_tableIn (q := 0) 236 C dL_law_39 (by decide +kernel) (by decide +kernel) (by rfl) (by decide) ?_
      exact law_1 C hN hX hL (by omega) hI ⟨by omega, by omega⟩ KK
    · refine pw_tableIn (q := 0) 249 C dL_law_39 (by decide +kernel) (by decide +kernel) (by rfl) (by decide) ?_
      exact law_2 C hN hX hL (by omega) hI ⟨by omega, by omega⟩ KK
    · refine pw_tableIn (q := 0) 262 C dL_law_39 (by decide +kernel) (by decide +kernel) (by rfl) (by decide) ?_
      exact law_3 C hN hX hL (by omega) hI ⟨by omega, by omega⟩ KK
    · refine pw_tableIn (q := 0) 306 C dL_law_39 (by decide +kernel) (by decide +kernel) (by rfl) (by decide) ?_
      exact law_4 C hN hX hL (by omega) hI ⟨by omega, by omega⟩ KK
    · refine pw_tableIn (q := 0) 362 C dL_law_39 (by decide +kernel) (by decide +kernel) (by rfl) (by decide) ?_
      exact law_5 C hN hX hL (by omega) hI ⟨by omega, by omega⟩ KK
    · refine pw_tableIn (q := 0) 430 C dL_law_39 (by decide +kernel) (by decide +kernel) (by rfl) (by decide) ?_
      exact law_6 C hN hX hL (by omega) hI ⟨by omega, by omega⟩ KK
    · refine pw_tableIn (q := 0) 498 C dL_law_39 (by decide +kernel) (by decide +kernel) (by rfl) (by decide) ?_
      exact law_7 C hN hX hL (by omega) hI ⟨by omega, by omega⟩ KK
    · refine pw_tableIn (q := 0) 566 C dL_law_39 (by decide +kernel) (by decide +kernel) (by rfl) (by decide) ?_
      exact law_8 C hN hX hL (by omega) hI ⟨by omega, by omega⟩ KK
    · refine pw_tableIn (q := 0) 622 C dL_law_39 (by decide +kernel) (by decide +kernel) (by rfl) (by decide) ?_
      exact law_9 C hN hX hL (by omega) hI ⟨by omega, by omega⟩ KK
    · refine pw_tableIn (q := 0) 702 C dL_law_39 (by decide +kernel) (by decide +kernel) (by rfl) (by decide) ?_
      exact law_10 C hN hX hL (by omega) hI ⟨by omega, by omega⟩ KK
    · refine pw_tableIn (q := 0) 770 C dL_law_39 (by decide +kernel) (by decide +kernel) (by rfl) (by decide) ?_
      exact law_11 C hN hX hL (by omega) hI ⟨by omega, by omega⟩ KK
    · refine pw_tableIn (q := 0) 838 C dL_law_39 (by decide +kernel) (by decide +kernel) (by rfl) (by decide) ?_
      exact law_12 C hN hX hL (by omega) hI ⟨by omega, by omega⟩ KK
    · refine pw_tableIn (q := 0) 894 C dL_law_39 (by decide +kernel) (by decide +kernel) (by rfl) (by decide) ?_
      exact law_13 C hN hX hL (by omega) hI ⟨by omega, by omega⟩ KK
    · refine pw_tableIn (q := 0) 974 C dL_law_39 (by decide +kernel) (by decide +kernel) (by rfl) (by decide) ?_
      exact law_14 C hN hX hL (by omega) hI ⟨by omega, by omega⟩ KK
    · refine pw_tableIn (q := 0) 1030 C dL_law_39 (by decide +kernel) (by decide +kernel) (by rfl) (by decide) ?_
      exact law_15 C hN hX hL (by omega) hI ⟨by omega, by omega⟩ KK
    · refine pw_tableIn (q := 0) 1110 C dL_law_39 (by decide +kernel) (by decide +kernel) (by rfl) (by decide) ?_
      exact law_16 C hN hX hL (by omega) hI ⟨by omega, by omega⟩ KK
    · refine pw_tableIn (q := 0) 1166 C dL_law_39 (by decide +kernel) (by decide +kernel) (by rfl) (by decide) ?_
      exact law_17 C hN hX hL (by omega) hI ⟨by omega, by omega⟩ KK
    · refine pw_tableIn (q := 0) 1222 C dL_law_39 (by decide +kernel) (by decide +kernel) (by rfl) (by decide) ?_
      exact law_18 C hN hX hL (by omega) hI ⟨by omega, by omega⟩ KK
    · refine pw_tableIn (q := 0) 1235 C dL_law_39 (by decide +kernel) (by decide +kernel) (by rfl) (by decide) ?_
      exact law_19 C hN hX hL (by omega) hI ⟨by omega, by omega⟩ KK
    · refine pw_tableIn (q := 0) 1276 C dL_law_39 (by decide +kernel) (by decide +kernel) (by rfl) (by decide) ?_
      exact law_20 C hN hX hL (by omega) hI ⟨by omega, by omega⟩ KK
    · refine pw_tableIn (q := 0) 1320 C dL_law_39 (by decide +kernel) (by decide +kernel) (by rfl) (by decide) ?_
      exact law_21 C hN hX hL (by omega) hI ⟨by omega, by omega⟩ KK
    · refine pw_tableIn (q := 0) 1376 C dL_law_39 (by decide +kernel) (by decide +kernel) (by rfl) (by decide) ?_
      exact law_22 C hN hX hL (by omega) hI ⟨by omega, by omega⟩ KK
    · refine pw_tableIn (q := 0) 1432 C dL_law_39 (by decide +kernel) (by decide +kernel) (by rfl) (by decide) ?_
      exact law_23 C hN hX hL (by omega) hI ⟨by omega, by omega⟩ KK
    · refine pw_tableIn (q := 0) 1445 C dL_law_39 (by decide +kernel) (by decide +kernel) (by rfl) (by decide) ?_
      exact law_24 C hN hX hL (by omega) hI ⟨by omega, by omega⟩ KK
    · refine pw_tableIn (q := 0) 1458 C dL_law_39 (by decide +kernel) (by decide +kernel) (by rfl) (by decide) ?_
      exact law_25 C hN hX hL (by omega) hI ⟨by omega, by omega⟩ KK
    · refine pw_tableIn (q := 0) 1471 C dL_law_39 (by decide +kernel) (by decide +kernel) (by rfl) (by decide) ?_
      exact law_26 C hN hX hL (by omega) hI ⟨by omega, by omega⟩ KK
    · refine pw_tableIn (q := 0) 1527 C dL_law_39 (by decide +kernel) (by decide +kernel) (by rfl) (by decide) ?_
      exact law_27 C hN hX hL (by omega) hI ⟨by omega, by omega⟩ KK
    · refine pw_tableIn (q := 0) 1540 C dL_law_39 (by decide +kernel) (by decide +kernel) (by rfl) (by decide) ?_
      exact law_28 C hN hX hL (by omega) hI ⟨by omega, by omega⟩ KK
    · refine pw_tableIn (q := 0) 1640 C dL_law_39 (by decide +kernel) (by decide +kernel) (by rfl) (by decide) ?_
      exact law_29 C hN hX hL (by omega) hI ⟨by omega, by omega⟩ KK
    · refine pw_tableIn (q := 0) 1740 C dL_law_39 (by decide +kernel) (by decide +kernel) (by rfl) (by decide) ?_
      exact law_30 C hN hX hL (by omega) hI ⟨by omega, by omega⟩ KK
    · refine pw_tableIn (q := 0) 1796 C dL_law_39 (by decide +kernel) (by decide +kernel) (by rfl) (by decide) ?_
      exact law_31 C hN hX hL (by omega) hI ⟨by omega, by omega⟩ KK
set_option maxHeartbeats 1000000 in
set_option maxRecDepth 100000 in
theorem law_start {Γ : CX} {G : GC} {Z : State → Prop} {T : List ExceptionTableEntry} {nm : String} {b L : Nat} {xs : Nat → Int32} (C : Cx Γ G (iLaw nm) T 601024 7293034) (hN : NG Γ) (hX : SC Γ G b L xs) (hL : L ≤ 2048) (KE : ∀ (ls : LL) (M : PH) (k n : Nat), k ≤ 601024 → n ≤ 7293034 → PW Γ G Z 1858 ls [] M k n) {M : PH} {x : Nat} (hz : M.1 = x) : PW Γ G Z 0 [some (.ref b), none, none, none, none, none, none] [] M 0 0 := by
  refine pw_new (q := 3) C dL_law_0 nL_8 ⟨by omega, by omega⟩ rfl ?_
  subst hz
  refine pw_heap (fun M9 => M9.1 = M.1 + 1 ∧ M9.2 M.1 = some (.inr (7, [.null, .null, .null, .null, .null, .null]))) ⟨rfl, hnew_at rfl⟩ (fun M9 ⟨hz, h0⟩ => ?_)
  refine pw_dup (q := 4) C dL_law_3 rfl rfl ?_
  refine pw_void (q := 7) (cr_i (j := iX10_init) C dL_law_4 lL_93 mX10_init (ro_mk (Nat.le_of_ble_eq_true rfl) (Nat.le_of_ble_eq_true rfl)) RN.no (x_new hz h0) rfl rfl (Nat.le_of_ble_eq_true rfl) ⟨by omega, by omega⟩) rfl (fun M4 e4 => ?_)
  obtain ⟨hR4, hz4, -⟩ := e4
  refine pw_astore_n (q := 8) (j := 1) C dL_law_7 rfl rfl (Nat.le_of_ble_eq_true rfl) rfl ?_
  refine pw_new (q := 11) C dL_law_8 nL_94 ⟨by omega, by omega⟩ rfl ?_
  rw [hz4]
  refine pw_heap (fun M9 => M9.1 = M.1 + 137 + 1 ∧ M9.2 (M.1 + 137) = some (.inr (8, [.int 0, .null, .int 0, .int 0, .int 0, .null, .null, .null, .null, .int 0, .null, .null, .null])) ∧ RepX M9 M.1 S0) ⟨hnew_sz hz4, hnew_at hz4, hR4.keep (by show M4.1 ≤ M4.1 + 1; omega) (fun q g1 g2 => hnew_ne hz4 (by omega))⟩ (fun M9 ⟨hz, h0, hR⟩ => ?_)
  refine pw_dup (q := 12) C dL_law_11 rfl rfl ?_
  refine pw_void (q := 15) (cr_i (j := iX11_init) C dL_law_12 lL_96 mX11_init (ro_mk (Nat.le_of_ble_eq_true rfl) (Nat.le_of_ble_eq_true rfl)) RN.no (m_new hz h0) rfl rfl (Nat.le_of_ble_eq_true rfl) ⟨by omega, by omega⟩) rfl (fun M12 e12 => ?_)
  obtain ⟨hM12, hz12, lo12⟩ := e12
  have hz12 : M12.1 = M.1 + 146 := hz12
  have hR := hR.keep (by omega) (fun q g1 g2 => lo12 q (by omega))
  refine pw_astore_n (q := 16) (j := 2) C dL_law_15 rfl rfl (Nat.le_of_ble_eq_true rfl) rfl ?_
  refine pw_iconst_n (q := 17) C 1 dL_law_16 (by decide +kernel) rfl ?_
  refine pw_newa_long (N := 1) (q := 19) C dL_law_17 ac_long (by decide +kernel) (by decide +kernel) (by decide) ⟨by omega, by omega⟩ rfl ?_
  rw [hz12]
  refine pw_heap (fun M9 => M9.1 = M.1 + 147 ∧ M9.2 (M.1 + 146) = some (.inl (3, 1, .inr (.inl (fun _ => 0)))) ∧ RepX M9 M.1 S0 ∧ RepM M9 (M.1 + 137) 0 S0) ⟨hnew_sz hz12, hnew_at hz12, hR.keep (by show M12.1 ≤ M12.1 + 1; omega) (fun q g1 g2 => hnew_ne hz12 (by omega)), hM12.keep (fun q g1 g2 => hnew_ne hz12 (by omega))⟩ (fun M9 ⟨hz, hT, hR, hMm⟩ => ?_)
  refine pw_astore_n (q := 20) (j := 3) C dL_law_19 rfl rfl (Nat.le_of_ble_eq_true rfl) rfl ?_
  refine pw_iconst_n (q := 21) C 0 dL_law_20 (by decide +kernel) rfl ?_
  refine pw_istore (q := 23) C dL_law_21 rfl (Nat.le_of_ble_eq_true rfl) rfl ?_
  have hI0 : LI M9 M.1 S0 0 := ⟨hR, ⟨_, hMm⟩, ⟨⟨Inv.new, Nat.le_refl 0⟩, fun j hj => absurd hj (Nat.not_lt_zero j), fun i hi hb => absurd hb (show ¬ (0 : Nat) = 1 by decide)⟩, ⟨_, hT⟩, Nat.le_of_eq hz.symm⟩
  exact law_loop C hN hX hL KE (L / 4) 0 (by omega) (by omega) M9 S0 none none hI0
theorem kn_at {own : String} {idx ci N : Nat} {fs : List Value} {s : State} {A : Array Value} (hn : NC own idx ci N fs) (hGW : ∀ w ∈ GW, w.before A s = true) : ∃ (cC : ClassId) (iS : Nat → Nat), ∀ q : vw_C, vwCl[ci]? = some q → u_Kn s q.1 q.2.1 q.2.2 cC iS := by
  obtain ⟨D, T, tf, hk, _, hi, _⟩ := hn
  obtain ⟨cC, iS, h⟩ := u_known hGW hk.2.2.2 (hGW _ hi)
  exact ⟨cC, iS, fun q hq => by rw [hk.1] at hq; cases hq; exact h⟩
theorem ks_start {s : State} {b : Nat} (hts : ∀ w ∈ lw_tbl, w.before #[Value.ref b] s = true) (hgv : (Jvm.Cond.and given_1 narrow_1).before #[Value.ref b] s = true) : ∃ G : GC, KS G s ∧ G.2.2 = s.heap.size := by
  have hGW : ∀ w ∈ GW, w.before #[Value.ref b] s = true := fun w hw => hts w (List.mem_filter.mp hw).1
  obtain ⟨c0, i0, k0⟩ := kn_at nX10_40 hGW
  obtain ⟨c1, i1, k1⟩ := kn_at nX10_16 hGW
  obtain ⟨c2, i2, k2⟩ := kn_at nX10_26 hGW
  obtain ⟨c3, i3, k3⟩ := kn_at nX10_75 hGW
  obtain ⟨c4, i4, k4⟩ := kn_at nX10_33 hGW
  obtain ⟨c5, i5, k5⟩ := kn_at nX2_9 hGW
  obtain ⟨c6, i6, k6⟩ := kn_at nX10_7 hGW
  obtain ⟨c7, i7, k7⟩ := kn_at nL_8 hGW
  obtain ⟨c8, i8, k8⟩ := kn_at nL_94 hGW
  obtain ⟨a0, ka0, m0, f0, g0, h0⟩ := Cond.arrayClass_spec (hGW _ ac_int)
  obtain ⟨a1, ka1, m1, f1, g1, h1⟩ := Cond.arrayClass_spec (hGW _ ac_char)
  obtain ⟨a2, ka2, m2, f2, g2, h2⟩ := Cond.arrayClass_spec (hGW _ ac_boolean)
  obtain ⟨a3, ka3, m3, f3, g3, h3⟩ := Cond.arrayClass_spec (hGW _ ac_long)
  have hao : (Cond.arrayOver (.object "AshlarLodge$Lodge")).before #[Value.ref b] s = true := hts _ (List.mem_of_getElem? (i := 157) (by decide +kernel))
  obtain ⟨m4, a4, ka4, f4, -, g4, h4, e4⟩ := Cond.arrayOver_spec hao
  have hs := flat_of_before _ hgv
  have hA : ∀ a : Nat, a < s.heap.size → ¬ s.heap.size ≤ a := fun a h q => Nat.lt_irrefl _ (Nat.lt_of_lt_of_le h q)
  refine ⟨((fun k => if k = 0 then c0 else if k = 1 then c1 else if k = 2 then c2 else if k = 3 then c3 else if k = 4 then c4 else if k = 5 then c5 else if k = 6 then c6 else if k = 7 then c7 else c8, fun k => if k = 0 then i0 else if k = 1 then i1 else if k = 2 then i2 else if k = 3 then i3 else if k = 4 then i4 else if k = 5 then i5 else if k = 6 then i6 else if k = 7 then i7 else i8), [(a0, .int), (a1, .char), (a2, .boolean), (a3, .long), (a4, .object "AshlarLodge$Lodge")], s.heap.size), ⟨⟨fun k q hq => ?_, fun k q hk => ?_⟩, rfl, ?_, ?_, Nat.le_refl _, fun x hx => ?_, fun q hq => ?_, va_AO.of hao⟩, rfl⟩
  · match k, hq with
    | 0, hq => exact k0 q hq
    | 1, hq => exact k1 q hq
    | 2, hq => exact k2 q hq
    | 3, hq => exact k3 q hq
    | 4, hq => exact k4 q hq
    | 5, hq => exact k5 q hq
    | 6, hq => exact k6 q hq
    | 7, hq => exact k7 q hq
    | 8, hq => exact k8 q hq
    | k + 9, hq => simp [vwCl] at hq
  · match k, hk with
    | 0, hk => cases hk; exact ⟨fun n z => ⟨fun k h => (by cases h), ka0, g0, m0, h0⟩, f0⟩
    | 1, hk => cases hk; exact ⟨fun n z => ⟨fun k h => (by cases h), ka1, g1, m1, h1⟩, f1⟩
    | 2, hk => cases hk; exact ⟨fun n z => ⟨fun k h => (by cases h), ka2, g2, m2, h2⟩, f2⟩
    | 3, hk => cases hk; exact ⟨fun n z => ⟨fun k h => (by cases h), ka3, g3, m3, h3⟩, f3⟩
    | 4, hk => cases hk; exact ⟨fun n z => ⟨fun k h => (by cases h), ka4, g4, m4, h4⟩, ka4, m4, g4, h4, f4, e4⟩
    | k + 5, hk => simp at hk
  · exact vx_Zqof (args := #[Value.ref b]) (hts _ (List.mem_of_getElem? (i := 490) (by decide +kernel))) (hts _ (List.mem_of_getElem? (i := 44) (by decide +kernel))) (hs _ (by decide +kernel)) hA
  · exact vx_Zqof (args := #[Value.ref b]) (hts _ (List.mem_of_getElem? (i := 492) (by decide +kernel))) (hts _ (List.mem_of_getElem? (i := 44) (by decide +kernel))) (hs _ (by decide +kernel)) hA
  · exact va_Nw.of (xw_tab hx) (hts _ (List.mem_filter.mp hx).1)
  · obtain ⟨w, hw, he⟩ := List.mem_filterMap.mp hq
    cases w <;> first | (simp at he; done) | skip
    rename_i own9 k9 tx9
    cases he
    have h9 := hts _ hw
    cases hc : s.vm.findClass own9 with
    | none => simp [Cond.before, Cond.holds, Cond.value, hc] at h9
    | some cur =>
      obtain ⟨_, _, _, a, _, _, _, _, _, ev⟩ := Cond.stringRef_spec hc h9
      exact ⟨a, vk_R.of h9 ev⟩
theorem nc_start {s : State} {b : Nat} (hgv : (Jvm.Cond.and given_1 narrow_1).before #[Value.ref b] s = true) : NCF s := by
  have hs := flat_of_before _ hgv
  exact ⟨va_Nc.of (hs (Cond.not (.castable xS xA)) (by decide +kernel)), va_Nc.of (hs (Cond.not (.castable xA xB)) (by decide +kernel)), va_Nc.of (hs (Cond.not (.castable xS xB)) (by decide +kernel))⟩
