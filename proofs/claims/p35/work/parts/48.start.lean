/-! What the law's start gives. -/
theorem nc_start {s : State} {b : Nat} (hgv : (Jvm.Cond.and given_1 narrow_1).before #[Value.ref b] s = true) : NCF s := by
  have hs := flat_of_before _ hgv
  exact ⟨va_Nc.of (hs (Cond.not (.castable xS xA)) (by decide +kernel)), va_Nc.of (hs (Cond.not (.castable xA xB)) (by decide +kernel)), va_Nc.of (hs (Cond.not (.castable xS xB)) (by decide +kernel))⟩
theorem kn_at {own : String} {idx ci N : Nat} {fs : List Value} {s : State} {A : Array Value} (hn : NC own idx ci N fs) (hGW : ∀ w ∈ GW, w.before A s = true) : ∃ (cC : ClassId) (iS : Nat → Nat), ∀ q : vw_C, vwCl[ci]? = some q → u_Kn s q.1 q.2.1 q.2.2 cC iS := by
  obtain ⟨D, T, tf, hk, _, hi, _⟩ := hn
  obtain ⟨cC, iS, h⟩ := u_known hGW hk.2.2.2 (hGW _ hi)
  exact ⟨cC, iS, fun q hq => by rw [hk.1] at hq; cases hq; exact h⟩
theorem ks_start {s : State} {b : Nat} (hts : ∀ w ∈ lw_tbl, w.before #[Value.ref b] s = true) (hgv : (Jvm.Cond.and given_1 narrow_1).before #[Value.ref b] s = true) : ∃ G : GC, KS G s ∧ G.2.2 = s.heap.size := by
  have hGW : ∀ w ∈ GW, w.before #[Value.ref b] s = true := fun w hw => hts w (List.mem_filter.mp hw).1
  obtain ⟨c0, i0, k0⟩ := kn_at nX10_40 hGW
  obtain ⟨c1, i1, k1⟩ := kn_at nX10_16 hGW
  obtain ⟨c2, i2, k2⟩ := kn_at nX10_26 hGW
  obtain ⟨c3, i3, k3⟩ := kn_at nX10_75 hGW
  obtain ⟨c4, i4, k4⟩ := kn_at nX10_33 hGW
  obtain ⟨c5, i5, k5⟩ := kn_at nX2_9 hGW
  obtain ⟨c6, i6, k6⟩ := kn_at nX10_7 hGW
  obtain ⟨c7, i7, k7⟩ := kn_at nL_8 hGW
  obtain ⟨a0, ka0, m0, f0, g0, h0⟩ := Cond.arrayClass_spec (hGW _ ac_int)
  obtain ⟨a1, ka1, m1, f1, g1, h1⟩ := Cond.arrayClass_spec (hGW _ ac_char)
  obtain ⟨a2, ka2, m2, f2, g2, h2⟩ := Cond.arrayClass_spec (hGW _ ac_boolean)
  obtain ⟨a3, ka3, m3, f3, g3, h3⟩ := Cond.arrayClass_spec (hGW _ ac_byte)
  have hao : (Cond.arrayOver (.object "AshlarLodge$Lodge")).before #[Value.ref b] s = true := hts _ (List.mem_of_getElem? (i := 140) (by decide +kernel))
  obtain ⟨m4, a4, ka4, f4, -, g4, h4, e4⟩ := Cond.arrayOver_spec hao
  have hs := flat_of_before _ hgv
  have hA : ∀ a : Nat, a < s.heap.size → ¬ s.heap.size ≤ a := fun a h q => Nat.lt_irrefl _ (Nat.lt_of_lt_of_le h q)
  refine ⟨((fun k => if k = 0 then c0 else if k = 1 then c1 else if k = 2 then c2 else if k = 3 then c3 else if k = 4 then c4 else if k = 5 then c5 else if k = 6 then c6 else c7, fun k => if k = 0 then i0 else if k = 1 then i1 else if k = 2 then i2 else if k = 3 then i3 else if k = 4 then i4 else if k = 5 then i5 else if k = 6 then i6 else i7), [(a0, .int), (a1, .char), (a2, .boolean), (a3, .byte), (a4, .object "AshlarLodge$Lodge")], s.heap.size), ⟨⟨fun k q hq => ?_, fun k q hk => ?_⟩, rfl, ?_, ?_, Nat.le_refl _, fun x hx => ?_, fun q hq => ?_, va_AO.of hao, ?_⟩, rfl⟩
  · match k, hq with
    | 0, hq => exact k0 q hq
    | 1, hq => exact k1 q hq
    | 2, hq => exact k2 q hq
    | 3, hq => exact k3 q hq
    | 4, hq => exact k4 q hq
    | 5, hq => exact k5 q hq
    | 6, hq => exact k6 q hq
    | 7, hq => exact k7 q hq
    | k + 8, hq => simp [vwCl] at hq
  · match k, hk with
    | 0, hk => cases hk; exact ⟨fun n z => ⟨fun k h => (by cases h), ka0, g0, m0, h0⟩, f0⟩
    | 1, hk => cases hk; exact ⟨fun n z => ⟨fun k h => (by cases h), ka1, g1, m1, h1⟩, f1⟩
    | 2, hk => cases hk; exact ⟨fun n z => ⟨fun k h => (by cases h), ka2, g2, m2, h2⟩, f2⟩
    | 3, hk => cases hk; exact ⟨fun n z => ⟨fun k h => (by cases h), ka3, g3, m3, h3⟩, f3⟩
    | 4, hk => cases hk; exact ⟨fun n z => ⟨fun k h => (by cases h), ka4, g4, m4, h4⟩, ka4, m4, g4, h4, f4, e4⟩
    | k + 5, hk => simp at hk
  · exact vx_Zqof (args := #[Value.ref b]) (hts _ (List.mem_of_getElem? (i := 238) (by decide +kernel))) (hts _ (List.mem_of_getElem? (i := 27) (by decide +kernel))) (hs _ (by decide +kernel)) hA
  · exact vx_Zqof (args := #[Value.ref b]) (hts _ (List.mem_of_getElem? (i := 240) (by decide +kernel))) (hts _ (List.mem_of_getElem? (i := 27) (by decide +kernel))) (hs _ (by decide +kernel)) hA
  · exact va_Nw.of (xw_tab hx) (hts _ (List.mem_filter.mp hx).1)
  · obtain ⟨w, hw, he⟩ := List.mem_filterMap.mp hq
    cases w <;> first | (simp at he; done) | skip
    rename_i own9 k9 tx9
    cases he
    have h9 := hts _ hw
    cases hc : s.vm.findClass own9 with
    | none => simp [Cond.before, Cond.holds, Cond.value, hc] at h9
    | some cur =>
      obtain ⟨_, _, _, a, _, _, _, _, _, ev⟩ := Cond.stringRef_spec hc h9
      exact ⟨a, vk_R.of h9 ev⟩
  · exact nc_start hgv
