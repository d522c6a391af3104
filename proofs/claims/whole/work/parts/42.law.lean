/-! The law: a call in its switch. -/
abbrev iLaw (nm : String) : MI := (⟨RL, nm, "([I)Z"⟩, cL_law, 7, some .boolean, 11, 388)
def SC (Γ : CX) (G : GC) (b L : Nat) (xs : Nat → Int32) : Prop := match Γ with
  | (_, _, _, _, s, _, _, _, _, _) => va_X b L xs s s.heap ∧ b < s.heap.size ∧ G.2.2 = s.heap.size
theorem pw_sld {Γ : CX} {G : GC} {Z : State → Prop} {i : MI} {T : List ExceptionTableEntry} {mc ms pc q k n : Nat} {ls : LL} {st : List Value} {M : PH} {b L j : Nat} {xs : Nat → Int32} (hX : SC Γ G b L xs) (C : Cx Γ G i T mc ms) (d : decode i.2.1 pc = .ok (.iaload, 1)) (hj : j < L) (hL : L < 2147483648) (hq : pc + 1 = q) (K : PW Γ G Z q ls (.int (xs j) :: st) M k n) : PW Γ G Z pc ls (.int (nI j) :: .ref b :: st) M k n := by
  obtain ⟨p, l, e, R, s, m, args, below, meth, c⟩ := Γ
  obtain ⟨hx, hb, hml, hown, hts, hret, hlocks, hname, htr, hT, hK, hRf, hRl, hRc, hRs⟩ := C
  obtain ⟨h1, h2, h3⟩ := hX
  subst hq
  intro A H locs hl hM hS
  exact va_sld hx hb h1 h2 (fun q => by unfold AB at q; omega) hS (vp_in_n hj hL) d (by rw [nI_clamp (Nat.lt_trans hj hL)]; exact K A H locs hl hM hS)
theorem pw_slen {Γ : CX} {G : GC} {Z : State → Prop} {i : MI} {T : List ExceptionTableEntry} {mc ms pc q k n : Nat} {ls : LL} {st : List Value} {M : PH} {b L : Nat} {xs : Nat → Int32} (hX : SC Γ G b L xs) (C : Cx Γ G i T mc ms) (d : decode i.2.1 pc = .ok (.arraylength, 1)) (hq : pc + 1 = q) (K : PW Γ G Z q ls (.int (nI L) :: st) M k n) : PW Γ G Z pc ls (.ref b :: st) M k n := by
  obtain ⟨p, l, e, R, s, m, args, below, meth, c⟩ := Γ
  obtain ⟨hx, hb, hml, hown, hts, hret, hlocks, hname, htr, hT, hK, hRf, hRl, hRc, hRs⟩ := C
  obtain ⟨h1, h2, h3⟩ := hX
  subst hq
  intro A H locs hl hM hS
  exact va_slen hx hb h1 h2 (fun q => by unfold AB at q; omega) hS d (K A H locs hl hM hS)
/-- between two calls: the class's object at x, the reference's behind it, the row for values behind that; no day past D -/
def LI (M : PH) (x : Nat) (S : St) (D : Nat) : Prop := RepX M x S ∧ (∃ rf, RepM M (x + 137) rf S) ∧ SInv D S ∧ (∃ f : Nat → Int64, M.2 (x + 146) = some (.inl (3, 1, .inr (.inl f)))) ∧ x + 147 ≤ M.1
theorem qx_e {M : PH} {x : Nat} {E E1 : Nat → String} {r : RS} (h : r.1 ≠ 0 → E r.1 = E1 r.1) : QX M x E r = QX M x E1 r := by
  funext o M1
  unfold QX
  by_cases h0 : r.1 = 0
  · rw [if_pos h0, if_pos h0]
  · rw [if_neg h0, if_neg h0, h h0]
theorem p_setRate2 {M : PH} {x D : Nat} {S : St} (hX : RepX M x S) (hS : SInv D S) (c1 c2 : Int32) : Run iX10_setRate [.ref x, .int c1, .int c2] M 2 12 (QX M x (EX xB xA xA) (spSetRate S c1 c2)) := by
  have t := p_setRate hX hS c1 c2
  have hk := le_spSetRate S c1 c2
  rw [qx_e (E1 := EX xB xA xA) (fun h => by
    rcases (show (spSetRate S c1 c2).1 = 1 ∨ (spSetRate S c1 c2).1 = 2 by omega) with h1 | h1 <;> (rw [h1]; rfl))] at t
  exact t
theorem p_setBound2 {M : PH} {x D : Nat} {S : St} (hX : RepX M x S) (hS : SInv D S) (c1 : Int32) : Run iX10_setBound [.ref x, .int c1] M 2 12 (QX M x (EX xA xA xA) (spSetBound S c1)) := by
  have t := p_setBound hX hS c1
  have hk := le_spSetBound S c1
  rw [qx_e (E1 := EX xA xA xA) (fun h => by
    have h1 : (spSetBound S c1).1 = 1 := by omega
    rw [h1]
    rfl)] at t
  exact t
theorem cmp_same (a : Int64) : lg_cmp a a = 0 := (lg_cmp_eq a a).mpr rfl
theorem and31 (x : Int32) : ∃ k, k < 32 ∧ x &&& nI 31 = nI k := by
  have h31 : (nI 31).toBitVec.toNat = 31 := by decide +kernel
  have h : (x &&& nI 31).toBitVec.toNat < 2 ^ 5 := by
    rw [Int32.toBitVec_and, BitVec.toNat_and, h31]
    exact Nat.and_lt_two_pow _ (by decide)
  refine ⟨(x &&& nI 31).toBitVec.toNat, h, ?_⟩
  apply Int32.toBitVec_inj.mp
  show _ = BitVec.ofNat 32 _
  rw [BitVec.ofNat_toNat, BitVec.setWidth_eq]
set_option maxHeartbeats 400000 in
set_option maxRecDepth 100000 in
theorem law_0 {Γ : CX} {G : GC} {Z : State → Prop} {T : List ExceptionTableEntry} {nm : String} {b L i k n x : Nat} {xs : Nat → Int32} {M : PH} {S : St} {v5 v6 : Option Value} (C : Cx Γ G (iLaw nm) T 601024 7293034) (hN : NG Γ) (hX : SC Γ G b L xs) (hL : L ≤ 2048) (hi : 4 * i + 4 ≤ L) (hI : LI M x S i) (hkn : k + 2 ≤ 601024 ∧ n + 12 ≤ 7293034) (K : ∀ (M1 : PH) (S1 : St) (v5 v6 : Option Value), LI M1 x S1 (i + 1) → PW Γ G Z 1852 [some (.ref b), some (.ref x), some (.ref (x + 137)), some (.ref (x + 146)), some (.int (nI (4 * i))), v5, v6] [] M1 (k + 2) (n + 12)) : PW Γ G Z 180 [some (.ref b), some (.ref x), some (.ref (x + 137)), some (.ref (x + 146)), some (.int (nI (4 * i))), v5, v6] [] M k n := by
  obtain ⟨hXr, ⟨rf, hMr⟩, hSr, ⟨f, hT⟩, hz⟩ := hI
  have hx0 := hXr.1
  have hk9 : (spAppend S (xs (4 * i + 1))).1 ≤ _ := le_spAppend S (xs (4 * i + 1))
  refine pw_aload_n (q := 181) (j := 1) C dL_law_180 rfl rfl rfl ?_
  refine pw_aload_n (q := 182) (j := 0) C dL_law_181 rfl rfl rfl ?_
  refine pw_iload (q := 184) C dL_law_182 rfl rfl ?_
  refine pw_iconst_n (q := 185) C 1 dL_law_184 (by decide +kernel) rfl ?_
  refine pw_iadd_n (q := 186) C dL_law_185 rfl ?_
  refine pw_sld (q := 187) hX C dL_law_186 (by omega) (by omega) rfl ?_
  refine pw_aload_n (q := 188) (j := 3) C dL_law_187 rfl rfl rfl ?_
  refine pw_any (cr_shN (j := iL_append) C hN dL_law_188 lL_97 mL_append (ro_mk (Nat.le_of_ble_eq_true rfl) (Nat.le_of_ble_eq_true rfl)) (l_append (p_append hXr hSr (xs (4 * i + 1))) (le_spAppend S (xs (4 * i + 1))) hx0 (by omega) (Or.inr (by omega)) hT) rfl rfl (Nat.le_of_ble_eq_true rfl) ⟨by omega, by omega⟩) rfl (fun v M1 e => ?_) (fun E1 M1 e => ?_)
  · obtain ⟨ho, hX1, hz1, hs1, f1, hT1, hv1⟩ := e
    have hv := Sum.inl.inj ho
    subst hv
    have hM1 : RepM M1 (x + 137) rf S := hMr.keep (fun q g1 g2 => hs1 q (by omega) (Or.inr (by omega)) (by omega))
    obtain ⟨gs, hm0⟩ := hM1.obj
    refine pw_istore (q := 193) C dL_law_191 rfl (Nat.le_of_ble_eq_true rfl) rfl ?_
    refine pw_aload_n (q := 194) (j := 2) C dL_law_193 rfl rfl rfl ?_
    refine pw_aload_n (q := 195) (j := 0) C dL_law_194 rfl rfl rfl ?_
    refine pw_iload (q := 197) C dL_law_195 rfl rfl ?_
    refine pw_iconst_n (q := 198) C 1 dL_law_197 (by decide +kernel) rfl ?_
    refine pw_iadd_n (q := 199) C dL_law_198 rfl ?_
    refine pw_sld (q := 200) hX C dL_law_199 (by omega) (by omega) rfl ?_
    refine pw_any (cr_v (j := iX11_append) C dL_law_200 lL_102 mX11_append (ro_mk (Nat.le_of_ble_eq_true rfl) (Nat.le_of_ble_eq_true rfl)) hm0 rfl (c_append hM1 hXr.mb hSr (xs (4 * i + 1))) rfl rfl (Nat.le_of_ble_eq_true rfl) ⟨by omega, by omega⟩) rfl (fun v2 M2 e2 => ?_) (fun E2 M2 e2 => ?_)
    · obtain ⟨⟨w, ho2, hw⟩, hM2, hs2⟩ := e2
      have hv2 := Sum.inl.inj ho2
      subst hv2
      obtain ⟨gs2, hm2⟩ := hM2.obj
      have hT2 := (hs2.2 (x + 146) (Or.inr (by omega))).trans hT1
      have hX2 := hX1.keep (Nat.le_of_eq hs2.1.symm) (fun q g1 g2 => hs2.2 q (Or.inl (by omega)))
      have hf9 : (spAppend S (xs (4 * i + 1))).1 = 0 → f1 (nI 0).toNatClampNeg = w.toInt64 := fun g => by rw [show (nI 0).toNatClampNeg = 0 by decide +kernel, hv1 g, hw g]
      have hI9 : LI M2 x (spAppend S (xs (4 * i + 1))).2.2 (i + 1) := ⟨hX2, ⟨_, hM2⟩, sv_append hSr (xs (4 * i + 1)), ⟨f1, hT2⟩, by rw [hs2.1]; omega⟩
      refine pw_istore (q := 205) C dL_law_203 rfl (Nat.le_of_ble_eq_true rfl) rfl ?_
      refine pw_aload_n (q := 206) (j := 2) C dL_law_205 rfl rfl rfl ?_
      refine pw_rd (q := 209) (cr_v (j := iX11_thrown) C dL_law_206 lL_103 mX11_thrown (ro_mk (Nat.le_of_ble_eq_true rfl) (Nat.le_of_ble_eq_true rfl)) hm2 rfl (c_thrown hM2) rfl rfl (Nat.le_of_ble_eq_true rfl) ⟨by omega, by omega⟩) rfl ?_
      refine pw_iload (q := 211) C dL_law_209 rfl rfl ?_
      refine pw_icmp_eq_n (q := 214) 216 C dL_law_211 (by decide) rfl (by omega) (by omega) (fun g211 => ?_) (fun g211 => absurd g211 (not_not_intro rfl))
      refine pw_iload (q := 218) C dL_law_216 rfl rfl ?_
      refine pw_if_ne_n (q := 221) 233 C dL_law_218 (by decide) rfl (by omega) (fun g218 => ?_) (fun g218 => ?_)
      · refine pw_goto (q := 0) 1852 C dL_law_233 (by decide) ?_
        exact K _ _ _ _ hI9
      · refine pw_aload_n (q := 222) (j := 3) C dL_law_221 rfl rfl rfl ?_
        refine pw_iconst_n (q := 223) C 0 dL_law_222 (by decide +kernel) rfl ?_
        refine pw_lald (q := 224) C dL_law_223 hT2 (vp_in_n (by decide) (by decide)) rfl ?_
        rw [hf9 g218]
        refine pw_iload (q := 226) C dL_law_224 rfl rfl ?_
        refine pw_i2l (q := 227) C dL_law_226 rfl ?_
        refine pw_lcmp (q := 228) C dL_law_227 rfl ?_
        refine pw_if_eq (q := 231) 233 C dL_law_228 (by decide) rfl (fun g228 => ?_) (fun g228 => absurd g228 (not_not_intro (cmp_same _)))
        refine pw_goto (q := 0) 1852 C dL_law_233 (by decide) ?_
        exact K _ _ _ _ hI9
    · obtain ⟨⟨w, ho2, _⟩, _, _⟩ := e2
      cases ho2
  · obtain ⟨ho, _⟩ := e
    cases ho
set_option maxHeartbeats 400000 in
set_option maxRecDepth 100000 in
theorem law_1 {Γ : CX} {G : GC} {Z : State → Prop} {T : List ExceptionTableEntry} {nm : String} {b L i k n x : Nat} {xs : Nat → Int32} {M : PH} {S : St} {v5 v6 : Option Value} (C : Cx Γ G (iLaw nm) T 601024 7293034) (hN : NG Γ) (hX : SC Γ G b L xs) (hL : L ≤ 2048) (hi : 4 * i + 4 ≤ L) (hI : LI M x S i) (hkn : k + 2 ≤ 601024 ∧ n + 12 ≤ 7293034) (K : ∀ (M1 : PH) (S1 : St) (v5 v6 : Option Value), LI M1 x S1 (i + 1) → PW Γ G Z 1852 [some (.ref b), some (.ref x), some (.ref (x + 137)), some (.ref (x + 146)), some (.int (nI (4 * i))), v5, v6] [] M1 (k + 2) (n + 12)) : PW Γ G Z 236 [some (.ref b), some (.ref x), some (.ref (x + 137)), some (.ref (x + 146)), some (.int (nI (4 * i))), v5, v6] [] M k n := by
  obtain ⟨hXr, ⟨rf, hMr⟩, hSr, ⟨f, hT⟩, hz⟩ := hI
  have hx0 := hXr.1
  refine pw_aload_n (q := 237) (j := 1) C dL_law_236 rfl rfl rfl ?_
  refine pw_any (cr_v (j := iX10_clearText) C dL_law_237 lL_106 mX10_clearText (ro_mk (Nat.le_of_ble_eq_true rfl) (Nat.le_of_ble_eq_true rfl)) hx0 rfl (p_clearText hXr hSr) rfl rfl (Nat.le_of_ble_eq_true rfl) ⟨by omega, by omega⟩) rfl (fun v M1 e => ?_) (fun E1 M1 e => ?_)
  · obtain ⟨hX1, hF1, ho⟩ := e
    have ho9 : (Sum.inl v : OC) = .inl (some (.int (spClear S).2.1)) := ho
    have hv := Sum.inl.inj ho9
    subst hv
    have hM1 : RepM M1 (x + 137) rf S := hMr.keep (fun q g1 g2 => hF1.2 q (by omega) (Or.inr (by omega)))
    have hT1 := (hF1.2 (x + 146) (by omega) (Or.inr (by omega))).trans hT
    have hz1 := hF1.1
    obtain ⟨gs, hm0⟩ := hM1.obj
    refine pw_aload_n (q := 241) (j := 2) C dL_law_240 rfl rfl rfl ?_
    refine pw_any (cr_v (j := iX11_clearText) C dL_law_241 lL_109 mX11_clearText (ro_mk (Nat.le_of_ble_eq_true rfl) (Nat.le_of_ble_eq_true rfl)) hm0 rfl (c_clearText hM1 hXr.mb hSr) rfl rfl (Nat.le_of_ble_eq_true rfl) ⟨by omega, by omega⟩) rfl (fun v2 M2 e2 => ?_) (fun E2 M2 e2 => ?_)
    · obtain ⟨⟨w, ho2, hw⟩, hM2, hs2⟩ := e2
      have hv2 := Sum.inl.inj ho2
      subst hv2
      have hT2 := (hs2.2 (x + 146) (Or.inr (by omega))).trans hT1
      have hX2 := hX1.keep (Nat.le_of_eq hs2.1.symm) (fun q g1 g2 => hs2.2 q (Or.inl (by omega)))
      have hI9 : LI M2 x (spClear S).2.2 (i + 1) := ⟨hX2, ⟨_, hM2⟩, sv_clear hSr, ⟨f, hT2⟩, by rw [hs2.1]; omega⟩
      refine pw_icmp_eq (q := 247) 1852 C dL_law_244 (by decide) rfl (fun g244 => ?_) (fun g244 => absurd g244 (not_not_intro (hw rfl).symm))
      exact K _ _ _ _ hI9
    · obtain ⟨⟨w, ho2, _⟩, _, _⟩ := e2
      cases ho2
  · obtain ⟨_, _, ho⟩ := e
    have ho9 : (Sum.inr E1 : OC) = .inl (some (.int (spClear S).2.1)) := ho
    cases ho9
set_option maxHeartbeats 400000 in
set_option maxRecDepth 100000 in
theorem law_2 {Γ : CX} {G : GC} {Z : State → Prop} {T : List ExceptionTableEntry} {nm : String} {b L i k n x : Nat} {xs : Nat → Int32} {M : PH} {S : St} {v5 v6 : Option Value} (C : Cx Γ G (iLaw nm) T 601024 7293034) (hN : NG Γ) (hX : SC Γ G b L xs) (hL : L ≤ 2048) (hi : 4 * i + 4 ≤ L) (hI : LI M x S i) (hkn : k + 2 ≤ 601024 ∧ n + 12 ≤ 7293034) (K : ∀ (M1 : PH) (S1 : St) (v5 v6 : Option Value), LI M1 x S1 (i + 1) → PW Γ G Z 1852 [some (.ref b), some (.ref x), some (.ref (x + 137)), some (.ref (x + 146)), some (.int (nI (4 * i))), v5, v6] [] M1 (k + 2) (n + 12)) : PW Γ G Z 249 [some (.ref b), some (.ref x), some (.ref (x + 137)), some (.ref (x + 146)), some (.int (nI (4 * i))), v5, v6] [] M k n := by
  obtain ⟨hXr, ⟨rf, hMr⟩, hSr, ⟨f, hT⟩, hz⟩ := hI
  have hx0 := hXr.1
  refine pw_aload_n (q := 250) (j := 1) C dL_law_249 rfl rfl rfl ?_
  refine pw_any (cr_v (j := iX10_errorPosition) C dL_law_250 lL_110 mX10_errorPosition (ro_mk (Nat.le_of_ble_eq_true rfl) (Nat.le_of_ble_eq_true rfl)) hx0 rfl (p_errorPosition hXr hSr) rfl rfl (Nat.le_of_ble_eq_true rfl) ⟨by omega, by omega⟩) rfl (fun v M1 e => ?_) (fun E1 M1 e => ?_)
  · obtain ⟨hX1, hF1, ho⟩ := e
    have ho9 : (Sum.inl v : OC) = .inl (some (.int (((0, errS (sT S) (sN S), S) : RS)).2.1)) := ho
    have hv := Sum.inl.inj ho9
    subst hv
    have hM1 : RepM M1 (x + 137) rf S := hMr.keep (fun q g1 g2 => hF1.2 q (by omega) (Or.inr (by omega)))
    have hT1 := (hF1.2 (x + 146) (by omega) (Or.inr (by omega))).trans hT
    have hz1 := hF1.1
    obtain ⟨gs, hm0⟩ := hM1.obj
    refine pw_aload_n (q := 254) (j := 2) C dL_law_253 rfl rfl rfl ?_
    refine pw_any (cr_v (j := iX11_errorPosition) C dL_law_254 lL_113 mX11_errorPosition (ro_mk (Nat.le_of_ble_eq_true rfl) (Nat.le_of_ble_eq_true rfl)) hm0 rfl (c_errorPosition hM1 hXr.mb hSr) rfl rfl (Nat.le_of_ble_eq_true rfl) ⟨by omega, by omega⟩) rfl (fun v2 M2 e2 => ?_) (fun E2 M2 e2 => ?_)
    · obtain ⟨⟨w, ho2, hw⟩, hM2, hs2⟩ := e2
      have hv2 := Sum.inl.inj ho2
      subst hv2
      have hT2 := (hs2.2 (x + 146) (Or.inr (by omega))).trans hT1
      have hX2 := hX1.keep (Nat.le_of_eq hs2.1.symm) (fun q g1 g2 => hs2.2 q (Or.inl (by omega)))
      have hI9 : LI M2 x (((0, errS (sT S) (sN S), S) : RS)).2.2 (i + 1) := ⟨hX2, ⟨_, hM2⟩, hSr.up, ⟨f, hT2⟩, by rw [hs2.1]; omega⟩
      refine pw_icmp_eq (q := 260) 1852 C dL_law_257 (by decide) rfl (fun g257 => ?_) (fun g257 => absurd g257 (not_not_intro (hw rfl).symm))
      exact K _ _ _ _ hI9
    · obtain ⟨⟨w, ho2, _⟩, _, _⟩ := e2
      cases ho2
  · obtain ⟨_, _, ho⟩ := e
    have ho9 : (Sum.inr E1 : OC) = .inl (some (.int (((0, errS (sT S) (sN S), S) : RS)).2.1)) := ho
    cases ho9
set_option maxHeartbeats 400000 in
set_option maxRecDepth 100000 in
theorem law_3 {Γ : CX} {G : GC} {Z : State → Prop} {T : List ExceptionTableEntry} {nm : String} {b L i k n x : Nat} {xs : Nat → Int32} {M : PH} {S : St} {v5 v6 : Option Value} (C : Cx Γ G (iLaw nm) T 601024 7293034) (hN : NG Γ) (hX : SC Γ G b L xs) (hL : L ≤ 2048) (hi : 4 * i + 4 ≤ L) (hI : LI M x S i) (hkn : k + 2 ≤ 601024 ∧ n + 12 ≤ 7293034) (K : ∀ (M1 : PH) (S1 : St) (v5 v6 : Option Value), LI M1 x S1 (i + 1) → PW Γ G Z 1852 [some (.ref b), some (.ref x), some (.ref (x + 137)), some (.ref (x + 146)), some (.int (nI (4 * i))), v5, v6] [] M1 (k + 2) (n + 12)) : PW Γ G Z 262 [some (.ref b), some (.ref x), some (.ref (x + 137)), some (.ref (x + 146)), some (.int (nI (4 * i))), v5, v6] [] M k n := by
  obtain ⟨hXr, ⟨rf, hMr⟩, hSr, ⟨f, hT⟩, hz⟩ := hI
  have hx0 := hXr.1
  have hk9 : (spLoad S).1 ≤ _ := le_spLoad S
  refine pw_aload_n (q := 263) (j := 1) C dL_law_262 rfl rfl rfl ?_
  refine pw_aload_n (q := 264) (j := 3) C dL_law_263 rfl rfl rfl ?_
  refine pw_any (cr_shN (j := iL_load) C hN dL_law_264 lL_114 mL_load (ro_mk (Nat.le_of_ble_eq_true rfl) (Nat.le_of_ble_eq_true rfl)) (l_load (p_load hXr hSr) (le_spLoad S) hx0 (by omega) (Or.inr (by omega)) hT) rfl rfl (Nat.le_of_ble_eq_true rfl) ⟨by omega, by omega⟩) rfl (fun v M1 e => ?_) (fun E1 M1 e => ?_)
  · obtain ⟨ho, hX1, hz1, hs1, f1, hT1, hv1⟩ := e
    have hv := Sum.inl.inj ho
    subst hv
    have hM1 : RepM M1 (x + 137) rf S := hMr.keep (fun q g1 g2 => hs1 q (by omega) (Or.inr (by omega)) (by omega))
    obtain ⟨gs, hm0⟩ := hM1.obj
    refine pw_istore (q := 269) C dL_law_267 rfl (Nat.le_of_ble_eq_true rfl) rfl ?_
    refine pw_aload_n (q := 270) (j := 2) C dL_law_269 rfl rfl rfl ?_
    refine pw_any (cr_v (j := iX11_load) C dL_law_270 lL_117 mX11_load (ro_mk (Nat.le_of_ble_eq_true rfl) (Nat.le_of_ble_eq_true rfl)) hm0 rfl (c_load hM1 hXr.mb hSr) rfl rfl (Nat.le_of_ble_eq_true rfl) ⟨by omega, by omega⟩) rfl (fun v2 M2 e2 => ?_) (fun E2 M2 e2 => ?_)
    · obtain ⟨⟨w, ho2, hw⟩, hM2, hs2⟩ := e2
      have hv2 := Sum.inl.inj ho2
      subst hv2
      obtain ⟨gs2, hm2⟩ := hM2.obj
      have hT2 := (hs2.2 (x + 146) (Or.inr (by omega))).trans hT1
      have hX2 := hX1.keep (Nat.le_of_eq hs2.1.symm) (fun q g1 g2 => hs2.2 q (Or.inl (by omega)))
      have hX2 := load_3 hX2
      have hl1 := load_1 S
      have hl2 := load_2 S
      have hf9 : (spLoad S).1 = 0 → f1 (nI 0).toNatClampNeg = w.toInt64 := fun g => by rw [show (nI 0).toNatClampNeg = 0 by decide +kernel, hv1 g, hw (hl1.symm.trans g), hl2]
      have hI9 : LI M2 x (spLoadM S).2.2 (i + 1) := ⟨hX2, ⟨_, hM2⟩, sv_load hSr, ⟨f1, hT2⟩, by rw [hs2.1]; omega⟩
      refine pw_istore (q := 275) C dL_law_273 rfl (Nat.le_of_ble_eq_true rfl) rfl ?_
      refine pw_aload_n (q := 276) (j := 2) C dL_law_275 rfl rfl rfl ?_
      refine pw_rd (q := 279) (cr_v (j := iX11_thrown) C dL_law_276 lL_103 mX11_thrown (ro_mk (Nat.le_of_ble_eq_true rfl) (Nat.le_of_ble_eq_true rfl)) hm2 rfl (c_thrown hM2) rfl rfl (Nat.le_of_ble_eq_true rfl) ⟨by omega, by omega⟩) rfl ?_
      refine pw_iload (q := 281) C dL_law_279 rfl rfl ?_
      refine pw_icmp_eq_n (q := 284) 286 C dL_law_281 (by decide) rfl (by omega) (by omega) (fun g281 => ?_) (fun g281 => absurd g281 (not_not_intro hl1.symm))
      refine pw_iload (q := 288) C dL_law_286 rfl rfl ?_
      refine pw_if_ne_n (q := 291) 303 C dL_law_288 (by decide) rfl (by omega) (fun g288 => ?_) (fun g288 => ?_)
      · refine pw_goto (q := 0) 1852 C dL_law_303 (by decide) ?_
        exact K _ _ _ _ hI9
      · refine pw_aload_n (q := 292) (j := 3) C dL_law_291 rfl rfl rfl ?_
        refine pw_iconst_n (q := 293) C 0 dL_law_292 (by decide +kernel) rfl ?_
        refine pw_lald (q := 294) C dL_law_293 hT2 (vp_in_n (by decide) (by decide)) rfl ?_
        rw [hf9 g288]
        refine pw_iload (q := 296) C dL_law_294 rfl rfl ?_
        refine pw_i2l (q := 297) C dL_law_296 rfl ?_
        refine pw_lcmp (q := 298) C dL_law_297 rfl ?_
        refine pw_if_eq (q := 301) 303 C dL_law_298 (by decide) rfl (fun g298 => ?_) (fun g298 => absurd g298 (not_not_intro (cmp_same _)))
        refine pw_goto (q := 0) 1852 C dL_law_303 (by decide) ?_
        exact K _ _ _ _ hI9
    · obtain ⟨⟨w, ho2, _⟩, _, _⟩ := e2
      cases ho2
  · obtain ⟨ho, _⟩ := e
    cases ho
set_option maxHeartbeats 400000 in
set_option maxRecDepth 100000 in
theorem law_4 {Γ : CX} {G : GC} {Z : State → Prop} {T : List ExceptionTableEntry} {nm : String} {b L i k n x : Nat} {xs : Nat → Int32} {M : PH} {S : St} {v5 v6 : Option Value} (C : Cx Γ G (iLaw nm) T 601024 7293034) (hN : NG Γ) (hX : SC Γ G b L xs) (hL : L ≤ 2048) (hi : 4 * i + 4 ≤ L) (hI : LI M x S i) (hkn : k + 2 ≤ 601024 ∧ n + 12 ≤ 7293034) (K : ∀ (M1 : PH) (S1 : St) (v5 v6 : Option Value), LI M1 x S1 (i + 1) → PW Γ G Z 1852 [some (.ref b), some (.ref x), some (.ref (x + 137)), some (.ref (x + 146)), some (.int (nI (4 * i))), v5, v6] [] M1 (k + 2) (n + 12)) : PW Γ G Z 306 [some (.ref b), some (.ref x), some (.ref (x + 137)), some (.ref (x + 146)), some (.int (nI (4 * i))), v5, v6] [] M k n := by
  obtain ⟨hXr, ⟨rf, hMr⟩, hSr, ⟨f, hT⟩, hz⟩ := hI
  have hx0 := hXr.1
  have hk9 : (spAbout S (xs (4 * i + 1))).1 ≤ _ := le_spAbout S (xs (4 * i + 1))
  refine pw_aload_n (q := 307) (j := 1) C dL_law_306 rfl rfl rfl ?_
  refine pw_aload_n (q := 308) (j := 0) C dL_law_307 rfl rfl rfl ?_
  refine pw_iload (q := 310) C dL_law_308 rfl rfl ?_
  refine pw_iconst_n (q := 311) C 1 dL_law_310 (by decide +kernel) rfl ?_
  refine pw_iadd_n (q := 312) C dL_law_311 rfl ?_
  refine pw_sld (q := 313) hX C dL_law_312 (by omega) (by omega) rfl ?_
  refine pw_aload_n (q := 314) (j := 3) C dL_law_313 rfl rfl rfl ?_
  refine pw_any (cr_shN (j := iL_about) C hN dL_law_314 lL_118 mL_about (ro_mk (Nat.le_of_ble_eq_true rfl) (Nat.le_of_ble_eq_true rfl)) (l_about (p_about hXr hSr (xs (4 * i + 1))) (le_spAbout S (xs (4 * i + 1))) hx0 (by omega) (Or.inr (by omega)) hT) rfl rfl (Nat.le_of_ble_eq_true rfl) ⟨by omega, by omega⟩) rfl (fun v M1 e => ?_) (fun E1 M1 e => ?_)
  · obtain ⟨ho, hX1, hz1, hs1, f1, hT1, hv1⟩ := e
    have hv := Sum.inl.inj ho
    subst hv
    have hM1 : RepM M1 (x + 137) rf S := hMr.keep (fun q g1 g2 => hs1 q (by omega) (Or.inr (by omega)) (by omega))
    obtain ⟨gs, hm0⟩ := hM1.obj
    refine pw_istore (q := 319) C dL_law_317 rfl (Nat.le_of_ble_eq_true rfl) rfl ?_
    refine pw_aload_n (q := 320) (j := 2) C dL_law_319 rfl rfl rfl ?_
    refine pw_aload_n (q := 321) (j := 0) C dL_law_320 rfl rfl rfl ?_
    refine pw_iload (q := 323) C dL_law_321 rfl rfl ?_
    refine pw_iconst_n (q := 324) C 1 dL_law_323 (by decide +kernel) rfl ?_
    refine pw_iadd_n (q := 325) C dL_law_324 rfl ?_
    refine pw_sld (q := 326) hX C dL_law_325 (by omega) (by omega) rfl ?_
    refine pw_any (cr_v (j := iX11_about) C dL_law_326 lL_120 mX11_about (ro_mk (Nat.le_of_ble_eq_true rfl) (Nat.le_of_ble_eq_true rfl)) hm0 rfl (c_about hM1 hXr.mb hSr (xs (4 * i + 1))) rfl rfl (Nat.le_of_ble_eq_true rfl) ⟨by omega, by omega⟩) rfl (fun v2 M2 e2 => ?_) (fun E2 M2 e2 => ?_)
    · obtain ⟨⟨w, ho2, hw⟩, hM2, hs2⟩ := e2
      have hv2 := Sum.inl.inj ho2
      subst hv2
      obtain ⟨gs2, hm2⟩ := hM2.obj
      have hT2 := (hs2.2 (x + 146) (Or.inr (by omega))).trans hT1
      have hX2 := hX1.keep (Nat.le_of_eq hs2.1.symm) (fun q g1 g2 => hs2.2 q (Or.inl (by omega)))
      have hf9 : (spAbout S (xs (4 * i + 1))).1 = 0 → f1 (nI 0).toNatClampNeg = w.toInt64 := fun g => by rw [show (nI 0).toNatClampNeg = 0 by decide +kernel, hv1 g, hw g]
      have hI9 : LI M2 x (spAbout S (xs (4 * i + 1))).2.2 (i + 1) := ⟨hX2, ⟨_, hM2⟩, sv_spAbout hSr (xs (4 * i + 1)), ⟨f1, hT2⟩, by rw [hs2.1]; omega⟩
      refine pw_istore (q := 331) C dL_law_329 rfl (Nat.le_of_ble_eq_true rfl) rfl ?_
      refine pw_aload_n (q := 332) (j := 2) C dL_law_331 rfl rfl rfl ?_
      refine pw_rd (q := 335) (cr_v (j := iX11_thrown) C dL_law_332 lL_103 mX11_thrown (ro_mk (Nat.le_of_ble_eq_true rfl) (Nat.le_of_ble_eq_true rfl)) hm2 rfl (c_thrown hM2) rfl rfl (Nat.le_of_ble_eq_true rfl) ⟨by omega, by omega⟩) rfl ?_
      refine pw_iload (q := 337) C dL_law_335 rfl rfl ?_
      refine pw_icmp_eq_n (q := 340) 342 C dL_law_337 (by decide) rfl (by omega) (by omega) (fun g337 => ?_) (fun g337 => absurd g337 (not_not_intro rfl))
      refine pw_iload (q := 344) C dL_law_342 rfl rfl ?_
      refine pw_if_ne_n (q := 347) 359 C dL_law_344 (by decide) rfl (by omega) (fun g344 => ?_) (fun g344 => ?_)
      · refine pw_goto (q := 0) 1852 C dL_law_359 (by decide) ?_
        exact K _ _ _ _ hI9
      · refine pw_aload_n (q := 348) (j := 3) C dL_law_347 rfl rfl rfl ?_
        refine pw_iconst_n (q := 349) C 0 dL_law_348 (by decide +kernel) rfl ?_
        refine pw_lald (q := 350) C dL_law_349 hT2 (vp_in_n (by decide) (by decide)) rfl ?_
        rw [hf9 g344]
        refine pw_iload (q := 352) C dL_law_350 rfl rfl ?_
        refine pw_i2l (q := 353) C dL_law_352 rfl ?_
        refine pw_lcmp (q := 354) C dL_law_353 rfl ?_
        refine pw_if_eq (q := 357) 359 C dL_law_354 (by decide) rfl (fun g354 => ?_) (fun g354 => absurd g354 (not_not_intro (cmp_same _)))
        refine pw_goto (q := 0) 1852 C dL_law_359 (by decide) ?_
        exact K _ _ _ _ hI9
    · obtain ⟨⟨w, ho2, _⟩, _, _⟩ := e2
      cases ho2
  · obtain ⟨ho, _⟩ := e
    cases ho
set_option maxHeartbeats 400000 in
set_option maxRecDepth 100000 in
theorem law_5 {Γ : CX} {G : GC} {Z : State → Prop} {T : List ExceptionTableEntry} {nm : String} {b L i k n x : Nat} {xs : Nat → Int32} {M : PH} {S : St} {v5 v6 : Option Value} (C : Cx Γ G (iLaw nm) T 601024 7293034) (hN : NG Γ) (hX : SC Γ G b L xs) (hL : L ≤ 2048) (hi : 4 * i + 4 ≤ L) (hI : LI M x S i) (hkn : k + 2 ≤ 601024 ∧ n + 12 ≤ 7293034) (K : ∀ (M1 : PH) (S1 : St) (v5 v6 : Option Value), LI M1 x S1 (i + 1) → PW Γ G Z 1852 [some (.ref b), some (.ref x), some (.ref (x + 137)), some (.ref (x + 146)), some (.int (nI (4 * i))), v5, v6] [] M1 (k + 2) (n + 12)) : PW Γ G Z 362 [some (.ref b), some (.ref x), some (.ref (x + 137)), some (.ref (x + 146)), some (.int (nI (4 * i))), v5, v6] [] M k n := by
  obtain ⟨hXr, ⟨rf, hMr⟩, hSr, ⟨f, hT⟩, hz⟩ := hI
  have hx0 := hXr.1
  have hk9 : (spCourse S (xs (4 * i + 1)) (xs (4 * i + 2))).1 ≤ _ := le_spCourse S (xs (4 * i + 1)) (xs (4 * i + 2))
  refine pw_aload_n (q := 363) (j := 1) C dL_law_362 rfl rfl rfl ?_
  refine pw_aload_n (q := 364) (j := 0) C dL_law_363 rfl rfl rfl ?_
  refine pw_iload (q := 366) C dL_law_364 rfl rfl ?_
  refine pw_iconst_n (q := 367) C 1 dL_law_366 (by decide +kernel) rfl ?_
  refine pw_iadd_n (q := 368) C dL_law_367 rfl ?_
  refine pw_sld (q := 369) hX C dL_law_368 (by omega) (by omega) rfl ?_
  refine pw_aload_n (q := 370) (j := 0) C dL_law_369 rfl rfl rfl ?_
  refine pw_iload (q := 372) C dL_law_370 rfl rfl ?_
  refine pw_iconst_n (q := 373) C 2 dL_law_372 (by decide +kernel) rfl ?_
  refine pw_iadd_n (q := 374) C dL_law_373 rfl ?_
  refine pw_sld (q := 375) hX C dL_law_374 (by omega) (by omega) rfl ?_
  refine pw_aload_n (q := 376) (j := 3) C dL_law_375 rfl rfl rfl ?_
  refine pw_any (cr_shN (j := iL_course) C hN dL_law_376 lL_121 mL_course (ro_mk (Nat.le_of_ble_eq_true rfl) (Nat.le_of_ble_eq_true rfl)) (l_course (p_course hXr hSr (xs (4 * i + 1)) (xs (4 * i + 2))) (le_spCourse S (xs (4 * i + 1)) (xs (4 * i + 2))) hx0 (by omega) (Or.inr (by omega)) hT) rfl rfl (Nat.le_of_ble_eq_true rfl) ⟨by omega, by omega⟩) rfl (fun v M1 e => ?_) (fun E1 M1 e => ?_)
  · obtain ⟨ho, hX1, hz1, hs1, f1, hT1, hv1⟩ := e
    have hv := Sum.inl.inj ho
    subst hv
    have hM1 : RepM M1 (x + 137) rf S := hMr.keep (fun q g1 g2 => hs1 q (by omega) (Or.inr (by omega)) (by omega))
    obtain ⟨gs, hm0⟩ := hM1.obj
    refine pw_istore (q := 381) C dL_law_379 rfl (Nat.le_of_ble_eq_true rfl) rfl ?_
    refine pw_aload_n (q := 382) (j := 2) C dL_law_381 rfl rfl rfl ?_
    refine pw_aload_n (q := 383) (j := 0) C dL_law_382 rfl rfl rfl ?_
    refine pw_iload (q := 385) C dL_law_383 rfl rfl ?_
    refine pw_iconst_n (q := 386) C 1 dL_law_385 (by decide +kernel) rfl ?_
    refine pw_iadd_n (q := 387) C dL_law_386 rfl ?_
    refine pw_sld (q := 388) hX C dL_law_387 (by omega) (by omega) rfl ?_
    refine pw_aload_n (q := 389) (j := 0) C dL_law_388 rfl rfl rfl ?_
    refine pw_iload (q := 391) C dL_law_389 rfl rfl ?_
    refine pw_iconst_n (q := 392) C 2 dL_law_391 (by decide +kernel) rfl ?_
    refine pw_iadd_n (q := 393) C dL_law_392 rfl ?_
    refine pw_sld (q := 394) hX C dL_law_393 (by omega) (by omega) rfl ?_
    refine pw_any (cr_v (j := iX11_course) C dL_law_394 lL_124 mX11_course (ro_mk (Nat.le_of_ble_eq_true rfl) (Nat.le_of_ble_eq_true rfl)) hm0 rfl (c_course hM1 hXr.mb hSr (xs (4 * i + 1)) (xs (4 * i + 2))) rfl rfl (Nat.le_of_ble_eq_true rfl) ⟨by omega, by omega⟩) rfl (fun v2 M2 e2 => ?_) (fun E2 M2 e2 => ?_)
    · obtain ⟨⟨w, ho2, hw⟩, hM2, hs2⟩ := e2
      have hv2 := Sum.inl.inj ho2
      subst hv2
      obtain ⟨gs2, hm2⟩ := hM2.obj
      have hT2 := (hs2.2 (x + 146) (Or.inr (by omega))).trans hT1
      have hX2 := hX1.keep (Nat.le_of_eq hs2.1.symm) (fun q g1 g2 => hs2.2 q (Or.inl (by omega)))
      have hf9 : (spCourse S (xs (4 * i + 1)) (xs (4 * i + 2))).1 = 0 → f1 (nI 0).toNatClampNeg = w.toInt64 := fun g => by rw [show (nI 0).toNatClampNeg = 0 by decide +kernel, hv1 g, hw g]
      have hI9 : LI M2 x (spCourse S (xs (4 * i + 1)) (xs (4 * i + 2))).2.2 (i + 1) := ⟨hX2, ⟨_, hM2⟩, sv_spCourse hSr (xs (4 * i + 1)) (xs (4 * i + 2)), ⟨f1, hT2⟩, by rw [hs2.1]; omega⟩
      refine pw_istore (q := 399) C dL_law_397 rfl (Nat.le_of_ble_eq_true rfl) rfl ?_
      refine pw_aload_n (q := 400) (j := 2) C dL_law_399 rfl rfl rfl ?_
      refine pw_rd (q := 403) (cr_v (j := iX11_thrown) C dL_law_400 lL_103 mX11_thrown (ro_mk (Nat.le_of_ble_eq_true rfl) (Nat.le_of_ble_eq_true rfl)) hm2 rfl (c_thrown hM2) rfl rfl (Nat.le_of_ble_eq_true rfl) ⟨by omega, by omega⟩) rfl ?_
      refine pw_iload (q := 405) C dL_law_403 rfl rfl ?_
      refine pw_icmp_eq_n (q := 408) 410 C dL_law_405 (by decide) rfl (by omega) (by omega) (fun g405 => ?_) (fun g405 => absurd g405 (not_not_intro rfl))
      refine pw_iload (q := 412) C dL_law_410 rfl rfl ?_
      refine pw_if_ne_n (q := 415) 427 C dL_law_412 (by decide) rfl (by omega) (fun g412 => ?_) (fun g412 => ?_)
      · refine pw_goto (q := 0) 1852 C dL_law_427 (by decide) ?_
        exact K _ _ _ _ hI9
      · refine pw_aload_n (q := 416) (j := 3) C dL_law_415 rfl rfl rfl ?_
        refine pw_iconst_n (q := 417) C 0 dL_law_416 (by decide +kernel) rfl ?_
        refine pw_lald (q := 418) C dL_law_417 hT2 (vp_in_n (by decide) (by decide)) rfl ?_
        rw [hf9 g412]
        refine pw_iload (q := 420) C dL_law_418 rfl rfl ?_
        refine pw_i2l (q := 421) C dL_law_420 rfl ?_
        refine pw_lcmp (q := 422) C dL_law_421 rfl ?_
        refine pw_if_eq (q := 425) 427 C dL_law_422 (by decide) rfl (fun g422 => ?_) (fun g422 => absurd g422 (not_not_intro (cmp_same _)))
        refine pw_goto (q := 0) 1852 C dL_law_427 (by decide) ?_
        exact K _ _ _ _ hI9
    · obtain ⟨⟨w, ho2, _⟩, _, _⟩ := e2
      cases ho2
  · obtain ⟨ho, _⟩ := e
    cases ho
set_option maxHeartbeats 400000 in
set_option maxRecDepth 100000 in
theorem law_6 {Γ : CX} {G : GC} {Z : State → Prop} {T : List ExceptionTableEntry} {nm : String} {b L i k n x : Nat} {xs : Nat → Int32} {M : PH} {S : St} {v5 v6 : Option Value} (C : Cx Γ G (iLaw nm) T 601024 7293034) (hN : NG Γ) (hX : SC Γ G b L xs) (hL : L ≤ 2048) (hi : 4 * i + 4 ≤ L) (hI : LI M x S i) (hkn : k + 2 ≤ 601024 ∧ n + 12 ≤ 7293034) (K : ∀ (M1 : PH) (S1 : St) (v5 v6 : Option Value), LI M1 x S1 (i + 1) → PW Γ G Z 1852 [some (.ref b), some (.ref x), some (.ref (x + 137)), some (.ref (x + 146)), some (.int (nI (4 * i))), v5, v6] [] M1 (k + 2) (n + 12)) : PW Γ G Z 430 [some (.ref b), some (.ref x), some (.ref (x + 137)), some (.ref (x + 146)), some (.int (nI (4 * i))), v5, v6] [] M k n := by
  obtain ⟨hXr, ⟨rf, hMr⟩, hSr, ⟨f, hT⟩, hz⟩ := hI
  have hx0 := hXr.1
  have hk9 : (spMason S (xs (4 * i + 1)) (xs (4 * i + 2))).1 ≤ _ := le_spMason S (xs (4 * i + 1)) (xs (4 * i + 2))
  refine pw_aload_n (q := 431) (j := 1) C dL_law_430 rfl rfl rfl ?_
  refine pw_aload_n (q := 432) (j := 0) C dL_law_431 rfl rfl rfl ?_
  refine pw_iload (q := 434) C dL_law_432 rfl rfl ?_
  refine pw_iconst_n (q := 435) C 1 dL_law_434 (by decide +kernel) rfl ?_
  refine pw_iadd_n (q := 436) C dL_law_435 rfl ?_
  refine pw_sld (q := 437) hX C dL_law_436 (by omega) (by omega) rfl ?_
  refine pw_aload_n (q := 438) (j := 0) C dL_law_437 rfl rfl rfl ?_
  refine pw_iload (q := 440) C dL_law_438 rfl rfl ?_
  refine pw_iconst_n (q := 441) C 2 dL_law_440 (by decide +kernel) rfl ?_
  refine pw_iadd_n (q := 442) C dL_law_441 rfl ?_
  refine pw_sld (q := 443) hX C dL_law_442 (by omega) (by omega) rfl ?_
  refine pw_aload_n (q := 444) (j := 3) C dL_law_443 rfl rfl rfl ?_
  refine pw_any (cr_shN (j := iL_mason) C hN dL_law_444 lL_125 mL_mason (ro_mk (Nat.le_of_ble_eq_true rfl) (Nat.le_of_ble_eq_true rfl)) (l_mason (p_mason hXr hSr (xs (4 * i + 1)) (xs (4 * i + 2))) (le_spMason S (xs (4 * i + 1)) (xs (4 * i + 2))) hx0 (by omega) (Or.inr (by omega)) hT) rfl rfl (Nat.le_of_ble_eq_true rfl) ⟨by omega, by omega⟩) rfl (fun v M1 e => ?_) (fun E1 M1 e => ?_)
  · obtain ⟨ho, hX1, hz1, hs1, f1, hT1, hv1⟩ := e
    have hv := Sum.inl.inj ho
    subst hv
    have hM1 : RepM M1 (x + 137) rf S := hMr.keep (fun q g1 g2 => hs1 q (by omega) (Or.inr (by omega)) (by omega))
    obtain ⟨gs, hm0⟩ := hM1.obj
    refine pw_istore (q := 449) C dL_law_447 rfl (Nat.le_of_ble_eq_true rfl) rfl ?_
    refine pw_aload_n (q := 450) (j := 2) C dL_law_449 rfl rfl rfl ?_
    refine pw_aload_n (q := 451) (j := 0) C dL_law_450 rfl rfl rfl ?_
    refine pw_iload (q := 453) C dL_law_451 rfl rfl ?_
    refine pw_iconst_n (q := 454) C 1 dL_law_453 (by decide +kernel) rfl ?_
    refine pw_iadd_n (q := 455) C dL_law_454 rfl ?_
    refine pw_sld (q := 456) hX C dL_law_455 (by omega) (by omega) rfl ?_
    refine pw_aload_n (q := 457) (j := 0) C dL_law_456 rfl rfl rfl ?_
    refine pw_iload (q := 459) C dL_law_457 rfl rfl ?_
    refine pw_iconst_n (q := 460) C 2 dL_law_459 (by decide +kernel) rfl ?_
    refine pw_iadd_n (q := 461) C dL_law_460 rfl ?_
    refine pw_sld (q := 462) hX C dL_law_461 (by omega) (by omega) rfl ?_
    refine pw_any (cr_v (j := iX11_mason) C dL_law_462 lL_127 mX11_mason (ro_mk (Nat.le_of_ble_eq_true rfl) (Nat.le_of_ble_eq_true rfl)) hm0 rfl (c_mason hM1 hXr.mb hSr (xs (4 * i + 1)) (xs (4 * i + 2))) rfl rfl (Nat.le_of_ble_eq_true rfl) ⟨by omega, by omega⟩) rfl (fun v2 M2 e2 => ?_) (fun E2 M2 e2 => ?_)
    · obtain ⟨⟨w, ho2, hw⟩, hM2, hs2⟩ := e2
      have hv2 := Sum.inl.inj ho2
      subst hv2
      obtain ⟨gs2, hm2⟩ := hM2.obj
      have hT2 := (hs2.2 (x + 146) (Or.inr (by omega))).trans hT1
      have hX2 := hX1.keep (Nat.le_of_eq hs2.1.symm) (fun q g1 g2 => hs2.2 q (Or.inl (by omega)))
      have hf9 : (spMason S (xs (4 * i + 1)) (xs (4 * i + 2))).1 = 0 → f1 (nI 0).toNatClampNeg = w.toInt64 := fun g => by rw [show (nI 0).toNatClampNeg = 0 by decide +kernel, hv1 g, hw g]
      have hI9 : LI M2 x (spMason S (xs (4 * i + 1)) (xs (4 * i + 2))).2.2 (i + 1) := ⟨hX2, ⟨_, hM2⟩, sv_spMason hSr (xs (4 * i + 1)) (xs (4 * i + 2)), ⟨f1, hT2⟩, by rw [hs2.1]; omega⟩
      refine pw_istore (q := 467) C dL_law_465 rfl (Nat.le_of_ble_eq_true rfl) rfl ?_
      refine pw_aload_n (q := 468) (j := 2) C dL_law_467 rfl rfl rfl ?_
      refine pw_rd (q := 471) (cr_v (j := iX11_thrown) C dL_law_468 lL_103 mX11_thrown (ro_mk (Nat.le_of_ble_eq_true rfl) (Nat.le_of_ble_eq_true rfl)) hm2 rfl (c_thrown hM2) rfl rfl (Nat.le_of_ble_eq_true rfl) ⟨by omega, by omega⟩) rfl ?_
      refine pw_iload (q := 473) C dL_law_471 rfl rfl ?_
      refine pw_icmp_eq_n (q := 476) 478 C dL_law_473 (by decide) rfl (by omega) (by omega) (fun g473 => ?_) (fun g473 => absurd g473 (not_not_intro rfl))
      refine pw_iload (q := 480) C dL_law_478 rfl rfl ?_
      refine pw_if_ne_n (q := 483) 495 C dL_law_480 (by decide) rfl (by omega) (fun g480 => ?_) (fun g480 => ?_)
      · refine pw_goto (q := 0) 1852 C dL_law_495 (by decide) ?_
        exact K _ _ _ _ hI9
      · refine pw_aload_n (q := 484) (j := 3) C dL_law_483 rfl rfl rfl ?_
        refine pw_iconst_n (q := 485) C 0 dL_law_484 (by decide +kernel) rfl ?_
        refine pw_lald (q := 486) C dL_law_485 hT2 (vp_in_n (by decide) (by decide)) rfl ?_
        rw [hf9 g480]
        refine pw_iload (q := 488) C dL_law_486 rfl rfl ?_
        refine pw_i2l (q := 489) C dL_law_488 rfl ?_
        refine pw_lcmp (q := 490) C dL_law_489 rfl ?_
        refine pw_if_eq (q := 493) 495 C dL_law_490 (by decide) rfl (fun g490 => ?_) (fun g490 => absurd g490 (not_not_intro (cmp_same _)))
        refine pw_goto (q := 0) 1852 C dL_law_495 (by decide) ?_
        exact K _ _ _ _ hI9
    · obtain ⟨⟨w, ho2, _⟩, _, _⟩ := e2
      cases ho2
  · obtain ⟨ho, _⟩ := e
    cases ho
set_option maxHeartbeats 400000 in
set_option maxRecDepth 100000 in
theorem law_7 {Γ : CX} {G : GC} {Z : State → Prop} {T : List ExceptionTableEntry} {nm : String} {b L i k n x : Nat} {xs : Nat → Int32} {M : PH} {S : St} {v5 v6 : Option Value} (C : Cx Γ G (iLaw nm) T 601024 7293034) (hN : NG Γ) (hX : SC Γ G b L xs) (hL : L ≤ 2048) (hi : 4 * i + 4 ≤ L) (hI : LI M x S i) (hkn : k + 2 ≤ 601024 ∧ n + 12 ≤ 7293034) (K : ∀ (M1 : PH) (S1 : St) (v5 v6 : Option Value), LI M1 x S1 (i + 1) → PW Γ G Z 1852 [some (.ref b), some (.ref x), some (.ref (x + 137)), some (.ref (x + 146)), some (.int (nI (4 * i))), v5, v6] [] M1 (k + 2) (n + 12)) : PW Γ G Z 498 [some (.ref b), some (.ref x), some (.ref (x + 137)), some (.ref (x + 146)), some (.int (nI (4 * i))), v5, v6] [] M k n := by
  obtain ⟨hXr, ⟨rf, hMr⟩, hSr, ⟨f, hT⟩, hz⟩ := hI
  have hx0 := hXr.1
  have hk9 : (spStone S (xs (4 * i + 1)) (xs (4 * i + 2))).1 ≤ _ := le_spStone S (xs (4 * i + 1)) (xs (4 * i + 2))
  refine pw_aload_n (q := 499) (j := 1) C dL_law_498 rfl rfl rfl ?_
  refine pw_aload_n (q := 500) (j := 0) C dL_law_499 rfl rfl rfl ?_
  refine pw_iload (q := 502) C dL_law_500 rfl rfl ?_
  refine pw_iconst_n (q := 503) C 1 dL_law_502 (by decide +kernel) rfl ?_
  refine pw_iadd_n (q := 504) C dL_law_503 rfl ?_
  refine pw_sld (q := 505) hX C dL_law_504 (by omega) (by omega) rfl ?_
  refine pw_aload_n (q := 506) (j := 0) C dL_law_505 rfl rfl rfl ?_
  refine pw_iload (q := 508) C dL_law_506 rfl rfl ?_
  refine pw_iconst_n (q := 509) C 2 dL_law_508 (by decide +kernel) rfl ?_
  refine pw_iadd_n (q := 510) C dL_law_509 rfl ?_
  refine pw_sld (q := 511) hX C dL_law_510 (by omega) (by omega) rfl ?_
  refine pw_aload_n (q := 512) (j := 3) C dL_law_511 rfl rfl rfl ?_
  refine pw_any (cr_shN (j := iL_stone) C hN dL_law_512 lL_128 mL_stone (ro_mk (Nat.le_of_ble_eq_true rfl) (Nat.le_of_ble_eq_true rfl)) (l_stone (p_stone hXr hSr (xs (4 * i + 1)) (xs (4 * i + 2))) (le_spStone S (xs (4 * i + 1)) (xs (4 * i + 2))) hx0 (by omega) (Or.inr (by omega)) hT) rfl rfl (Nat.le_of_ble_eq_true rfl) ⟨by omega, by omega⟩) rfl (fun v M1 e => ?_) (fun E1 M1 e => ?_)
  · obtain ⟨ho, hX1, hz1, hs1, f1, hT1, hv1⟩ := e
    have hv := Sum.inl.inj ho
    subst hv
    have hM1 : RepM M1 (x + 137) rf S := hMr.keep (fun q g1 g2 => hs1 q (by omega) (Or.inr (by omega)) (by omega))
    obtain ⟨gs, hm0⟩ := hM1.obj
    refine pw_istore (q := 517) C dL_law_515 rfl (Nat.le_of_ble_eq_true rfl) rfl ?_
    refine pw_aload_n (q := 518) (j := 2) C dL_law_517 rfl rfl rfl ?_
    refine pw_aload_n (q := 519) (j := 0) C dL_law_518 rfl rfl rfl ?_
    refine pw_iload (q := 521) C dL_law_519 rfl rfl ?_
    refine pw_iconst_n (q := 522) C 1 dL_law_521 (by decide +kernel) rfl ?_
    refine pw_iadd_n (q := 523) C dL_law_522 rfl ?_
    refine pw_sld (q := 524) hX C dL_law_523 (by omega) (by omega) rfl ?_
    refine pw_aload_n (q := 525) (j := 0) C dL_law_524 rfl rfl rfl ?_
    refine pw_iload (q := 527) C dL_law_525 rfl rfl ?_
    refine pw_iconst_n (q := 528) C 2 dL_law_527 (by decide +kernel) rfl ?_
    refine pw_iadd_n (q := 529) C dL_law_528 rfl ?_
    refine pw_sld (q := 530) hX C dL_law_529 (by omega) (by omega) rfl ?_
    refine pw_any (cr_v (j := iX11_stone) C dL_law_530 lL_130 mX11_stone (ro_mk (Nat.le_of_ble_eq_true rfl) (Nat.le_of_ble_eq_true rfl)) hm0 rfl (c_stone hM1 hXr.mb hSr (xs (4 * i + 1)) (xs (4 * i + 2))) rfl rfl (Nat.le_of_ble_eq_true rfl) ⟨by omega, by omega⟩) rfl (fun v2 M2 e2 => ?_) (fun E2 M2 e2 => ?_)
    · obtain ⟨⟨w, ho2, hw⟩, hM2, hs2⟩ := e2
      have hv2 := Sum.inl.inj ho2
      subst hv2
      obtain ⟨gs2, hm2⟩ := hM2.obj
      have hT2 := (hs2.2 (x + 146) (Or.inr (by omega))).trans hT1
      have hX2 := hX1.keep (Nat.le_of_eq hs2.1.symm) (fun q g1 g2 => hs2.2 q (Or.inl (by omega)))
      have hf9 : (spStone S (xs (4 * i + 1)) (xs (4 * i + 2))).1 = 0 → f1 (nI 0).toNatClampNeg = w.toInt64 := fun g => by rw [show (nI 0).toNatClampNeg = 0 by decide +kernel, hv1 g, hw g]
      have hI9 : LI M2 x (spStone S (xs (4 * i + 1)) (xs (4 * i + 2))).2.2 (i + 1) := ⟨hX2, ⟨_, hM2⟩, sv_spStone hSr (xs (4 * i + 1)) (xs (4 * i + 2)), ⟨f1, hT2⟩, by rw [hs2.1]; omega⟩
      refine pw_istore (q := 535) C dL_law_533 rfl (Nat.le_of_ble_eq_true rfl) rfl ?_
      refine pw_aload_n (q := 536) (j := 2) C dL_law_535 rfl rfl rfl ?_
      refine pw_rd (q := 539) (cr_v (j := iX11_thrown) C dL_law_536 lL_103 mX11_thrown (ro_mk (Nat.le_of_ble_eq_true rfl) (Nat.le_of_ble_eq_true rfl)) hm2 rfl (c_thrown hM2) rfl rfl (Nat.le_of_ble_eq_true rfl) ⟨by omega, by omega⟩) rfl ?_
      refine pw_iload (q := 541) C dL_law_539 rfl rfl ?_
      refine pw_icmp_eq_n (q := 544) 546 C dL_law_541 (by decide) rfl (by omega) (by omega) (fun g541 => ?_) (fun g541 => absurd g541 (not_not_intro rfl))
      refine pw_iload (q := 548) C dL_law_546 rfl rfl ?_
      refine pw_if_ne_n (q := 551) 563 C dL_law_548 (by decide) rfl (by omega) (fun g548 => ?_) (fun g548 => ?_)
      · refine pw_goto (q := 0) 1852 C dL_law_563 (by decide) ?_
        exact K _ _ _ _ hI9
      · refine pw_aload_n (q := 552) (j := 3) C dL_law_551 rfl rfl rfl ?_
        refine pw_iconst_n (q := 553) C 0 dL_law_552 (by decide +kernel) rfl ?_
        refine pw_lald (q := 554) C dL_law_553 hT2 (vp_in_n (by decide) (by decide)) rfl ?_
        rw [hf9 g548]
        refine pw_iload (q := 556) C dL_law_554 rfl rfl ?_
        refine pw_i2l (q := 557) C dL_law_556 rfl ?_
        refine pw_lcmp (q := 558) C dL_law_557 rfl ?_
        refine pw_if_eq (q := 561) 563 C dL_law_558 (by decide) rfl (fun g558 => ?_) (fun g558 => absurd g558 (not_not_intro (cmp_same _)))
        refine pw_goto (q := 0) 1852 C dL_law_563 (by decide) ?_
        exact K _ _ _ _ hI9
    · obtain ⟨⟨w, ho2, _⟩, _, _⟩ := e2
      cases ho2
  · obtain ⟨ho, _⟩ := e
    cases ho
set_option maxHeartbeats 400000 in
set_option maxRecDepth 100000 in
theorem law_8 {Γ : CX} {G : GC} {Z : State → Prop} {T : List ExceptionTableEntry} {nm : String} {b L i k n x : Nat} {xs : Nat → Int32} {M : PH} {S : St} {v5 v6 : Option Value} (C : Cx Γ G (iLaw nm) T 601024 7293034) (hN : NG Γ) (hX : SC Γ G b L xs) (hL : L ≤ 2048) (hi : 4 * i + 4 ≤ L) (hI : LI M x S i) (hkn : k + 2 ≤ 601024 ∧ n + 12 ≤ 7293034) (K : ∀ (M1 : PH) (S1 : St) (v5 v6 : Option Value), LI M1 x S1 (i + 1) → PW Γ G Z 1852 [some (.ref b), some (.ref x), some (.ref (x + 137)), some (.ref (x + 146)), some (.int (nI (4 * i))), v5, v6] [] M1 (k + 2) (n + 12)) : PW Γ G Z 566 [some (.ref b), some (.ref x), some (.ref (x + 137)), some (.ref (x + 146)), some (.int (nI (4 * i))), v5, v6] [] M k n := by
  obtain ⟨hXr, ⟨rf, hMr⟩, hSr, ⟨f, hT⟩, hz⟩ := hI
  have hx0 := hXr.1
  have hk9 : (spWhy S (xs (4 * i + 1))).1 ≤ _ := le_spWhy S (xs (4 * i + 1))
  refine pw_aload_n (q := 567) (j := 1) C dL_law_566 rfl rfl rfl ?_
  refine pw_aload_n (q := 568) (j := 0) C dL_law_567 rfl rfl rfl ?_
  refine pw_iload (q := 570) C dL_law_568 rfl rfl ?_
  refine pw_iconst_n (q := 571) C 1 dL_law_570 (by decide +kernel) rfl ?_
  refine pw_iadd_n (q := 572) C dL_law_571 rfl ?_
  refine pw_sld (q := 573) hX C dL_law_572 (by omega) (by omega) rfl ?_
  refine pw_aload_n (q := 574) (j := 3) C dL_law_573 rfl rfl rfl ?_
  refine pw_any (cr_shN (j := iL_whyNotSet) C hN dL_law_574 lL_131 mL_whyNotSet (ro_mk (Nat.le_of_ble_eq_true rfl) (Nat.le_of_ble_eq_true rfl)) (l_whyNotSet (p_why hXr hSr (xs (4 * i + 1))) (le_spWhy S (xs (4 * i + 1))) hx0 (by omega) (Or.inr (by omega)) hT) rfl rfl (Nat.le_of_ble_eq_true rfl) ⟨by omega, by omega⟩) rfl (fun v M1 e => ?_) (fun E1 M1 e => ?_)
  · obtain ⟨ho, hX1, hz1, hs1, f1, hT1, hv1⟩ := e
    have hv := Sum.inl.inj ho
    subst hv
    have hM1 : RepM M1 (x + 137) rf S := hMr.keep (fun q g1 g2 => hs1 q (by omega) (Or.inr (by omega)) (by omega))
    obtain ⟨gs, hm0⟩ := hM1.obj
    refine pw_istore (q := 579) C dL_law_577 rfl (Nat.le_of_ble_eq_true rfl) rfl ?_
    refine pw_aload_n (q := 580) (j := 2) C dL_law_579 rfl rfl rfl ?_
    refine pw_aload_n (q := 581) (j := 0) C dL_law_580 rfl rfl rfl ?_
    refine pw_iload (q := 583) C dL_law_581 rfl rfl ?_
    refine pw_iconst_n (q := 584) C 1 dL_law_583 (by decide +kernel) rfl ?_
    refine pw_iadd_n (q := 585) C dL_law_584 rfl ?_
    refine pw_sld (q := 586) hX C dL_law_585 (by omega) (by omega) rfl ?_
    refine pw_any (cr_v (j := iX11_whyNotSet) C dL_law_586 lL_133 mX11_whyNotSet (ro_mk (Nat.le_of_ble_eq_true rfl) (Nat.le_of_ble_eq_true rfl)) hm0 rfl (c_whyNotSet hM1 hXr.mb hSr (xs (4 * i + 1))) rfl rfl (Nat.le_of_ble_eq_true rfl) ⟨by omega, by omega⟩) rfl (fun v2 M2 e2 => ?_) (fun E2 M2 e2 => ?_)
    · obtain ⟨⟨w, ho2, hw⟩, hM2, hs2⟩ := e2
      have hv2 := Sum.inl.inj ho2
      subst hv2
      obtain ⟨gs2, hm2⟩ := hM2.obj
      have hT2 := (hs2.2 (x + 146) (Or.inr (by omega))).trans hT1
      have hX2 := hX1.keep (Nat.le_of_eq hs2.1.symm) (fun q g1 g2 => hs2.2 q (Or.inl (by omega)))
      have hf9 : (spWhy S (xs (4 * i + 1))).1 = 0 → f1 (nI 0).toNatClampNeg = w.toInt64 := fun g => by rw [show (nI 0).toNatClampNeg = 0 by decide +kernel, hv1 g, hw g]
      have hI9 : LI M2 x (spWhy S (xs (4 * i + 1))).2.2 (i + 1) := ⟨hX2, ⟨_, hM2⟩, sv_spWhy hSr (xs (4 * i + 1)), ⟨f1, hT2⟩, by rw [hs2.1]; omega⟩
      refine pw_istore (q := 591) C dL_law_589 rfl (Nat.le_of_ble_eq_true rfl) rfl ?_
      refine pw_aload_n (q := 592) (j := 2) C dL_law_591 rfl rfl rfl ?_
      refine pw_rd (q := 595) (cr_v (j := iX11_thrown) C dL_law_592 lL_103 mX11_thrown (ro_mk (Nat.le_of_ble_eq_true rfl) (Nat.le_of_ble_eq_true rfl)) hm2 rfl (c_thrown hM2) rfl rfl (Nat.le_of_ble_eq_true rfl) ⟨by omega, by omega⟩) rfl ?_
      refine pw_iload (q := 597) C dL_law_595 rfl rfl ?_
      refine pw_icmp_eq_n (q := 600) 602 C dL_law_597 (by decide) rfl (by omega) (by omega) (fun g597 => ?_) (fun g597 => absurd g597 (not_not_intro rfl))
      refine pw_iload (q := 604) C dL_law_602 rfl rfl ?_
      refine pw_if_ne_n (q := 607) 619 C dL_law_604 (by decide) rfl (by omega) (fun g604 => ?_) (fun g604 => ?_)
      · refine pw_goto (q := 0) 1852 C dL_law_619 (by decide) ?_
        exact K _ _ _ _ hI9
      · refine pw_aload_n (q := 608) (j := 3) C dL_law_607 rfl rfl rfl ?_
        refine pw_iconst_n (q := 609) C 0 dL_law_608 (by decide +kernel) rfl ?_
        refine pw_lald (q := 610) C dL_law_609 hT2 (vp_in_n (by decide) (by decide)) rfl ?_
        rw [hf9 g604]
        refine pw_iload (q := 612) C dL_law_610 rfl rfl ?_
        refine pw_i2l (q := 613) C dL_law_612 rfl ?_
        refine pw_lcmp (q := 614) C dL_law_613 rfl ?_
        refine pw_if_eq (q := 617) 619 C dL_law_614 (by decide) rfl (fun g614 => ?_) (fun g614 => absurd g614 (not_not_intro (cmp_same _)))
        refine pw_goto (q := 0) 1852 C dL_law_619 (by decide) ?_
        exact K _ _ _ _ hI9
    · obtain ⟨⟨w, ho2, _⟩, _, _⟩ := e2
      cases ho2
  · obtain ⟨ho, _⟩ := e
    cases ho
set_option maxHeartbeats 400000 in
set_option maxRecDepth 100000 in
theorem law_9 {Γ : CX} {G : GC} {Z : State → Prop} {T : List ExceptionTableEntry} {nm : String} {b L i k n x : Nat} {xs : Nat → Int32} {M : PH} {S : St} {v5 v6 : Option Value} (C : Cx Γ G (iLaw nm) T 601024 7293034) (hN : NG Γ) (hX : SC Γ G b L xs) (hL : L ≤ 2048) (hi : 4 * i + 4 ≤ L) (hI : LI M x S i) (hkn : k + 2 ≤ 601024 ∧ n + 12 ≤ 7293034) (K : ∀ (M1 : PH) (S1 : St) (v5 v6 : Option Value), LI M1 x S1 (i + 1) → PW Γ G Z 1852 [some (.ref b), some (.ref x), some (.ref (x + 137)), some (.ref (x + 146)), some (.int (nI (4 * i))), v5, v6] [] M1 (k + 2) (n + 12)) : PW Γ G Z 622 [some (.ref b), some (.ref x), some (.ref (x + 137)), some (.ref (x + 146)), some (.int (nI (4 * i))), v5, v6] [] M k n := by
  obtain ⟨hXr, ⟨rf, hMr⟩, hSr, ⟨f, hT⟩, hz⟩ := hI
  have hx0 := hXr.1
  have hk9 : (spAddCourse S (xs (4 * i + 1)) (xs (4 * i + 2)) (xs (4 * i + 3))).1 ≤ _ := le_spAddCourse S (xs (4 * i + 1)) (xs (4 * i + 2)) (xs (4 * i + 3))
  refine pw_aload_n (q := 623) (j := 1) C dL_law_622 rfl rfl rfl ?_
  refine pw_aload_n (q := 624) (j := 0) C dL_law_623 rfl rfl rfl ?_
  refine pw_iload (q := 626) C dL_law_624 rfl rfl ?_
  refine pw_iconst_n (q := 627) C 1 dL_law_626 (by decide +kernel) rfl ?_
  refine pw_iadd_n (q := 628) C dL_law_627 rfl ?_
  refine pw_sld (q := 629) hX C dL_law_628 (by omega) (by omega) rfl ?_
  refine pw_aload_n (q := 630) (j := 0) C dL_law_629 rfl rfl rfl ?_
  refine pw_iload (q := 632) C dL_law_630 rfl rfl ?_
  refine pw_iconst_n (q := 633) C 2 dL_law_632 (by decide +kernel) rfl ?_
  refine pw_iadd_n (q := 634) C dL_law_633 rfl ?_
  refine pw_sld (q := 635) hX C dL_law_634 (by omega) (by omega) rfl ?_
  refine pw_aload_n (q := 636) (j := 0) C dL_law_635 rfl rfl rfl ?_
  refine pw_iload (q := 638) C dL_law_636 rfl rfl ?_
  refine pw_iconst_n (q := 639) C 3 dL_law_638 (by decide +kernel) rfl ?_
  refine pw_iadd_n (q := 640) C dL_law_639 rfl ?_
  refine pw_sld (q := 641) hX C dL_law_640 (by omega) (by omega) rfl ?_
  refine pw_aload_n (q := 642) (j := 3) C dL_law_641 rfl rfl rfl ?_
  refine pw_any (cr_shN (j := iL_addCourse) C hN dL_law_642 lL_134 mL_addCourse (ro_mk (Nat.le_of_ble_eq_true rfl) (Nat.le_of_ble_eq_true rfl)) (l_addCourse (p_addCourse hXr hSr (xs (4 * i + 1)) (xs (4 * i + 2)) (xs (4 * i + 3))) (le_spAddCourse S (xs (4 * i + 1)) (xs (4 * i + 2)) (xs (4 * i + 3))) hx0 (by omega) (Or.inr (by omega)) hT) rfl rfl (Nat.le_of_ble_eq_true rfl) ⟨by omega, by omega⟩) rfl (fun v M1 e => ?_) (fun E1 M1 e => ?_)
  · obtain ⟨ho, hX1, hz1, hs1, f1, hT1, hv1⟩ := e
    have hv := Sum.inl.inj ho
    subst hv
    have hM1 : RepM M1 (x + 137) rf S := hMr.keep (fun q g1 g2 => hs1 q (by omega) (Or.inr (by omega)) (by omega))
    obtain ⟨gs, hm0⟩ := hM1.obj
    refine pw_istore (q := 647) C dL_law_645 rfl (Nat.le_of_ble_eq_true rfl) rfl ?_
    refine pw_aload_n (q := 648) (j := 2) C dL_law_647 rfl rfl rfl ?_
    refine pw_aload_n (q := 649) (j := 0) C dL_law_648 rfl rfl rfl ?_
    refine pw_iload (q := 651) C dL_law_649 rfl rfl ?_
    refine pw_iconst_n (q := 652) C 1 dL_law_651 (by decide +kernel) rfl ?_
    refine pw_iadd_n (q := 653) C dL_law_652 rfl ?_
    refine pw_sld (q := 654) hX C dL_law_653 (by omega) (by omega) rfl ?_
    refine pw_aload_n (q := 655) (j := 0) C dL_law_654 rfl rfl rfl ?_
    refine pw_iload (q := 657) C dL_law_655 rfl rfl ?_
    refine pw_iconst_n (q := 658) C 2 dL_law_657 (by decide +kernel) rfl ?_
    refine pw_iadd_n (q := 659) C dL_law_658 rfl ?_
    refine pw_sld (q := 660) hX C dL_law_659 (by omega) (by omega) rfl ?_
    refine pw_aload_n (q := 661) (j := 0) C dL_law_660 rfl rfl rfl ?_
    refine pw_iload (q := 663) C dL_law_661 rfl rfl ?_
    refine pw_iconst_n (q := 664) C 3 dL_law_663 (by decide +kernel) rfl ?_
    refine pw_iadd_n (q := 665) C dL_law_664 rfl ?_
    refine pw_sld (q := 666) hX C dL_law_665 (by omega) (by omega) rfl ?_
    refine pw_any (cr_v (j := iX11_addCourse) C dL_law_666 lL_137 mX11_addCourse (ro_mk (Nat.le_of_ble_eq_true rfl) (Nat.le_of_ble_eq_true rfl)) hm0 rfl (c_addCourse hM1 hXr.mb hSr (xs (4 * i + 1)) (xs (4 * i + 2)) (xs (4 * i + 3))) rfl rfl (Nat.le_of_ble_eq_true rfl) ⟨by omega, by omega⟩) rfl (fun v2 M2 e2 => ?_) (fun E2 M2 e2 => ?_)
    · obtain ⟨⟨w, ho2, hw⟩, hM2, hs2⟩ := e2
      have hv2 := Sum.inl.inj ho2
      subst hv2
      obtain ⟨gs2, hm2⟩ := hM2.obj
      have hT2 := (hs2.2 (x + 146) (Or.inr (by omega))).trans hT1
      have hX2 := hX1.keep (Nat.le_of_eq hs2.1.symm) (fun q g1 g2 => hs2.2 q (Or.inl (by omega)))
      have hf9 : (spAddCourse S (xs (4 * i + 1)) (xs (4 * i + 2)) (xs (4 * i + 3))).1 = 0 → f1 (nI 0).toNatClampNeg = w.toInt64 := fun g => by rw [show (nI 0).toNatClampNeg = 0 by decide +kernel, hv1 g, hw g]
      have hI9 : LI M2 x (spAddCourse S (xs (4 * i + 1)) (xs (4 * i + 2)) (xs (4 * i + 3))).2.2 (i + 1) := ⟨hX2, ⟨_, hM2⟩, sv_addCourse hSr (xs (4 * i + 1)) (xs (4 * i + 2)) (xs (4 * i + 3)), ⟨f1, hT2⟩, by rw [hs2.1]; omega⟩
      refine pw_istore (q := 671) C dL_law_669 rfl (Nat.le_of_ble_eq_true rfl) rfl ?_
      refine pw_aload_n (q := 672) (j := 2) C dL_law_671 rfl rfl rfl ?_
      refine pw_rd (q := 675) (cr_v (j := iX11_thrown) C dL_law_672 lL_103 mX11_thrown (ro_mk (Nat.le_of_ble_eq_true rfl) (Nat.le_of_ble_eq_true rfl)) hm2 rfl (c_thrown hM2) rfl rfl (Nat.le_of_ble_eq_true rfl) ⟨by omega, by omega⟩) rfl ?_
      refine pw_iload (q := 677) C dL_law_675 rfl rfl ?_
      refine pw_icmp_eq_n (q := 680) 682 C dL_law_677 (by decide) rfl (by omega) (by omega) (fun g677 => ?_) (fun g677 => absurd g677 (not_not_intro rfl))
      refine pw_iload (q := 684) C dL_law_682 rfl rfl ?_
      refine pw_if_ne_n (q := 687) 699 C dL_law_684 (by decide) rfl (by omega) (fun g684 => ?_) (fun g684 => ?_)
      · refine pw_goto (q := 0) 1852 C dL_law_699 (by decide) ?_
        exact K _ _ _ _ hI9
      · refine pw_aload_n (q := 688) (j := 3) C dL_law_687 rfl rfl rfl ?_
        refine pw_iconst_n (q := 689) C 0 dL_law_688 (by decide +kernel) rfl ?_
        refine pw_lald (q := 690) C dL_law_689 hT2 (vp_in_n (by decide) (by decide)) rfl ?_
        rw [hf9 g684]
        refine pw_iload (q := 692) C dL_law_690 rfl rfl ?_
        refine pw_i2l (q := 693) C dL_law_692 rfl ?_
        refine pw_lcmp (q := 694) C dL_law_693 rfl ?_
        refine pw_if_eq (q := 697) 699 C dL_law_694 (by decide) rfl (fun g694 => ?_) (fun g694 => absurd g694 (not_not_intro (cmp_same _)))
        refine pw_goto (q := 0) 1852 C dL_law_699 (by decide) ?_
        exact K _ _ _ _ hI9
    · obtain ⟨⟨w, ho2, _⟩, _, _⟩ := e2
      cases ho2
  · obtain ⟨ho, _⟩ := e
    cases ho
set_option maxHeartbeats 400000 in
set_option maxRecDepth 100000 in
theorem law_10 {Γ : CX} {G : GC} {Z : State → Prop} {T : List ExceptionTableEntry} {nm : String} {b L i k n x : Nat} {xs : Nat → Int32} {M : PH} {S : St} {v5 v6 : Option Value} (C : Cx Γ G (iLaw nm) T 601024 7293034) (hN : NG Γ) (hX : SC Γ G b L xs) (hL : L ≤ 2048) (hi : 4 * i + 4 ≤ L) (hI : LI M x S i) (hkn : k + 2 ≤ 601024 ∧ n + 12 ≤ 7293034) (K : ∀ (M1 : PH) (S1 : St) (v5 v6 : Option Value), LI M1 x S1 (i + 1) → PW Γ G Z 1852 [some (.ref b), some (.ref x), some (.ref (x + 137)), some (.ref (x + 146)), some (.int (nI (4 * i))), v5, v6] [] M1 (k + 2) (n + 12)) : PW Γ G Z 702 [some (.ref b), some (.ref x), some (.ref (x + 137)), some (.ref (x + 146)), some (.int (nI (4 * i))), v5, v6] [] M k n := by
  obtain ⟨hXr, ⟨rf, hMr⟩, hSr, ⟨f, hT⟩, hz⟩ := hI
  have hx0 := hXr.1
  have hk9 : (spAddMason S (xs (4 * i + 1)) (xs (4 * i + 2))).1 ≤ _ := le_spAddMason S (xs (4 * i + 1)) (xs (4 * i + 2))
  refine pw_aload_n (q := 703) (j := 1) C dL_law_702 rfl rfl rfl ?_
  refine pw_aload_n (q := 704) (j := 0) C dL_law_703 rfl rfl rfl ?_
  refine pw_iload (q := 706) C dL_law_704 rfl rfl ?_
  refine pw_iconst_n (q := 707) C 1 dL_law_706 (by decide +kernel) rfl ?_
  refine pw_iadd_n (q := 708) C dL_law_707 rfl ?_
  refine pw_sld (q := 709) hX C dL_law_708 (by omega) (by omega) rfl ?_
  refine pw_aload_n (q := 710) (j := 0) C dL_law_709 rfl rfl rfl ?_
  refine pw_iload (q := 712) C dL_law_710 rfl rfl ?_
  refine pw_iconst_n (q := 713) C 2 dL_law_712 (by decide +kernel) rfl ?_
  refine pw_iadd_n (q := 714) C dL_law_713 rfl ?_
  refine pw_sld (q := 715) hX C dL_law_714 (by omega) (by omega) rfl ?_
  refine pw_aload_n (q := 716) (j := 3) C dL_law_715 rfl rfl rfl ?_
  refine pw_any (cr_shN (j := iL_addMason) C hN dL_law_716 lL_138 mL_addMason (ro_mk (Nat.le_of_ble_eq_true rfl) (Nat.le_of_ble_eq_true rfl)) (l_addMason (p_addMason hXr hSr (xs (4 * i + 1)) (xs (4 * i + 2))) (le_spAddMason S (xs (4 * i + 1)) (xs (4 * i + 2))) hx0 (by omega) (Or.inr (by omega)) hT) rfl rfl (Nat.le_of_ble_eq_true rfl) ⟨by omega, by omega⟩) rfl (fun v M1 e => ?_) (fun E1 M1 e => ?_)
  · obtain ⟨ho, hX1, hz1, hs1, f1, hT1, hv1⟩ := e
    have hv := Sum.inl.inj ho
    subst hv
    have hM1 : RepM M1 (x + 137) rf S := hMr.keep (fun q g1 g2 => hs1 q (by omega) (Or.inr (by omega)) (by omega))
    obtain ⟨gs, hm0⟩ := hM1.obj
    refine pw_istore (q := 721) C dL_law_719 rfl (Nat.le_of_ble_eq_true rfl) rfl ?_
    refine pw_aload_n (q := 722) (j := 2) C dL_law_721 rfl rfl rfl ?_
    refine pw_aload_n (q := 723) (j := 0) C dL_law_722 rfl rfl rfl ?_
    refine pw_iload (q := 725) C dL_law_723 rfl rfl ?_
    refine pw_iconst_n (q := 726) C 1 dL_law_725 (by decide +kernel) rfl ?_
    refine pw_iadd_n (q := 727) C dL_law_726 rfl ?_
    refine pw_sld (q := 728) hX C dL_law_727 (by omega) (by omega) rfl ?_
    refine pw_aload_n (q := 729) (j := 0) C dL_law_728 rfl rfl rfl ?_
    refine pw_iload (q := 731) C dL_law_729 rfl rfl ?_
    refine pw_iconst_n (q := 732) C 2 dL_law_731 (by decide +kernel) rfl ?_
    refine pw_iadd_n (q := 733) C dL_law_732 rfl ?_
    refine pw_sld (q := 734) hX C dL_law_733 (by omega) (by omega) rfl ?_
    refine pw_any (cr_v (j := iX11_addMason) C dL_law_734 lL_140 mX11_addMason (ro_mk (Nat.le_of_ble_eq_true rfl) (Nat.le_of_ble_eq_true rfl)) hm0 rfl (c_addMason hM1 hXr.mb hSr (xs (4 * i + 1)) (xs (4 * i + 2))) rfl rfl (Nat.le_of_ble_eq_true rfl) ⟨by omega, by omega⟩) rfl (fun v2 M2 e2 => ?_) (fun E2 M2 e2 => ?_)
    · obtain ⟨⟨w, ho2, hw⟩, hM2, hs2⟩ := e2
      have hv2 := Sum.inl.inj ho2
      subst hv2
      obtain ⟨gs2, hm2⟩ := hM2.obj
      have hT2 := (hs2.2 (x + 146) (Or.inr (by omega))).trans hT1
      have hX2 := hX1.keep (Nat.le_of_eq hs2.1.symm) (fun q g1 g2 => hs2.2 q (Or.inl (by omega)))
      have hf9 : (spAddMason S (xs (4 * i + 1)) (xs (4 * i + 2))).1 = 0 → f1 (nI 0).toNatClampNeg = w.toInt64 := fun g => by rw [show (nI 0).toNatClampNeg = 0 by decide +kernel, hv1 g, hw g]
      have hI9 : LI M2 x (spAddMason S (xs (4 * i + 1)) (xs (4 * i + 2))).2.2 (i + 1) := ⟨hX2, ⟨_, hM2⟩, sv_addMason hSr (xs (4 * i + 1)) (xs (4 * i + 2)), ⟨f1, hT2⟩, by rw [hs2.1]; omega⟩
      refine pw_istore (q := 739) C dL_law_737 rfl (Nat.le_of_ble_eq_true rfl) rfl ?_
      refine pw_aload_n (q := 740) (j := 2) C dL_law_739 rfl rfl rfl ?_
      refine pw_rd (q := 743) (cr_v (j := iX11_thrown) C dL_law_740 lL_103 mX11_thrown (ro_mk (Nat.le_of_ble_eq_true rfl) (Nat.le_of_ble_eq_true rfl)) hm2 rfl (c_thrown hM2) rfl rfl (Nat.le_of_ble_eq_true rfl) ⟨by omega, by omega⟩) rfl ?_
      refine pw_iload (q := 745) C dL_law_743 rfl rfl ?_
      refine pw_icmp_eq_n (q := 748) 750 C dL_law_745 (by decide) rfl (by omega) (by omega) (fun g745 => ?_) (fun g745 => absurd g745 (not_not_intro rfl))
      refine pw_iload (q := 752) C dL_law_750 rfl rfl ?_
      refine pw_if_ne_n (q := 755) 767 C dL_law_752 (by decide) rfl (by omega) (fun g752 => ?_) (fun g752 => ?_)
      · refine pw_goto (q := 0) 1852 C dL_law_767 (by decide) ?_
        exact K _ _ _ _ hI9
      · refine pw_aload_n (q := 756) (j := 3) C dL_law_755 rfl rfl rfl ?_
        refine pw_iconst_n (q := 757) C 0 dL_law_756 (by decide +kernel) rfl ?_
        refine pw_lald (q := 758) C dL_law_757 hT2 (vp_in_n (by decide) (by decide)) rfl ?_
        rw [hf9 g752]
        refine pw_iload (q := 760) C dL_law_758 rfl rfl ?_
        refine pw_i2l (q := 761) C dL_law_760 rfl ?_
        refine pw_lcmp (q := 762) C dL_law_761 rfl ?_
        refine pw_if_eq (q := 765) 767 C dL_law_762 (by decide) rfl (fun g762 => ?_) (fun g762 => absurd g762 (not_not_intro (cmp_same _)))
        refine pw_goto (q := 0) 1852 C dL_law_767 (by decide) ?_
        exact K _ _ _ _ hI9
    · obtain ⟨⟨w, ho2, _⟩, _, _⟩ := e2
      cases ho2
  · obtain ⟨ho, _⟩ := e
    cases ho
set_option maxHeartbeats 400000 in
set_option maxRecDepth 100000 in
theorem law_11 {Γ : CX} {G : GC} {Z : State → Prop} {T : List ExceptionTableEntry} {nm : String} {b L i k n x : Nat} {xs : Nat → Int32} {M : PH} {S : St} {v5 v6 : Option Value} (C : Cx Γ G (iLaw nm) T 601024 7293034) (hN : NG Γ) (hX : SC Γ G b L xs) (hL : L ≤ 2048) (hi : 4 * i + 4 ≤ L) (hI : LI M x S i) (hkn : k + 2 ≤ 601024 ∧ n + 12 ≤ 7293034) (K : ∀ (M1 : PH) (S1 : St) (v5 v6 : Option Value), LI M1 x S1 (i + 1) → PW Γ G Z 1852 [some (.ref b), some (.ref x), some (.ref (x + 137)), some (.ref (x + 146)), some (.int (nI (4 * i))), v5, v6] [] M1 (k + 2) (n + 12)) : PW Γ G Z 770 [some (.ref b), some (.ref x), some (.ref (x + 137)), some (.ref (x + 146)), some (.int (nI (4 * i))), v5, v6] [] M k n := by
  obtain ⟨hXr, ⟨rf, hMr⟩, hSr, ⟨f, hT⟩, hz⟩ := hI
  have hx0 := hXr.1
  have hk9 : (spSetRate S (xs (4 * i + 1)) (xs (4 * i + 2))).1 ≤ _ := le_spSetRate S (xs (4 * i + 1)) (xs (4 * i + 2))
  refine pw_aload_n (q := 771) (j := 1) C dL_law_770 rfl rfl rfl ?_
  refine pw_aload_n (q := 772) (j := 0) C dL_law_771 rfl rfl rfl ?_
  refine pw_iload (q := 774) C dL_law_772 rfl rfl ?_
  refine pw_iconst_n (q := 775) C 1 dL_law_774 (by decide +kernel) rfl ?_
  refine pw_iadd_n (q := 776) C dL_law_775 rfl ?_
  refine pw_sld (q := 777) hX C dL_law_776 (by omega) (by omega) rfl ?_
  refine pw_aload_n (q := 778) (j := 0) C dL_law_777 rfl rfl rfl ?_
  refine pw_iload (q := 780) C dL_law_778 rfl rfl ?_
  refine pw_iconst_n (q := 781) C 2 dL_law_780 (by decide +kernel) rfl ?_
  refine pw_iadd_n (q := 782) C dL_law_781 rfl ?_
  refine pw_sld (q := 783) hX C dL_law_782 (by omega) (by omega) rfl ?_
  refine pw_aload_n (q := 784) (j := 3) C dL_law_783 rfl rfl rfl ?_
  refine pw_any (cr_shN (j := iL_setRate) C hN dL_law_784 lL_141 mL_setRate (ro_mk (Nat.le_of_ble_eq_true rfl) (Nat.le_of_ble_eq_true rfl)) (l_setRate (p_setRate2 hXr hSr (xs (4 * i + 1)) (xs (4 * i + 2))) (le_spSetRate S (xs (4 * i + 1)) (xs (4 * i + 2))) hx0 (by omega) (Or.inr (by omega)) hT) rfl rfl (Nat.le_of_ble_eq_true rfl) ⟨by omega, by omega⟩) rfl (fun v M1 e => ?_) (fun E1 M1 e => ?_)
  · obtain ⟨ho, hX1, hz1, hs1, f1, hT1, hv1⟩ := e
    have hv := Sum.inl.inj ho
    subst hv
    have hM1 : RepM M1 (x + 137) rf S := hMr.keep (fun q g1 g2 => hs1 q (by omega) (Or.inr (by omega)) (by omega))
    obtain ⟨gs, hm0⟩ := hM1.obj
    refine pw_istore (q := 789) C dL_law_787 rfl (Nat.le_of_ble_eq_true rfl) rfl ?_
    refine pw_aload_n (q := 790) (j := 2) C dL_law_789 rfl rfl rfl ?_
    refine pw_aload_n (q := 791) (j := 0) C dL_law_790 rfl rfl rfl ?_
    refine pw_iload (q := 793) C dL_law_791 rfl rfl ?_
    refine pw_iconst_n (q := 794) C 1 dL_law_793 (by decide +kernel) rfl ?_
    refine pw_iadd_n (q := 795) C dL_law_794 rfl ?_
    refine pw_sld (q := 796) hX C dL_law_795 (by omega) (by omega) rfl ?_
    refine pw_aload_n (q := 797) (j := 0) C dL_law_796 rfl rfl rfl ?_
    refine pw_iload (q := 799) C dL_law_797 rfl rfl ?_
    refine pw_iconst_n (q := 800) C 2 dL_law_799 (by decide +kernel) rfl ?_
    refine pw_iadd_n (q := 801) C dL_law_800 rfl ?_
    refine pw_sld (q := 802) hX C dL_law_801 (by omega) (by omega) rfl ?_
    refine pw_any (cr_v (j := iX11_setRate) C dL_law_802 lL_143 mX11_setRate (ro_mk (Nat.le_of_ble_eq_true rfl) (Nat.le_of_ble_eq_true rfl)) hm0 rfl (c_setRate hM1 hXr.mb hSr (xs (4 * i + 1)) (xs (4 * i + 2))) rfl rfl (Nat.le_of_ble_eq_true rfl) ⟨by omega, by omega⟩) rfl (fun v2 M2 e2 => ?_) (fun E2 M2 e2 => ?_)
    · obtain ⟨⟨w, ho2, hw⟩, hM2, hs2⟩ := e2
      have hv2 := Sum.inl.inj ho2
      subst hv2
      obtain ⟨gs2, hm2⟩ := hM2.obj
      have hT2 := (hs2.2 (x + 146) (Or.inr (by omega))).trans hT1
      have hX2 := hX1.keep (Nat.le_of_eq hs2.1.symm) (fun q g1 g2 => hs2.2 q (Or.inl (by omega)))
      have hf9 : (spSetRate S (xs (4 * i + 1)) (xs (4 * i + 2))).1 = 0 → f1 (nI 0).toNatClampNeg = w.toInt64 := fun g => by rw [show (nI 0).toNatClampNeg = 0 by decide +kernel, hv1 g, hw g]
      have hI9 : LI M2 x (spSetRate S (xs (4 * i + 1)) (xs (4 * i + 2))).2.2 (i + 1) := ⟨hX2, ⟨_, hM2⟩, sv_setRate hSr (xs (4 * i + 1)) (xs (4 * i + 2)), ⟨f1, hT2⟩, by rw [hs2.1]; omega⟩
      refine pw_istore (q := 807) C dL_law_805 rfl (Nat.le_of_ble_eq_true rfl) rfl ?_
      refine pw_aload_n (q := 808) (j := 2) C dL_law_807 rfl rfl rfl ?_
      refine pw_rd (q := 811) (cr_v (j := iX11_thrown) C dL_law_808 lL_103 mX11_thrown (ro_mk (Nat.le_of_ble_eq_true rfl) (Nat.le_of_ble_eq_true rfl)) hm2 rfl (c_thrown hM2) rfl rfl (Nat.le_of_ble_eq_true rfl) ⟨by omega, by omega⟩) rfl ?_
      refine pw_iload (q := 813) C dL_law_811 rfl rfl ?_
      refine pw_icmp_eq_n (q := 816) 818 C dL_law_813 (by decide) rfl (by omega) (by omega) (fun g813 => ?_) (fun g813 => absurd g813 (not_not_intro rfl))
      refine pw_iload (q := 820) C dL_law_818 rfl rfl ?_
      refine pw_if_ne_n (q := 823) 835 C dL_law_820 (by decide) rfl (by omega) (fun g820 => ?_) (fun g820 => ?_)
      · refine pw_goto (q := 0) 1852 C dL_law_835 (by decide) ?_
        exact K _ _ _ _ hI9
      · refine pw_aload_n (q := 824) (j := 3) C dL_law_823 rfl rfl rfl ?_
        refine pw_iconst_n (q := 825) C 0 dL_law_824 (by decide +kernel) rfl ?_
        refine pw_lald (q := 826) C dL_law_825 hT2 (vp_in_n (by decide) (by decide)) rfl ?_
        rw [hf9 g820]
        refine pw_iload (q := 828) C dL_law_826 rfl rfl ?_
        refine pw_i2l (q := 829) C dL_law_828 rfl ?_
        refine pw_lcmp (q := 830) C dL_law_829 rfl ?_
        refine pw_if_eq (q := 833) 835 C dL_law_830 (by decide) rfl (fun g830 => ?_) (fun g830 => absurd g830 (not_not_intro (cmp_same _)))
        refine pw_goto (q := 0) 1852 C dL_law_835 (by decide) ?_
        exact K _ _ _ _ hI9
    · obtain ⟨⟨w, ho2, _⟩, _, _⟩ := e2
      cases ho2
  · obtain ⟨ho, _⟩ := e
    cases ho
set_option maxHeartbeats 400000 in
set_option maxRecDepth 100000 in
theorem law_12 {Γ : CX} {G : GC} {Z : State → Prop} {T : List ExceptionTableEntry} {nm : String} {b L i k n x : Nat} {xs : Nat → Int32} {M : PH} {S : St} {v5 v6 : Option Value} (C : Cx Γ G (iLaw nm) T 601024 7293034) (hN : NG Γ) (hX : SC Γ G b L xs) (hL : L ≤ 2048) (hi : 4 * i + 4 ≤ L) (hI : LI M x S i) (hkn : k + 2 ≤ 601024 ∧ n + 12 ≤ 7293034) (K : ∀ (M1 : PH) (S1 : St) (v5 v6 : Option Value), LI M1 x S1 (i + 1) → PW Γ G Z 1852 [some (.ref b), some (.ref x), some (.ref (x + 137)), some (.ref (x + 146)), some (.int (nI (4 * i))), v5, v6] [] M1 (k + 2) (n + 12)) : PW Γ G Z 838 [some (.ref b), some (.ref x), some (.ref (x + 137)), some (.ref (x + 146)), some (.int (nI (4 * i))), v5, v6] [] M k n := by
  obtain ⟨hXr, ⟨rf, hMr⟩, hSr, ⟨f, hT⟩, hz⟩ := hI
  have hx0 := hXr.1
  have hk9 : (spSetBound S (xs (4 * i + 1))).1 ≤ _ := le_spSetBound S (xs (4 * i + 1))
  refine pw_aload_n (q := 839) (j := 1) C dL_law_838 rfl rfl rfl ?_
  refine pw_aload_n (q := 840) (j := 0) C dL_law_839 rfl rfl rfl ?_
  refine pw_iload (q := 842) C dL_law_840 rfl rfl ?_
  refine pw_iconst_n (q := 843) C 1 dL_law_842 (by decide +kernel) rfl ?_
  refine pw_iadd_n (q := 844) C dL_law_843 rfl ?_
  refine pw_sld (q := 845) hX C dL_law_844 (by omega) (by omega) rfl ?_
  refine pw_aload_n (q := 846) (j := 3) C dL_law_845 rfl rfl rfl ?_
  refine pw_any (cr_shN (j := iL_setBound) C hN dL_law_846 lL_144 mL_setBound (ro_mk (Nat.le_of_ble_eq_true rfl) (Nat.le_of_ble_eq_true rfl)) (l_setBound (p_setBound2 hXr hSr (xs (4 * i + 1))) (le_spSetBound S (xs (4 * i + 1))) hx0 (by omega) (Or.inr (by omega)) hT) rfl rfl (Nat.le_of_ble_eq_true rfl) ⟨by omega, by omega⟩) rfl (fun v M1 e => ?_) (fun E1 M1 e => ?_)
  · obtain ⟨ho, hX1, hz1, hs1, f1, hT1, hv1⟩ := e
    have hv := Sum.inl.inj ho
    subst hv
    have hM1 : RepM M1 (x + 137) rf S := hMr.keep (fun q g1 g2 => hs1 q (by omega) (Or.inr (by omega)) (by omega))
    obtain ⟨gs, hm0⟩ := hM1.obj
    refine pw_istore (q := 851) C dL_law_849 rfl (Nat.le_of_ble_eq_true rfl) rfl ?_
    refine pw_aload_n (q := 852) (j := 2) C dL_law_851 rfl rfl rfl ?_
    refine pw_aload_n (q := 853) (j := 0) C dL_law_852 rfl rfl rfl ?_
    refine pw_iload (q := 855) C dL_law_853 rfl rfl ?_
    refine pw_iconst_n (q := 856) C 1 dL_law_855 (by decide +kernel) rfl ?_
    refine pw_iadd_n (q := 857) C dL_law_856 rfl ?_
    refine pw_sld (q := 858) hX C dL_law_857 (by omega) (by omega) rfl ?_
    refine pw_any (cr_v (j := iX11_setBound) C dL_law_858 lL_146 mX11_setBound (ro_mk (Nat.le_of_ble_eq_true rfl) (Nat.le_of_ble_eq_true rfl)) hm0 rfl (c_setBound hM1 hXr.mb hSr (xs (4 * i + 1))) rfl rfl (Nat.le_of_ble_eq_true rfl) ⟨by omega, by omega⟩) rfl (fun v2 M2 e2 => ?_) (fun E2 M2 e2 => ?_)
    · obtain ⟨⟨w, ho2, hw⟩, hM2, hs2⟩ := e2
      have hv2 := Sum.inl.inj ho2
      subst hv2
      obtain ⟨gs2, hm2⟩ := hM2.obj
      have hT2 := (hs2.2 (x + 146) (Or.inr (by omega))).trans hT1
      have hX2 := hX1.keep (Nat.le_of_eq hs2.1.symm) (fun q g1 g2 => hs2.2 q (Or.inl (by omega)))
      have hf9 : (spSetBound S (xs (4 * i + 1))).1 = 0 → f1 (nI 0).toNatClampNeg = w.toInt64 := fun g => by rw [show (nI 0).toNatClampNeg = 0 by decide +kernel, hv1 g, hw g]
      have hI9 : LI M2 x (spSetBound S (xs (4 * i + 1))).2.2 (i + 1) := ⟨hX2, ⟨_, hM2⟩, sv_setBound hSr (xs (4 * i + 1)), ⟨f1, hT2⟩, by rw [hs2.1]; omega⟩
      refine pw_istore (q := 863) C dL_law_861 rfl (Nat.le_of_ble_eq_true rfl) rfl ?_
      refine pw_aload_n (q := 864) (j := 2) C dL_law_863 rfl rfl rfl ?_
      refine pw_rd (q := 867) (cr_v (j := iX11_thrown) C dL_law_864 lL_103 mX11_thrown (ro_mk (Nat.le_of_ble_eq_true rfl) (Nat.le_of_ble_eq_true rfl)) hm2 rfl (c_thrown hM2) rfl rfl (Nat.le_of_ble_eq_true rfl) ⟨by omega, by omega⟩) rfl ?_
      refine pw_iload (q := 869) C dL_law_867 rfl rfl ?_
      refine pw_icmp_eq_n (q := 872) 874 C dL_law_869 (by decide) rfl (by omega) (by omega) (fun g869 => ?_) (fun g869 => absurd g869 (not_not_intro rfl))
      refine pw_iload (q := 876) C dL_law_874 rfl rfl ?_
      refine pw_if_ne_n (q := 879) 891 C dL_law_876 (by decide) rfl (by omega) (fun g876 => ?_) (fun g876 => ?_)
      · refine pw_goto (q := 0) 1852 C dL_law_891 (by decide) ?_
        exact K _ _ _ _ hI9
      · refine pw_aload_n (q := 880) (j := 3) C dL_law_879 rfl rfl rfl ?_
        refine pw_iconst_n (q := 881) C 0 dL_law_880 (by decide +kernel) rfl ?_
        refine pw_lald (q := 882) C dL_law_881 hT2 (vp_in_n (by decide) (by decide)) rfl ?_
        rw [hf9 g876]
        refine pw_iload (q := 884) C dL_law_882 rfl rfl ?_
        refine pw_i2l (q := 885) C dL_law_884 rfl ?_
        refine pw_lcmp (q := 886) C dL_law_885 rfl ?_
        refine pw_if_eq (q := 889) 891 C dL_law_886 (by decide) rfl (fun g886 => ?_) (fun g886 => absurd g886 (not_not_intro (cmp_same _)))
        refine pw_goto (q := 0) 1852 C dL_law_891 (by decide) ?_
        exact K _ _ _ _ hI9
    · obtain ⟨⟨w, ho2, _⟩, _, _⟩ := e2
      cases ho2
  · obtain ⟨ho, _⟩ := e
    cases ho
set_option maxHeartbeats 400000 in
set_option maxRecDepth 100000 in
theorem law_13 {Γ : CX} {G : GC} {Z : State → Prop} {T : List ExceptionTableEntry} {nm : String} {b L i k n x : Nat} {xs : Nat → Int32} {M : PH} {S : St} {v5 v6 : Option Value} (C : Cx Γ G (iLaw nm) T 601024 7293034) (hN : NG Γ) (hX : SC Γ G b L xs) (hL : L ≤ 2048) (hi : 4 * i + 4 ≤ L) (hI : LI M x S i) (hkn : k + 2 ≤ 601024 ∧ n + 12 ≤ 7293034) (K : ∀ (M1 : PH) (S1 : St) (v5 v6 : Option Value), LI M1 x S1 (i + 1) → PW Γ G Z 1852 [some (.ref b), some (.ref x), some (.ref (x + 137)), some (.ref (x + 146)), some (.int (nI (4 * i))), v5, v6] [] M1 (k + 2) (n + 12)) : PW Γ G Z 894 [some (.ref b), some (.ref x), some (.ref (x + 137)), some (.ref (x + 146)), some (.int (nI (4 * i))), v5, v6] [] M k n := by
  obtain ⟨hXr, ⟨rf, hMr⟩, hSr, ⟨f, hT⟩, hz⟩ := hI
  have hx0 := hXr.1
  have hk9 : (spCut S (xs (4 * i + 1)) (xs (4 * i + 2)) (xs (4 * i + 3))).1 ≤ _ := le_spCut S (xs (4 * i + 1)) (xs (4 * i + 2)) (xs (4 * i + 3))
  refine pw_aload_n (q := 895) (j := 1) C dL_law_894 rfl rfl rfl ?_
  refine pw_aload_n (q := 896) (j := 0) C dL_law_895 rfl rfl rfl ?_
  refine pw_iload (q := 898) C dL_law_896 rfl rfl ?_
  refine pw_iconst_n (q := 899) C 1 dL_law_898 (by decide +kernel) rfl ?_
  refine pw_iadd_n (q := 900) C dL_law_899 rfl ?_
  refine pw_sld (q := 901) hX C dL_law_900 (by omega) (by omega) rfl ?_
  refine pw_aload_n (q := 902) (j := 0) C dL_law_901 rfl rfl rfl ?_
  refine pw_iload (q := 904) C dL_law_902 rfl rfl ?_
  refine pw_iconst_n (q := 905) C 2 dL_law_904 (by decide +kernel) rfl ?_
  refine pw_iadd_n (q := 906) C dL_law_905 rfl ?_
  refine pw_sld (q := 907) hX C dL_law_906 (by omega) (by omega) rfl ?_
  refine pw_aload_n (q := 908) (j := 0) C dL_law_907 rfl rfl rfl ?_
  refine pw_iload (q := 910) C dL_law_908 rfl rfl ?_
  refine pw_iconst_n (q := 911) C 3 dL_law_910 (by decide +kernel) rfl ?_
  refine pw_iadd_n (q := 912) C dL_law_911 rfl ?_
  refine pw_sld (q := 913) hX C dL_law_912 (by omega) (by omega) rfl ?_
  refine pw_aload_n (q := 914) (j := 3) C dL_law_913 rfl rfl rfl ?_
  refine pw_any (cr_shN (j := iL_cut) C hN dL_law_914 lL_147 mL_cut (ro_mk (Nat.le_of_ble_eq_true rfl) (Nat.le_of_ble_eq_true rfl)) (l_cut (p_cut hXr hSr (xs (4 * i + 1)) (xs (4 * i + 2)) (xs (4 * i + 3))) (le_spCut S (xs (4 * i + 1)) (xs (4 * i + 2)) (xs (4 * i + 3))) hx0 (by omega) (Or.inr (by omega)) hT) rfl rfl (Nat.le_of_ble_eq_true rfl) ⟨by omega, by omega⟩) rfl (fun v M1 e => ?_) (fun E1 M1 e => ?_)
  · obtain ⟨ho, hX1, hz1, hs1, f1, hT1, hv1⟩ := e
    have hv := Sum.inl.inj ho
    subst hv
    have hM1 : RepM M1 (x + 137) rf S := hMr.keep (fun q g1 g2 => hs1 q (by omega) (Or.inr (by omega)) (by omega))
    obtain ⟨gs, hm0⟩ := hM1.obj
    refine pw_istore (q := 919) C dL_law_917 rfl (Nat.le_of_ble_eq_true rfl) rfl ?_
    refine pw_aload_n (q := 920) (j := 2) C dL_law_919 rfl rfl rfl ?_
    refine pw_aload_n (q := 921) (j := 0) C dL_law_920 rfl rfl rfl ?_
    refine pw_iload (q := 923) C dL_law_921 rfl rfl ?_
    refine pw_iconst_n (q := 924) C 1 dL_law_923 (by decide +kernel) rfl ?_
    refine pw_iadd_n (q := 925) C dL_law_924 rfl ?_
    refine pw_sld (q := 926) hX C dL_law_925 (by omega) (by omega) rfl ?_
    refine pw_aload_n (q := 927) (j := 0) C dL_law_926 rfl rfl rfl ?_
    refine pw_iload (q := 929) C dL_law_927 rfl rfl ?_
    refine pw_iconst_n (q := 930) C 2 dL_law_929 (by decide +kernel) rfl ?_
    refine pw_iadd_n (q := 931) C dL_law_930 rfl ?_
    refine pw_sld (q := 932) hX C dL_law_931 (by omega) (by omega) rfl ?_
    refine pw_aload_n (q := 933) (j := 0) C dL_law_932 rfl rfl rfl ?_
    refine pw_iload (q := 935) C dL_law_933 rfl rfl ?_
    refine pw_iconst_n (q := 936) C 3 dL_law_935 (by decide +kernel) rfl ?_
    refine pw_iadd_n (q := 937) C dL_law_936 rfl ?_
    refine pw_sld (q := 938) hX C dL_law_937 (by omega) (by omega) rfl ?_
    refine pw_any (cr_v (j := iX11_cut) C dL_law_938 lL_149 mX11_cut (ro_mk (Nat.le_of_ble_eq_true rfl) (Nat.le_of_ble_eq_true rfl)) hm0 rfl (c_cut hM1 hXr.mb hSr (xs (4 * i + 1)) (xs (4 * i + 2)) (xs (4 * i + 3))) rfl rfl (Nat.le_of_ble_eq_true rfl) ⟨by omega, by omega⟩) rfl (fun v2 M2 e2 => ?_) (fun E2 M2 e2 => ?_)
    · obtain ⟨⟨w, ho2, hw⟩, hM2, hs2⟩ := e2
      have hv2 := Sum.inl.inj ho2
      subst hv2
      obtain ⟨gs2, hm2⟩ := hM2.obj
      have hT2 := (hs2.2 (x + 146) (Or.inr (by omega))).trans hT1
      have hX2 := hX1.keep (Nat.le_of_eq hs2.1.symm) (fun q g1 g2 => hs2.2 q (Or.inl (by omega)))
      have hf9 : (spCut S (xs (4 * i + 1)) (xs (4 * i + 2)) (xs (4 * i + 3))).1 = 0 → f1 (nI 0).toNatClampNeg = w.toInt64 := fun g => by rw [show (nI 0).toNatClampNeg = 0 by decide +kernel, hv1 g, hw g]
      have hI9 : LI M2 x (spCut S (xs (4 * i + 1)) (xs (4 * i + 2)) (xs (4 * i + 3))).2.2 (i + 1) := ⟨hX2, ⟨_, hM2⟩, sv_cut hSr (xs (4 * i + 1)) (xs (4 * i + 2)) (xs (4 * i + 3)), ⟨f1, hT2⟩, by rw [hs2.1]; omega⟩
      refine pw_istore (q := 943) C dL_law_941 rfl (Nat.le_of_ble_eq_true rfl) rfl ?_
      refine pw_aload_n (q := 944) (j := 2) C dL_law_943 rfl rfl rfl ?_
      refine pw_rd (q := 947) (cr_v (j := iX11_thrown) C dL_law_944 lL_103 mX11_thrown (ro_mk (Nat.le_of_ble_eq_true rfl) (Nat.le_of_ble_eq_true rfl)) hm2 rfl (c_thrown hM2) rfl rfl (Nat.le_of_ble_eq_true rfl) ⟨by omega, by omega⟩) rfl ?_
      refine pw_iload (q := 949) C dL_law_947 rfl rfl ?_
      refine pw_icmp_eq_n (q := 952) 954 C dL_law_949 (by decide) rfl (by omega) (by omega) (fun g949 => ?_) (fun g949 => absurd g949 (not_not_intro rfl))
      refine pw_iload (q := 956) C dL_law_954 rfl rfl ?_
      refine pw_if_ne_n (q := 959) 971 C dL_law_956 (by decide) rfl (by omega) (fun g956 => ?_) (fun g956 => ?_)
      · refine pw_goto (q := 0) 1852 C dL_law_971 (by decide) ?_
        exact K _ _ _ _ hI9
      · refine pw_aload_n (q := 960) (j := 3) C dL_law_959 rfl rfl rfl ?_
        refine pw_iconst_n (q := 961) C 0 dL_law_960 (by decide +kernel) rfl ?_
        refine pw_lald (q := 962) C dL_law_961 hT2 (vp_in_n (by decide) (by decide)) rfl ?_
        rw [hf9 g956]
        refine pw_iload (q := 964) C dL_law_962 rfl rfl ?_
        refine pw_i2l (q := 965) C dL_law_964 rfl ?_
        refine pw_lcmp (q := 966) C dL_law_965 rfl ?_
        refine pw_if_eq (q := 969) 971 C dL_law_966 (by decide) rfl (fun g966 => ?_) (fun g966 => absurd g966 (not_not_intro (cmp_same _)))
        refine pw_goto (q := 0) 1852 C dL_law_971 (by decide) ?_
        exact K _ _ _ _ hI9
    · obtain ⟨⟨w, ho2, _⟩, _, _⟩ := e2
      cases ho2
  · obtain ⟨ho, _⟩ := e
    cases ho
set_option maxHeartbeats 400000 in
set_option maxRecDepth 100000 in
theorem law_14 {Γ : CX} {G : GC} {Z : State → Prop} {T : List ExceptionTableEntry} {nm : String} {b L i k n x : Nat} {xs : Nat → Int32} {M : PH} {S : St} {v5 v6 : Option Value} (C : Cx Γ G (iLaw nm) T 601024 7293034) (hN : NG Γ) (hX : SC Γ G b L xs) (hL : L ≤ 2048) (hi : 4 * i + 4 ≤ L) (hI : LI M x S i) (hkn : k + 2 ≤ 601024 ∧ n + 12 ≤ 7293034) (K : ∀ (M1 : PH) (S1 : St) (v5 v6 : Option Value), LI M1 x S1 (i + 1) → PW Γ G Z 1852 [some (.ref b), some (.ref x), some (.ref (x + 137)), some (.ref (x + 146)), some (.int (nI (4 * i))), v5, v6] [] M1 (k + 2) (n + 12)) : PW Γ G Z 974 [some (.ref b), some (.ref x), some (.ref (x + 137)), some (.ref (x + 146)), some (.int (nI (4 * i))), v5, v6] [] M k n := by
  obtain ⟨hXr, ⟨rf, hMr⟩, hSr, ⟨f, hT⟩, hz⟩ := hI
  have hx0 := hXr.1
  have hk9 : (spInspect S (xs (4 * i + 1))).1 ≤ _ := le_spInspect S (xs (4 * i + 1))
  refine pw_aload_n (q := 975) (j := 1) C dL_law_974 rfl rfl rfl ?_
  refine pw_aload_n (q := 976) (j := 0) C dL_law_975 rfl rfl rfl ?_
  refine pw_iload (q := 978) C dL_law_976 rfl rfl ?_
  refine pw_iconst_n (q := 979) C 1 dL_law_978 (by decide +kernel) rfl ?_
  refine pw_iadd_n (q := 980) C dL_law_979 rfl ?_
  refine pw_sld (q := 981) hX C dL_law_980 (by omega) (by omega) rfl ?_
  refine pw_aload_n (q := 982) (j := 3) C dL_law_981 rfl rfl rfl ?_
  refine pw_any (cr_shN (j := iL_inspect) C hN dL_law_982 lL_150 mL_inspect (ro_mk (Nat.le_of_ble_eq_true rfl) (Nat.le_of_ble_eq_true rfl)) (l_inspect (p_inspect hXr hSr (xs (4 * i + 1))) (le_spInspect S (xs (4 * i + 1))) hx0 (by omega) (Or.inr (by omega)) hT) rfl rfl (Nat.le_of_ble_eq_true rfl) ⟨by omega, by omega⟩) rfl (fun v M1 e => ?_) (fun E1 M1 e => ?_)
  · obtain ⟨ho, hX1, hz1, hs1, f1, hT1, hv1⟩ := e
    have hv := Sum.inl.inj ho
    subst hv
    have hM1 : RepM M1 (x + 137) rf S := hMr.keep (fun q g1 g2 => hs1 q (by omega) (Or.inr (by omega)) (by omega))
    obtain ⟨gs, hm0⟩ := hM1.obj
    refine pw_istore (q := 987) C dL_law_985 rfl (Nat.le_of_ble_eq_true rfl) rfl ?_
    refine pw_aload_n (q := 988) (j := 2) C dL_law_987 rfl rfl rfl ?_
    refine pw_aload_n (q := 989) (j := 0) C dL_law_988 rfl rfl rfl ?_
    refine pw_iload (q := 991) C dL_law_989 rfl rfl ?_
    refine pw_iconst_n (q := 992) C 1 dL_law_991 (by decide +kernel) rfl ?_
    refine pw_iadd_n (q := 993) C dL_law_992 rfl ?_
    refine pw_sld (q := 994) hX C dL_law_993 (by omega) (by omega) rfl ?_
    refine pw_any (cr_v (j := iX11_inspect) C dL_law_994 lL_152 mX11_inspect (ro_mk (Nat.le_of_ble_eq_true rfl) (Nat.le_of_ble_eq_true rfl)) hm0 rfl (c_inspect hM1 hXr.mb hSr (xs (4 * i + 1))) rfl rfl (Nat.le_of_ble_eq_true rfl) ⟨by omega, by omega⟩) rfl (fun v2 M2 e2 => ?_) (fun E2 M2 e2 => ?_)
    · obtain ⟨⟨w, ho2, hw⟩, hM2, hs2⟩ := e2
      have hv2 := Sum.inl.inj ho2
      subst hv2
      obtain ⟨gs2, hm2⟩ := hM2.obj
      have hT2 := (hs2.2 (x + 146) (Or.inr (by omega))).trans hT1
      have hX2 := hX1.keep (Nat.le_of_eq hs2.1.symm) (fun q g1 g2 => hs2.2 q (Or.inl (by omega)))
      have hf9 : (spInspect S (xs (4 * i + 1))).1 = 0 → f1 (nI 0).toNatClampNeg = w.toInt64 := fun g => by rw [show (nI 0).toNatClampNeg = 0 by decide +kernel, hv1 g, hw g]
      have hI9 : LI M2 x (spInspect S (xs (4 * i + 1))).2.2 (i + 1) := ⟨hX2, ⟨_, hM2⟩, sv_inspect hSr (xs (4 * i + 1)), ⟨f1, hT2⟩, by rw [hs2.1]; omega⟩
      refine pw_istore (q := 999) C dL_law_997 rfl (Nat.le_of_ble_eq_true rfl) rfl ?_
      refine pw_aload_n (q := 1000) (j := 2) C dL_law_999 rfl rfl rfl ?_
      refine pw_rd (q := 1003) (cr_v (j := iX11_thrown) C dL_law_1000 lL_103 mX11_thrown (ro_mk (Nat.le_of_ble_eq_true rfl) (Nat.le_of_ble_eq_true rfl)) hm2 rfl (c_thrown hM2) rfl rfl (Nat.le_of_ble_eq_true rfl) ⟨by omega, by omega⟩) rfl ?_
      refine pw_iload (q := 1005) C dL_law_1003 rfl rfl ?_
      refine pw_icmp_eq_n (q := 1008) 1010 C dL_law_1005 (by decide) rfl (by omega) (by omega) (fun g1005 => ?_) (fun g1005 => absurd g1005 (not_not_intro rfl))
      refine pw_iload (q := 1012) C dL_law_1010 rfl rfl ?_
      refine pw_if_ne_n (q := 1015) 1027 C dL_law_1012 (by decide) rfl (by omega) (fun g1012 => ?_) (fun g1012 => ?_)
      · refine pw_goto (q := 0) 1852 C dL_law_1027 (by decide) ?_
        exact K _ _ _ _ hI9
      · refine pw_aload_n (q := 1016) (j := 3) C dL_law_1015 rfl rfl rfl ?_
        refine pw_iconst_n (q := 1017) C 0 dL_law_1016 (by decide +kernel) rfl ?_
        refine pw_lald (q := 1018) C dL_law_1017 hT2 (vp_in_n (by decide) (by decide)) rfl ?_
        rw [hf9 g1012]
        refine pw_iload (q := 1020) C dL_law_1018 rfl rfl ?_
        refine pw_i2l (q := 1021) C dL_law_1020 rfl ?_
        refine pw_lcmp (q := 1022) C dL_law_1021 rfl ?_
        refine pw_if_eq (q := 1025) 1027 C dL_law_1022 (by decide) rfl (fun g1022 => ?_) (fun g1022 => absurd g1022 (not_not_intro (cmp_same _)))
        refine pw_goto (q := 0) 1852 C dL_law_1027 (by decide) ?_
        exact K _ _ _ _ hI9
    · obtain ⟨⟨w, ho2, _⟩, _, _⟩ := e2
      cases ho2
  · obtain ⟨ho, _⟩ := e
    cases ho
set_option maxHeartbeats 400000 in
set_option maxRecDepth 100000 in
theorem law_15 {Γ : CX} {G : GC} {Z : State → Prop} {T : List ExceptionTableEntry} {nm : String} {b L i k n x : Nat} {xs : Nat → Int32} {M : PH} {S : St} {v5 v6 : Option Value} (C : Cx Γ G (iLaw nm) T 601024 7293034) (hN : NG Γ) (hX : SC Γ G b L xs) (hL : L ≤ 2048) (hi : 4 * i + 4 ≤ L) (hI : LI M x S i) (hkn : k + 2 ≤ 601024 ∧ n + 12 ≤ 7293034) (K : ∀ (M1 : PH) (S1 : St) (v5 v6 : Option Value), LI M1 x S1 (i + 1) → PW Γ G Z 1852 [some (.ref b), some (.ref x), some (.ref (x + 137)), some (.ref (x + 146)), some (.int (nI (4 * i))), v5, v6] [] M1 (k + 2) (n + 12)) : PW Γ G Z 1030 [some (.ref b), some (.ref x), some (.ref (x + 137)), some (.ref (x + 146)), some (.int (nI (4 * i))), v5, v6] [] M k n := by
  obtain ⟨hXr, ⟨rf, hMr⟩, hSr, ⟨f, hT⟩, hz⟩ := hI
  have hx0 := hXr.1
  have hk9 : (spRecut S (xs (4 * i + 1)) (xs (4 * i + 2)) (xs (4 * i + 3))).1 ≤ _ := le_spRecut S (xs (4 * i + 1)) (xs (4 * i + 2)) (xs (4 * i + 3))
  refine pw_aload_n (q := 1031) (j := 1) C dL_law_1030 rfl rfl rfl ?_
  refine pw_aload_n (q := 1032) (j := 0) C dL_law_1031 rfl rfl rfl ?_
  refine pw_iload (q := 1034) C dL_law_1032 rfl rfl ?_
  refine pw_iconst_n (q := 1035) C 1 dL_law_1034 (by decide +kernel) rfl ?_
  refine pw_iadd_n (q := 1036) C dL_law_1035 rfl ?_
  refine pw_sld (q := 1037) hX C dL_law_1036 (by omega) (by omega) rfl ?_
  refine pw_aload_n (q := 1038) (j := 0) C dL_law_1037 rfl rfl rfl ?_
  refine pw_iload (q := 1040) C dL_law_1038 rfl rfl ?_
  refine pw_iconst_n (q := 1041) C 2 dL_law_1040 (by decide +kernel) rfl ?_
  refine pw_iadd_n (q := 1042) C dL_law_1041 rfl ?_
  refine pw_sld (q := 1043) hX C dL_law_1042 (by omega) (by omega) rfl ?_
  refine pw_aload_n (q := 1044) (j := 0) C dL_law_1043 rfl rfl rfl ?_
  refine pw_iload (q := 1046) C dL_law_1044 rfl rfl ?_
  refine pw_iconst_n (q := 1047) C 3 dL_law_1046 (by decide +kernel) rfl ?_
  refine pw_iadd_n (q := 1048) C dL_law_1047 rfl ?_
  refine pw_sld (q := 1049) hX C dL_law_1048 (by omega) (by omega) rfl ?_
  refine pw_aload_n (q := 1050) (j := 3) C dL_law_1049 rfl rfl rfl ?_
  refine pw_any (cr_shN (j := iL_recut) C hN dL_law_1050 lL_153 mL_recut (ro_mk (Nat.le_of_ble_eq_true rfl) (Nat.le_of_ble_eq_true rfl)) (l_recut (p_recut hXr hSr (xs (4 * i + 1)) (xs (4 * i + 2)) (xs (4 * i + 3))) (le_spRecut S (xs (4 * i + 1)) (xs (4 * i + 2)) (xs (4 * i + 3))) hx0 (by omega) (Or.inr (by omega)) hT) rfl rfl (Nat.le_of_ble_eq_true rfl) ⟨by omega, by omega⟩) rfl (fun v M1 e => ?_) (fun E1 M1 e => ?_)
  · obtain ⟨ho, hX1, hz1, hs1, f1, hT1, hv1⟩ := e
    have hv := Sum.inl.inj ho
    subst hv
    have hM1 : RepM M1 (x + 137) rf S := hMr.keep (fun q g1 g2 => hs1 q (by omega) (Or.inr (by omega)) (by omega))
    obtain ⟨gs, hm0⟩ := hM1.obj
    refine pw_istore (q := 1055) C dL_law_1053 rfl (Nat.le_of_ble_eq_true rfl) rfl ?_
    refine pw_aload_n (q := 1056) (j := 2) C dL_law_1055 rfl rfl rfl ?_
    refine pw_aload_n (q := 1057) (j := 0) C dL_law_1056 rfl rfl rfl ?_
    refine pw_iload (q := 1059) C dL_law_1057 rfl rfl ?_
    refine pw_iconst_n (q := 1060) C 1 dL_law_1059 (by decide +kernel) rfl ?_
    refine pw_iadd_n (q := 1061) C dL_law_1060 rfl ?_
    refine pw_sld (q := 1062) hX C dL_law_1061 (by omega) (by omega) rfl ?_
    refine pw_aload_n (q := 1063) (j := 0) C dL_law_1062 rfl rfl rfl ?_
    refine pw_iload (q := 1065) C dL_law_1063 rfl rfl ?_
    refine pw_iconst_n (q := 1066) C 2 dL_law_1065 (by decide +kernel) rfl ?_
    refine pw_iadd_n (q := 1067) C dL_law_1066 rfl ?_
    refine pw_sld (q := 1068) hX C dL_law_1067 (by omega) (by omega) rfl ?_
    refine pw_aload_n (q := 1069) (j := 0) C dL_law_1068 rfl rfl rfl ?_
    refine pw_iload (q := 1071) C dL_law_1069 rfl rfl ?_
    refine pw_iconst_n (q := 1072) C 3 dL_law_1071 (by decide +kernel) rfl ?_
    refine pw_iadd_n (q := 1073) C dL_law_1072 rfl ?_
    refine pw_sld (q := 1074) hX C dL_law_1073 (by omega) (by omega) rfl ?_
    refine pw_any (cr_v (j := iX11_recut) C dL_law_1074 lL_155 mX11_recut (ro_mk (Nat.le_of_ble_eq_true rfl) (Nat.le_of_ble_eq_true rfl)) hm0 rfl (c_recut hM1 hXr.mb hSr (xs (4 * i + 1)) (xs (4 * i + 2)) (xs (4 * i + 3))) rfl rfl (Nat.le_of_ble_eq_true rfl) ⟨by omega, by omega⟩) rfl (fun v2 M2 e2 => ?_) (fun E2 M2 e2 => ?_)
    · obtain ⟨⟨w, ho2, hw⟩, hM2, hs2⟩ := e2
      have hv2 := Sum.inl.inj ho2
      subst hv2
      obtain ⟨gs2, hm2⟩ := hM2.obj
      have hT2 := (hs2.2 (x + 146) (Or.inr (by omega))).trans hT1
      have hX2 := hX1.keep (Nat.le_of_eq hs2.1.symm) (fun q g1 g2 => hs2.2 q (Or.inl (by omega)))
      have hf9 : (spRecut S (xs (4 * i + 1)) (xs (4 * i + 2)) (xs (4 * i + 3))).1 = 0 → f1 (nI 0).toNatClampNeg = w.toInt64 := fun g => by rw [show (nI 0).toNatClampNeg = 0 by decide +kernel, hv1 g, hw g]
      have hI9 : LI M2 x (spRecut S (xs (4 * i + 1)) (xs (4 * i + 2)) (xs (4 * i + 3))).2.2 (i + 1) := ⟨hX2, ⟨_, hM2⟩, sv_recut hSr (xs (4 * i + 1)) (xs (4 * i + 2)) (xs (4 * i + 3)), ⟨f1, hT2⟩, by rw [hs2.1]; omega⟩
      refine pw_istore (q := 1079) C dL_law_1077 rfl (Nat.le_of_ble_eq_true rfl) rfl ?_
      refine pw_aload_n (q := 1080) (j := 2) C dL_law_1079 rfl rfl rfl ?_
      refine pw_rd (q := 1083) (cr_v (j := iX11_thrown) C dL_law_1080 lL_103 mX11_thrown (ro_mk (Nat.le_of_ble_eq_true rfl) (Nat.le_of_ble_eq_true rfl)) hm2 rfl (c_thrown hM2) rfl rfl (Nat.le_of_ble_eq_true rfl) ⟨by omega, by omega⟩) rfl ?_
      refine pw_iload (q := 1085) C dL_law_1083 rfl rfl ?_
      refine pw_icmp_eq_n (q := 1088) 1090 C dL_law_1085 (by decide) rfl (by omega) (by omega) (fun g1085 => ?_) (fun g1085 => absurd g1085 (not_not_intro rfl))
      refine pw_iload (q := 1092) C dL_law_1090 rfl rfl ?_
      refine pw_if_ne_n (q := 1095) 1107 C dL_law_1092 (by decide) rfl (by omega) (fun g1092 => ?_) (fun g1092 => ?_)
      · refine pw_goto (q := 0) 1852 C dL_law_1107 (by decide) ?_
        exact K _ _ _ _ hI9
      · refine pw_aload_n (q := 1096) (j := 3) C dL_law_1095 rfl rfl rfl ?_
        refine pw_iconst_n (q := 1097) C 0 dL_law_1096 (by decide +kernel) rfl ?_
        refine pw_lald (q := 1098) C dL_law_1097 hT2 (vp_in_n (by decide) (by decide)) rfl ?_
        rw [hf9 g1092]
        refine pw_iload (q := 1100) C dL_law_1098 rfl rfl ?_
        refine pw_i2l (q := 1101) C dL_law_1100 rfl ?_
        refine pw_lcmp (q := 1102) C dL_law_1101 rfl ?_
        refine pw_if_eq (q := 1105) 1107 C dL_law_1102 (by decide) rfl (fun g1102 => ?_) (fun g1102 => absurd g1102 (not_not_intro (cmp_same _)))
        refine pw_goto (q := 0) 1852 C dL_law_1107 (by decide) ?_
        exact K _ _ _ _ hI9
    · obtain ⟨⟨w, ho2, _⟩, _, _⟩ := e2
      cases ho2
  · obtain ⟨ho, _⟩ := e
    cases ho
set_option maxHeartbeats 400000 in
set_option maxRecDepth 100000 in
theorem law_16 {Γ : CX} {G : GC} {Z : State → Prop} {T : List ExceptionTableEntry} {nm : String} {b L i k n x : Nat} {xs : Nat → Int32} {M : PH} {S : St} {v5 v6 : Option Value} (C : Cx Γ G (iLaw nm) T 601024 7293034) (hN : NG Γ) (hX : SC Γ G b L xs) (hL : L ≤ 2048) (hi : 4 * i + 4 ≤ L) (hI : LI M x S i) (hkn : k + 2 ≤ 601024 ∧ n + 12 ≤ 7293034) (K : ∀ (M1 : PH) (S1 : St) (v5 v6 : Option Value), LI M1 x S1 (i + 1) → PW Γ G Z 1852 [some (.ref b), some (.ref x), some (.ref (x + 137)), some (.ref (x + 146)), some (.int (nI (4 * i))), v5, v6] [] M1 (k + 2) (n + 12)) : PW Γ G Z 1110 [some (.ref b), some (.ref x), some (.ref (x + 137)), some (.ref (x + 146)), some (.int (nI (4 * i))), v5, v6] [] M k n := by
  obtain ⟨hXr, ⟨rf, hMr⟩, hSr, ⟨f, hT⟩, hz⟩ := hI
  have hx0 := hXr.1
  have hk9 : (spScrap S (xs (4 * i + 1))).1 ≤ _ := le_spScrap S (xs (4 * i + 1))
  refine pw_aload_n (q := 1111) (j := 1) C dL_law_1110 rfl rfl rfl ?_
  refine pw_aload_n (q := 1112) (j := 0) C dL_law_1111 rfl rfl rfl ?_
  refine pw_iload (q := 1114) C dL_law_1112 rfl rfl ?_
  refine pw_iconst_n (q := 1115) C 1 dL_law_1114 (by decide +kernel) rfl ?_
  refine pw_iadd_n (q := 1116) C dL_law_1115 rfl ?_
  refine pw_sld (q := 1117) hX C dL_law_1116 (by omega) (by omega) rfl ?_
  refine pw_aload_n (q := 1118) (j := 3) C dL_law_1117 rfl rfl rfl ?_
  refine pw_any (cr_shN (j := iL_scrap) C hN dL_law_1118 lL_156 mL_scrap (ro_mk (Nat.le_of_ble_eq_true rfl) (Nat.le_of_ble_eq_true rfl)) (l_scrap (p_scrap hXr hSr (xs (4 * i + 1))) (le_spScrap S (xs (4 * i + 1))) hx0 (by omega) (Or.inr (by omega)) hT) rfl rfl (Nat.le_of_ble_eq_true rfl) ⟨by omega, by omega⟩) rfl (fun v M1 e => ?_) (fun E1 M1 e => ?_)
  · obtain ⟨ho, hX1, hz1, hs1, f1, hT1, hv1⟩ := e
    have hv := Sum.inl.inj ho
    subst hv
    have hM1 : RepM M1 (x + 137) rf S := hMr.keep (fun q g1 g2 => hs1 q (by omega) (Or.inr (by omega)) (by omega))
    obtain ⟨gs, hm0⟩ := hM1.obj
    refine pw_istore (q := 1123) C dL_law_1121 rfl (Nat.le_of_ble_eq_true rfl) rfl ?_
    refine pw_aload_n (q := 1124) (j := 2) C dL_law_1123 rfl rfl rfl ?_
    refine pw_aload_n (q := 1125) (j := 0) C dL_law_1124 rfl rfl rfl ?_
    refine pw_iload (q := 1127) C dL_law_1125 rfl rfl ?_
    refine pw_iconst_n (q := 1128) C 1 dL_law_1127 (by decide +kernel) rfl ?_
    refine pw_iadd_n (q := 1129) C dL_law_1128 rfl ?_
    refine pw_sld (q := 1130) hX C dL_law_1129 (by omega) (by omega) rfl ?_
    refine pw_any (cr_v (j := iX11_scrap) C dL_law_1130 lL_158 mX11_scrap (ro_mk (Nat.le_of_ble_eq_true rfl) (Nat.le_of_ble_eq_true rfl)) hm0 rfl (c_scrap hM1 hXr.mb hSr (xs (4 * i + 1))) rfl rfl (Nat.le_of_ble_eq_true rfl) ⟨by omega, by omega⟩) rfl (fun v2 M2 e2 => ?_) (fun E2 M2 e2 => ?_)
    · obtain ⟨⟨w, ho2, hw⟩, hM2, hs2⟩ := e2
      have hv2 := Sum.inl.inj ho2
      subst hv2
      obtain ⟨gs2, hm2⟩ := hM2.obj
      have hT2 := (hs2.2 (x + 146) (Or.inr (by omega))).trans hT1
      have hX2 := hX1.keep (Nat.le_of_eq hs2.1.symm) (fun q g1 g2 => hs2.2 q (Or.inl (by omega)))
      have hf9 : (spScrap S (xs (4 * i + 1))).1 = 0 → f1 (nI 0).toNatClampNeg = w.toInt64 := fun g => by rw [show (nI 0).toNatClampNeg = 0 by decide +kernel, hv1 g, hw g]
      have hI9 : LI M2 x (spScrap S (xs (4 * i + 1))).2.2 (i + 1) := ⟨hX2, ⟨_, hM2⟩, sv_scrap hSr (xs (4 * i + 1)), ⟨f1, hT2⟩, by rw [hs2.1]; omega⟩
      refine pw_istore (q := 1135) C dL_law_1133 rfl (Nat.le_of_ble_eq_true rfl) rfl ?_
      refine pw_aload_n (q := 1136) (j := 2) C dL_law_1135 rfl rfl rfl ?_
      refine pw_rd (q := 1139) (cr_v (j := iX11_thrown) C dL_law_1136 lL_103 mX11_thrown (ro_mk (Nat.le_of_ble_eq_true rfl) (Nat.le_of_ble_eq_true rfl)) hm2 rfl (c_thrown hM2) rfl rfl (Nat.le_of_ble_eq_true rfl) ⟨by omega, by omega⟩) rfl ?_
      refine pw_iload (q := 1141) C dL_law_1139 rfl rfl ?_
      refine pw_icmp_eq_n (q := 1144) 1146 C dL_law_1141 (by decide) rfl (by omega) (by omega) (fun g1141 => ?_) (fun g1141 => absurd g1141 (not_not_intro rfl))
      refine pw_iload (q := 1148) C dL_law_1146 rfl rfl ?_
      refine pw_if_ne_n (q := 1151) 1163 C dL_law_1148 (by decide) rfl (by omega) (fun g1148 => ?_) (fun g1148 => ?_)
      · refine pw_goto (q := 0) 1852 C dL_law_1163 (by decide) ?_
        exact K _ _ _ _ hI9
      · refine pw_aload_n (q := 1152) (j := 3) C dL_law_1151 rfl rfl rfl ?_
        refine pw_iconst_n (q := 1153) C 0 dL_law_1152 (by decide +kernel) rfl ?_
        refine pw_lald (q := 1154) C dL_law_1153 hT2 (vp_in_n (by decide) (by decide)) rfl ?_
        rw [hf9 g1148]
        refine pw_iload (q := 1156) C dL_law_1154 rfl rfl ?_
        refine pw_i2l (q := 1157) C dL_law_1156 rfl ?_
        refine pw_lcmp (q := 1158) C dL_law_1157 rfl ?_
        refine pw_if_eq (q := 1161) 1163 C dL_law_1158 (by decide) rfl (fun g1158 => ?_) (fun g1158 => absurd g1158 (not_not_intro (cmp_same _)))
        refine pw_goto (q := 0) 1852 C dL_law_1163 (by decide) ?_
        exact K _ _ _ _ hI9
    · obtain ⟨⟨w, ho2, _⟩, _, _⟩ := e2
      cases ho2
  · obtain ⟨ho, _⟩ := e
    cases ho
set_option maxHeartbeats 400000 in
set_option maxRecDepth 100000 in
theorem law_17 {Γ : CX} {G : GC} {Z : State → Prop} {T : List ExceptionTableEntry} {nm : String} {b L i k n x : Nat} {xs : Nat → Int32} {M : PH} {S : St} {v5 v6 : Option Value} (C : Cx Γ G (iLaw nm) T 601024 7293034) (hN : NG Γ) (hX : SC Γ G b L xs) (hL : L ≤ 2048) (hi : 4 * i + 4 ≤ L) (hI : LI M x S i) (hkn : k + 2 ≤ 601024 ∧ n + 12 ≤ 7293034) (K : ∀ (M1 : PH) (S1 : St) (v5 v6 : Option Value), LI M1 x S1 (i + 1) → PW Γ G Z 1852 [some (.ref b), some (.ref x), some (.ref (x + 137)), some (.ref (x + 146)), some (.int (nI (4 * i))), v5, v6] [] M1 (k + 2) (n + 12)) : PW Γ G Z 1166 [some (.ref b), some (.ref x), some (.ref (x + 137)), some (.ref (x + 146)), some (.int (nI (4 * i))), v5, v6] [] M k n := by
  obtain ⟨hXr, ⟨rf, hMr⟩, hSr, ⟨f, hT⟩, hz⟩ := hI
  have hx0 := hXr.1
  have hk9 : (spSet S (xs (4 * i + 1))).1 ≤ _ := le_spSet S (xs (4 * i + 1))
  refine pw_aload_n (q := 1167) (j := 1) C dL_law_1166 rfl rfl rfl ?_
  refine pw_aload_n (q := 1168) (j := 0) C dL_law_1167 rfl rfl rfl ?_
  refine pw_iload (q := 1170) C dL_law_1168 rfl rfl ?_
  refine pw_iconst_n (q := 1171) C 1 dL_law_1170 (by decide +kernel) rfl ?_
  refine pw_iadd_n (q := 1172) C dL_law_1171 rfl ?_
  refine pw_sld (q := 1173) hX C dL_law_1172 (by omega) (by omega) rfl ?_
  refine pw_aload_n (q := 1174) (j := 3) C dL_law_1173 rfl rfl rfl ?_
  refine pw_any (cr_shN (j := iL_set) C hN dL_law_1174 lL_159 mL_set (ro_mk (Nat.le_of_ble_eq_true rfl) (Nat.le_of_ble_eq_true rfl)) (l_set (p_set hXr hSr (xs (4 * i + 1))) (le_spSet S (xs (4 * i + 1))) hx0 (by omega) (Or.inr (by omega)) hT) rfl rfl (Nat.le_of_ble_eq_true rfl) ⟨by omega, by omega⟩) rfl (fun v M1 e => ?_) (fun E1 M1 e => ?_)
  · obtain ⟨ho, hX1, hz1, hs1, f1, hT1, hv1⟩ := e
    have hv := Sum.inl.inj ho
    subst hv
    have hM1 : RepM M1 (x + 137) rf S := hMr.keep (fun q g1 g2 => hs1 q (by omega) (Or.inr (by omega)) (by omega))
    obtain ⟨gs, hm0⟩ := hM1.obj
    refine pw_istore (q := 1179) C dL_law_1177 rfl (Nat.le_of_ble_eq_true rfl) rfl ?_
    refine pw_aload_n (q := 1180) (j := 2) C dL_law_1179 rfl rfl rfl ?_
    refine pw_aload_n (q := 1181) (j := 0) C dL_law_1180 rfl rfl rfl ?_
    refine pw_iload (q := 1183) C dL_law_1181 rfl rfl ?_
    refine pw_iconst_n (q := 1184) C 1 dL_law_1183 (by decide +kernel) rfl ?_
    refine pw_iadd_n (q := 1185) C dL_law_1184 rfl ?_
    refine pw_sld (q := 1186) hX C dL_law_1185 (by omega) (by omega) rfl ?_
    refine pw_any (cr_v (j := iX11_set) C dL_law_1186 lL_161 mX11_set (ro_mk (Nat.le_of_ble_eq_true rfl) (Nat.le_of_ble_eq_true rfl)) hm0 rfl (c_set hM1 hXr.mb hSr (xs (4 * i + 1))) rfl rfl (Nat.le_of_ble_eq_true rfl) ⟨by omega, by omega⟩) rfl (fun v2 M2 e2 => ?_) (fun E2 M2 e2 => ?_)
    · obtain ⟨⟨w, ho2, hw⟩, hM2, hs2⟩ := e2
      have hv2 := Sum.inl.inj ho2
      subst hv2
      obtain ⟨gs2, hm2⟩ := hM2.obj
      have hT2 := (hs2.2 (x + 146) (Or.inr (by omega))).trans hT1
      have hX2 := hX1.keep (Nat.le_of_eq hs2.1.symm) (fun q g1 g2 => hs2.2 q (Or.inl (by omega)))
      have hf9 : (spSet S (xs (4 * i + 1))).1 = 0 → f1 (nI 0).toNatClampNeg = w.toInt64 := fun g => by rw [show (nI 0).toNatClampNeg = 0 by decide +kernel, hv1 g, hw g]
      have hI9 : LI M2 x (spSet S (xs (4 * i + 1))).2.2 (i + 1) := ⟨hX2, ⟨_, hM2⟩, sv_set hSr (xs (4 * i + 1)), ⟨f1, hT2⟩, by rw [hs2.1]; omega⟩
      refine pw_istore (q := 1191) C dL_law_1189 rfl (Nat.le_of_ble_eq_true rfl) rfl ?_
      refine pw_aload_n (q := 1192) (j := 2) C dL_law_1191 rfl rfl rfl ?_
      refine pw_rd (q := 1195) (cr_v (j := iX11_thrown) C dL_law_1192 lL_103 mX11_thrown (ro_mk (Nat.le_of_ble_eq_true rfl) (Nat.le_of_ble_eq_true rfl)) hm2 rfl (c_thrown hM2) rfl rfl (Nat.le_of_ble_eq_true rfl) ⟨by omega, by omega⟩) rfl ?_
      refine pw_iload (q := 1197) C dL_law_1195 rfl rfl ?_
      refine pw_icmp_eq_n (q := 1200) 1202 C dL_law_1197 (by decide) rfl (by omega) (by omega) (fun g1197 => ?_) (fun g1197 => absurd g1197 (not_not_intro rfl))
      refine pw_iload (q := 1204) C dL_law_1202 rfl rfl ?_
      refine pw_if_ne_n (q := 1207) 1219 C dL_law_1204 (by decide) rfl (by omega) (fun g1204 => ?_) (fun g1204 => ?_)
      · refine pw_goto (q := 0) 1852 C dL_law_1219 (by decide) ?_
        exact K _ _ _ _ hI9
      · refine pw_aload_n (q := 1208) (j := 3) C dL_law_1207 rfl rfl rfl ?_
        refine pw_iconst_n (q := 1209) C 0 dL_law_1208 (by decide +kernel) rfl ?_
        refine pw_lald (q := 1210) C dL_law_1209 hT2 (vp_in_n (by decide) (by decide)) rfl ?_
        rw [hf9 g1204]
        refine pw_iload (q := 1212) C dL_law_1210 rfl rfl ?_
        refine pw_i2l (q := 1213) C dL_law_1212 rfl ?_
        refine pw_lcmp (q := 1214) C dL_law_1213 rfl ?_
        refine pw_if_eq (q := 1217) 1219 C dL_law_1214 (by decide) rfl (fun g1214 => ?_) (fun g1214 => absurd g1214 (not_not_intro (cmp_same _)))
        refine pw_goto (q := 0) 1852 C dL_law_1219 (by decide) ?_
        exact K _ _ _ _ hI9
    · obtain ⟨⟨w, ho2, _⟩, _, _⟩ := e2
      cases ho2
  · obtain ⟨ho, _⟩ := e
    cases ho
set_option maxHeartbeats 400000 in
set_option maxRecDepth 100000 in
theorem law_18 {Γ : CX} {G : GC} {Z : State → Prop} {T : List ExceptionTableEntry} {nm : String} {b L i k n x : Nat} {xs : Nat → Int32} {M : PH} {S : St} {v5 v6 : Option Value} (C : Cx Γ G (iLaw nm) T 601024 7293034) (hN : NG Γ) (hX : SC Γ G b L xs) (hL : L ≤ 2048) (hi : 4 * i + 4 ≤ L) (hI : LI M x S i) (hkn : k + 2 ≤ 601024 ∧ n + 12 ≤ 7293034) (K : ∀ (M1 : PH) (S1 : St) (v5 v6 : Option Value), LI M1 x S1 (i + 1) → PW Γ G Z 1852 [some (.ref b), some (.ref x), some (.ref (x + 137)), some (.ref (x + 146)), some (.int (nI (4 * i))), v5, v6] [] M1 (k + 2) (n + 12)) : PW Γ G Z 1222 [some (.ref b), some (.ref x), some (.ref (x + 137)), some (.ref (x + 146)), some (.int (nI (4 * i))), v5, v6] [] M k n := by
  obtain ⟨hXr, ⟨rf, hMr⟩, hSr, ⟨f, hT⟩, hz⟩ := hI
  have hx0 := hXr.1
  refine pw_aload_n (q := 1223) (j := 1) C dL_law_1222 rfl rfl rfl ?_
  refine pw_any (cr_v (j := iX10_pay) C dL_law_1223 lL_162 mX10_pay (ro_mk (Nat.le_of_ble_eq_true rfl) (Nat.le_of_ble_eq_true rfl)) hx0 rfl (p_pay hXr hSr) rfl rfl (Nat.le_of_ble_eq_true rfl) ⟨by omega, by omega⟩) rfl (fun v M1 e => ?_) (fun E1 M1 e => ?_)
  · obtain ⟨hX1, hF1, ho⟩ := e
    have ho9 : (Sum.inl v : OC) = .inl (some (.int (((0, nI (owedAll (sP S)), wA S (payP (sP S))) : RS)).2.1)) := ho
    have hv := Sum.inl.inj ho9
    subst hv
    have hM1 : RepM M1 (x + 137) rf S := hMr.keep (fun q g1 g2 => hF1.2 q (by omega) (Or.inr (by omega)))
    have hT1 := (hF1.2 (x + 146) (by omega) (Or.inr (by omega))).trans hT
    have hz1 := hF1.1
    obtain ⟨gs, hm0⟩ := hM1.obj
    refine pw_aload_n (q := 1227) (j := 2) C dL_law_1226 rfl rfl rfl ?_
    refine pw_any (cr_v (j := iX11_pay) C dL_law_1227 lL_165 mX11_pay (ro_mk (Nat.le_of_ble_eq_true rfl) (Nat.le_of_ble_eq_true rfl)) hm0 rfl (c_pay hM1 hXr.mb hSr) rfl rfl (Nat.le_of_ble_eq_true rfl) ⟨by omega, by omega⟩) rfl (fun v2 M2 e2 => ?_) (fun E2 M2 e2 => ?_)
    · obtain ⟨⟨w, ho2, hw⟩, hM2, hs2⟩ := e2
      have hv2 := Sum.inl.inj ho2
      subst hv2
      have hT2 := (hs2.2 (x + 146) (Or.inr (by omega))).trans hT1
      have hX2 := hX1.keep (Nat.le_of_eq hs2.1.symm) (fun q g1 g2 => hs2.2 q (Or.inl (by omega)))
      have hI9 : LI M2 x (((0, nI (owedAll (sP S)), wA S (payP (sP S))) : RS)).2.2 (i + 1) := ⟨hX2, ⟨_, hM2⟩, sv_pay hSr, ⟨f, hT2⟩, by rw [hs2.1]; omega⟩
      refine pw_icmp_eq (q := 1233) 1852 C dL_law_1230 (by decide) rfl (fun g1230 => ?_) (fun g1230 => absurd g1230 (not_not_intro (hw rfl).symm))
      exact K _ _ _ _ hI9
    · obtain ⟨⟨w, ho2, _⟩, _, _⟩ := e2
      cases ho2
  · obtain ⟨_, _, ho⟩ := e
    have ho9 : (Sum.inr E1 : OC) = .inl (some (.int (((0, nI (owedAll (sP S)), wA S (payP (sP S))) : RS)).2.1)) := ho
    cases ho9
set_option maxHeartbeats 400000 in
set_option maxRecDepth 100000 in
theorem law_19 {Γ : CX} {G : GC} {Z : State → Prop} {T : List ExceptionTableEntry} {nm : String} {b L i k n x : Nat} {xs : Nat → Int32} {M : PH} {S : St} {v5 v6 : Option Value} (C : Cx Γ G (iLaw nm) T 601024 7293034) (hN : NG Γ) (hX : SC Γ G b L xs) (hL : L ≤ 2048) (hi : 4 * i + 4 ≤ L) (hI : LI M x S i) (hkn : k + 2 ≤ 601024 ∧ n + 12 ≤ 7293034) (K : ∀ (M1 : PH) (S1 : St) (v5 v6 : Option Value), LI M1 x S1 (i + 1) → PW Γ G Z 1852 [some (.ref b), some (.ref x), some (.ref (x + 137)), some (.ref (x + 146)), some (.int (nI (4 * i))), v5, v6] [] M1 (k + 2) (n + 12)) : PW Γ G Z 1235 [some (.ref b), some (.ref x), some (.ref (x + 137)), some (.ref (x + 146)), some (.int (nI (4 * i))), v5, v6] [] M k n := by
  obtain ⟨hXr, ⟨rf, hMr⟩, hSr, ⟨f, hT⟩, hz⟩ := hI
  have hx0 := hXr.1
  by_cases h0 : xs (4 * i + 1) = 0
  · refine pw_aload_n (q := 1236) (j := 1) C dL_law_1235 rfl rfl rfl ?_
    refine pw_aload_n (q := 1237) (j := 0) C dL_law_1236 rfl rfl rfl ?_
    refine pw_iload (q := 1239) C dL_law_1237 rfl rfl ?_
    refine pw_iconst_n (q := 1240) C 1 dL_law_1239 (by decide +kernel) rfl ?_
    refine pw_iadd_n (q := 1241) C dL_law_1240 rfl ?_
    refine pw_sld (q := 1242) hX C dL_law_1241 (by omega) (by omega) rfl ?_
    refine pw_if_eq (q := 1245) 1249 C dL_law_1242 (by decide) rfl (fun g1242 => ?_) (fun g1242 => absurd g1242 (not_not_intro h0))
    refine pw_iconst_n (q := 1250) C 0 dL_law_1249 (by decide +kernel) rfl ?_
    refine pw_any (cr_v (j := iX10_nextDay) C dL_law_1250 lL_166 mX10_nextDay (ro_mk (Nat.le_of_ble_eq_true rfl) (Nat.le_of_ble_eq_true rfl)) hx0 rfl (p_nextDay hXr hSr (fr := 0) (by omega)) rfl rfl (Nat.le_of_ble_eq_true rfl) ⟨by omega, by omega⟩) rfl (fun v M1 e => ?_) (fun E1 M1 e => ?_)
    · obtain ⟨hX1, hF1, ho⟩ := e
      have ho9 : (Sum.inl v : OC) = .inl (some (.int (((0, nI (sP S 1 + 1), wA S (dayP (sP S) 0)) : RS)).2.1)) := ho
      have hv := Sum.inl.inj ho9
      subst hv
      have hM1 : RepM M1 (x + 137) rf S := hMr.keep (fun q g1 g2 => hF1.2 q (by omega) (Or.inr (by omega)))
      have hT1 := (hF1.2 (x + 146) (by omega) (Or.inr (by omega))).trans hT
      have hz1 := hF1.1
      obtain ⟨gs, hm0⟩ := hM1.obj
      refine pw_aload_n (q := 1254) (j := 2) C dL_law_1253 rfl rfl rfl ?_
      refine pw_aload_n (q := 1255) (j := 0) C dL_law_1254 rfl rfl rfl ?_
      refine pw_iload (q := 1257) C dL_law_1255 rfl rfl ?_
      refine pw_iconst_n (q := 1258) C 1 dL_law_1257 (by decide +kernel) rfl ?_
      refine pw_iadd_n (q := 1259) C dL_law_1258 rfl ?_
      refine pw_sld (q := 1260) hX C dL_law_1259 (by omega) (by omega) rfl ?_
      refine pw_if_eq (q := 1263) 1267 C dL_law_1260 (by decide) rfl (fun g1260 => ?_) (fun g1260 => absurd g1260 (not_not_intro h0))
      refine pw_iconst_n (q := 1268) C 0 dL_law_1267 (by decide +kernel) rfl ?_
      refine pw_any (cr_v (j := iX11_nextDay) C dL_law_1268 lL_170 mX11_nextDay (ro_mk (Nat.le_of_ble_eq_true rfl) (Nat.le_of_ble_eq_true rfl)) hm0 rfl (c_nextDay hM1 hXr.mb hSr (fr := 0) (by omega)) rfl rfl (Nat.le_of_ble_eq_true rfl) ⟨by omega, by omega⟩) rfl (fun v2 M2 e2 => ?_) (fun E2 M2 e2 => ?_)
      · obtain ⟨⟨w, ho2, hw⟩, hM2, hs2⟩ := e2
        have hv2 := Sum.inl.inj ho2
        subst hv2
        have hT2 := (hs2.2 (x + 146) (Or.inr (by omega))).trans hT1
        have hX2 := hX1.keep (Nat.le_of_eq hs2.1.symm) (fun q g1 g2 => hs2.2 q (Or.inl (by omega)))
        have hI9 : LI M2 x (((0, nI (sP S 1 + 1), wA S (dayP (sP S) 0)) : RS)).2.2 (i + 1) := ⟨hX2, ⟨_, hM2⟩, sv_day hSr (by omega) (by omega), ⟨f, hT2⟩, by rw [hs2.1]; omega⟩
        refine pw_icmp_eq (q := 1274) 1852 C dL_law_1271 (by decide) rfl (fun g1271 => ?_) (fun g1271 => absurd g1271 (not_not_intro (hw rfl).symm))
        exact K _ _ _ _ hI9
      · obtain ⟨⟨w, ho2, _⟩, _, _⟩ := e2
        cases ho2
    · obtain ⟨_, _, ho⟩ := e
      have ho9 : (Sum.inr E1 : OC) = .inl (some (.int (((0, nI (sP S 1 + 1), wA S (dayP (sP S) 0)) : RS)).2.1)) := ho
      cases ho9
  · refine pw_aload_n (q := 1236) (j := 1) C dL_law_1235 rfl rfl rfl ?_
    refine pw_aload_n (q := 1237) (j := 0) C dL_law_1236 rfl rfl rfl ?_
    refine pw_iload (q := 1239) C dL_law_1237 rfl rfl ?_
    refine pw_iconst_n (q := 1240) C 1 dL_law_1239 (by decide +kernel) rfl ?_
    refine pw_iadd_n (q := 1241) C dL_law_1240 rfl ?_
    refine pw_sld (q := 1242) hX C dL_law_1241 (by omega) (by omega) rfl ?_
    refine pw_if_eq (q := 1245) 1249 C dL_law_1242 (by decide) rfl (fun g1242 => absurd g1242 h0) (fun g1242 => ?_)
    refine pw_iconst_n (q := 1246) C 1 dL_law_1245 (by decide +kernel) rfl ?_
    refine pw_goto (q := 0) 1250 C dL_law_1246 (by decide) ?_
    refine pw_any (cr_v (j := iX10_nextDay) C dL_law_1250 lL_166 mX10_nextDay (ro_mk (Nat.le_of_ble_eq_true rfl) (Nat.le_of_ble_eq_true rfl)) hx0 rfl (p_nextDay hXr hSr (fr := 1) (by omega)) rfl rfl (Nat.le_of_ble_eq_true rfl) ⟨by omega, by omega⟩) rfl (fun v M1 e => ?_) (fun E1 M1 e => ?_)
    · obtain ⟨hX1, hF1, ho⟩ := e
      have ho9 : (Sum.inl v : OC) = .inl (some (.int (((0, nI (sP S 1 + 1), wA S (dayP (sP S) 1)) : RS)).2.1)) := ho
      have hv := Sum.inl.inj ho9
      subst hv
      have hM1 : RepM M1 (x + 137) rf S := hMr.keep (fun q g1 g2 => hF1.2 q (by omega) (Or.inr (by omega)))
      have hT1 := (hF1.2 (x + 146) (by omega) (Or.inr (by omega))).trans hT
      have hz1 := hF1.1
      obtain ⟨gs, hm0⟩ := hM1.obj
      refine pw_aload_n (q := 1254) (j := 2) C dL_law_1253 rfl rfl rfl ?_
      refine pw_aload_n (q := 1255) (j := 0) C dL_law_1254 rfl rfl rfl ?_
      refine pw_iload (q := 1257) C dL_law_1255 rfl rfl ?_
      refine pw_iconst_n (q := 1258) C 1 dL_law_1257 (by decide +kernel) rfl ?_
      refine pw_iadd_n (q := 1259) C dL_law_1258 rfl ?_
      refine pw_sld (q := 1260) hX C dL_law_1259 (by omega) (by omega) rfl ?_
      refine pw_if_eq (q := 1263) 1267 C dL_law_1260 (by decide) rfl (fun g1260 => absurd g1260 h0) (fun g1260 => ?_)
      refine pw_iconst_n (q := 1264) C 1 dL_law_1263 (by decide +kernel) rfl ?_
      refine pw_goto (q := 0) 1268 C dL_law_1264 (by decide) ?_
      refine pw_any (cr_v (j := iX11_nextDay) C dL_law_1268 lL_170 mX11_nextDay (ro_mk (Nat.le_of_ble_eq_true rfl) (Nat.le_of_ble_eq_true rfl)) hm0 rfl (c_nextDay hM1 hXr.mb hSr (fr := 1) (by omega)) rfl rfl (Nat.le_of_ble_eq_true rfl) ⟨by omega, by omega⟩) rfl (fun v2 M2 e2 => ?_) (fun E2 M2 e2 => ?_)
      · obtain ⟨⟨w, ho2, hw⟩, hM2, hs2⟩ := e2
        have hv2 := Sum.inl.inj ho2
        subst hv2
        have hT2 := (hs2.2 (x + 146) (Or.inr (by omega))).trans hT1
        have hX2 := hX1.keep (Nat.le_of_eq hs2.1.symm) (fun q g1 g2 => hs2.2 q (Or.inl (by omega)))
        have hI9 : LI M2 x (((0, nI (sP S 1 + 1), wA S (dayP (sP S) 1)) : RS)).2.2 (i + 1) := ⟨hX2, ⟨_, hM2⟩, sv_day hSr (by omega) (by omega), ⟨f, hT2⟩, by rw [hs2.1]; omega⟩
        refine pw_icmp_eq (q := 1274) 1852 C dL_law_1271 (by decide) rfl (fun g1271 => ?_) (fun g1271 => absurd g1271 (not_not_intro (hw rfl).symm))
        exact K _ _ _ _ hI9
      · obtain ⟨⟨w, ho2, _⟩, _, _⟩ := e2
        cases ho2
    · obtain ⟨_, _, ho⟩ := e
      have ho9 : (Sum.inr E1 : OC) = .inl (some (.int (((0, nI (sP S 1 + 1), wA S (dayP (sP S) 1)) : RS)).2.1)) := ho
      cases ho9
set_option maxHeartbeats 400000 in
set_option maxRecDepth 100000 in
theorem law_20 {Γ : CX} {G : GC} {Z : State → Prop} {T : List ExceptionTableEntry} {nm : String} {b L i k n x : Nat} {xs : Nat → Int32} {M : PH} {S : St} {v5 v6 : Option Value} (C : Cx Γ G (iLaw nm) T 601024 7293034) (hN : NG Γ) (hX : SC Γ G b L xs) (hL : L ≤ 2048) (hi : 4 * i + 4 ≤ L) (hI : LI M x S i) (hkn : k + 2 ≤ 601024 ∧ n + 12 ≤ 7293034) (K : ∀ (M1 : PH) (S1 : St) (v5 v6 : Option Value), LI M1 x S1 (i + 1) → PW Γ G Z 1852 [some (.ref b), some (.ref x), some (.ref (x + 137)), some (.ref (x + 146)), some (.int (nI (4 * i))), v5, v6] [] M1 (k + 2) (n + 12)) : PW Γ G Z 1276 [some (.ref b), some (.ref x), some (.ref (x + 137)), some (.ref (x + 146)), some (.int (nI (4 * i))), v5, v6] [] M k n := by
  obtain ⟨hXr, ⟨rf, hMr⟩, hSr, ⟨f, hT⟩, hz⟩ := hI
  have hx0 := hXr.1
  have hk9 : (spUndo S).1 ≤ _ := le_spUndo S
  refine pw_aload_n (q := 1277) (j := 1) C dL_law_1276 rfl rfl rfl ?_
  refine pw_aload_n (q := 1278) (j := 3) C dL_law_1277 rfl rfl rfl ?_
  refine pw_any (cr_shN (j := iL_undo) C hN dL_law_1278 lL_171 mL_undo (ro_mk (Nat.le_of_ble_eq_true rfl) (Nat.le_of_ble_eq_true rfl)) (l_undo (p_undo hXr hSr) (le_spUndo S) hx0 (by omega) (Or.inr (by omega)) hT) rfl rfl (Nat.le_of_ble_eq_true rfl) ⟨by omega, by omega⟩) rfl (fun v M1 e => ?_) (fun E1 M1 e => ?_)
  · obtain ⟨ho, hX1, hz1, hs1, f1, hT1, hv1⟩ := e
    have hv := Sum.inl.inj ho
    subst hv
    have hM1 : RepM M1 (x + 137) rf S := hMr.keep (fun q g1 g2 => hs1 q (by omega) (Or.inr (by omega)) (by omega))
    obtain ⟨gs, hm0⟩ := hM1.obj
    refine pw_istore (q := 1283) C dL_law_1281 rfl (Nat.le_of_ble_eq_true rfl) rfl ?_
    refine pw_aload_n (q := 1284) (j := 2) C dL_law_1283 rfl rfl rfl ?_
    refine pw_any (cr_v (j := iX11_undo) C dL_law_1284 lL_173 mX11_undo (ro_mk (Nat.le_of_ble_eq_true rfl) (Nat.le_of_ble_eq_true rfl)) hm0 rfl (c_undo hM1 hXr.mb hSr) rfl rfl (Nat.le_of_ble_eq_true rfl) ⟨by omega, by omega⟩) rfl (fun v2 M2 e2 => ?_) (fun E2 M2 e2 => ?_)
    · obtain ⟨⟨w, ho2, hw⟩, hM2, hs2⟩ := e2
      have hv2 := Sum.inl.inj ho2
      subst hv2
      obtain ⟨gs2, hm2⟩ := hM2.obj
      have hT2 := (hs2.2 (x + 146) (Or.inr (by omega))).trans hT1
      have hX2 := hX1.keep (Nat.le_of_eq hs2.1.symm) (fun q g1 g2 => hs2.2 q (Or.inl (by omega)))
      have hf9 : (spUndo S).1 = 0 → f1 (nI 0).toNatClampNeg = w.toInt64 := fun g => by rw [show (nI 0).toNatClampNeg = 0 by decide +kernel, hv1 g, hw g]
      have hI9 : LI M2 x (spUndo S).2.2 (i + 1) := ⟨hX2, ⟨_, hM2⟩, sv_undo hSr, ⟨f1, hT2⟩, by rw [hs2.1]; omega⟩
      refine pw_istore (q := 1289) C dL_law_1287 rfl (Nat.le_of_ble_eq_true rfl) rfl ?_
      refine pw_aload_n (q := 1290) (j := 2) C dL_law_1289 rfl rfl rfl ?_
      refine pw_rd (q := 1293) (cr_v (j := iX11_thrown) C dL_law_1290 lL_103 mX11_thrown (ro_mk (Nat.le_of_ble_eq_true rfl) (Nat.le_of_ble_eq_true rfl)) hm2 rfl (c_thrown hM2) rfl rfl (Nat.le_of_ble_eq_true rfl) ⟨by omega, by omega⟩) rfl ?_
      refine pw_iload (q := 1295) C dL_law_1293 rfl rfl ?_
      refine pw_icmp_eq_n (q := 1298) 1300 C dL_law_1295 (by decide) rfl (by omega) (by omega) (fun g1295 => ?_) (fun g1295 => absurd g1295 (not_not_intro rfl))
      refine pw_iload (q := 1302) C dL_law_1300 rfl rfl ?_
      refine pw_if_ne_n (q := 1305) 1317 C dL_law_1302 (by decide) rfl (by omega) (fun g1302 => ?_) (fun g1302 => ?_)
      · refine pw_goto (q := 0) 1852 C dL_law_1317 (by decide) ?_
        exact K _ _ _ _ hI9
      · refine pw_aload_n (q := 1306) (j := 3) C dL_law_1305 rfl rfl rfl ?_
        refine pw_iconst_n (q := 1307) C 0 dL_law_1306 (by decide +kernel) rfl ?_
        refine pw_lald (q := 1308) C dL_law_1307 hT2 (vp_in_n (by decide) (by decide)) rfl ?_
        rw [hf9 g1302]
        refine pw_iload (q := 1310) C dL_law_1308 rfl rfl ?_
        refine pw_i2l (q := 1311) C dL_law_1310 rfl ?_
        refine pw_lcmp (q := 1312) C dL_law_1311 rfl ?_
        refine pw_if_eq (q := 1315) 1317 C dL_law_1312 (by decide) rfl (fun g1312 => ?_) (fun g1312 => absurd g1312 (not_not_intro (cmp_same _)))
        refine pw_goto (q := 0) 1852 C dL_law_1317 (by decide) ?_
        exact K _ _ _ _ hI9
    · obtain ⟨⟨w, ho2, _⟩, _, _⟩ := e2
      cases ho2
  · obtain ⟨ho, _⟩ := e
    cases ho
set_option maxHeartbeats 400000 in
set_option maxRecDepth 100000 in
theorem law_21 {Γ : CX} {G : GC} {Z : State → Prop} {T : List ExceptionTableEntry} {nm : String} {b L i k n x : Nat} {xs : Nat → Int32} {M : PH} {S : St} {v5 v6 : Option Value} (C : Cx Γ G (iLaw nm) T 601024 7293034) (hN : NG Γ) (hX : SC Γ G b L xs) (hL : L ≤ 2048) (hi : 4 * i + 4 ≤ L) (hI : LI M x S i) (hkn : k + 2 ≤ 601024 ∧ n + 12 ≤ 7293034) (K : ∀ (M1 : PH) (S1 : St) (v5 v6 : Option Value), LI M1 x S1 (i + 1) → PW Γ G Z 1852 [some (.ref b), some (.ref x), some (.ref (x + 137)), some (.ref (x + 146)), some (.int (nI (4 * i))), v5, v6] [] M1 (k + 2) (n + 12)) : PW Γ G Z 1320 [some (.ref b), some (.ref x), some (.ref (x + 137)), some (.ref (x + 146)), some (.int (nI (4 * i))), v5, v6] [] M k n := by
  obtain ⟨hXr, ⟨rf, hMr⟩, hSr, ⟨f, hT⟩, hz⟩ := hI
  have hx0 := hXr.1
  have hk9 : (spRecutFor S (xs (4 * i + 1))).1 ≤ _ := le_spRecutFor S (xs (4 * i + 1))
  refine pw_aload_n (q := 1321) (j := 1) C dL_law_1320 rfl rfl rfl ?_
  refine pw_aload_n (q := 1322) (j := 0) C dL_law_1321 rfl rfl rfl ?_
  refine pw_iload (q := 1324) C dL_law_1322 rfl rfl ?_
  refine pw_iconst_n (q := 1325) C 1 dL_law_1324 (by decide +kernel) rfl ?_
  refine pw_iadd_n (q := 1326) C dL_law_1325 rfl ?_
  refine pw_sld (q := 1327) hX C dL_law_1326 (by omega) (by omega) rfl ?_
  refine pw_aload_n (q := 1328) (j := 3) C dL_law_1327 rfl rfl rfl ?_
  refine pw_any (cr_shN (j := iL_recutFor) C hN dL_law_1328 lL_174 mL_recutFor (ro_mk (Nat.le_of_ble_eq_true rfl) (Nat.le_of_ble_eq_true rfl)) (l_recutFor (p_recutFor hXr hSr (xs (4 * i + 1))) (le_spRecutFor S (xs (4 * i + 1))) hx0 (by omega) (Or.inr (by omega)) hT) rfl rfl (Nat.le_of_ble_eq_true rfl) ⟨by omega, by omega⟩) rfl (fun v M1 e => ?_) (fun E1 M1 e => ?_)
  · obtain ⟨ho, hX1, hz1, hs1, f1, hT1, hv1⟩ := e
    have hv := Sum.inl.inj ho
    subst hv
    have hM1 : RepM M1 (x + 137) rf S := hMr.keep (fun q g1 g2 => hs1 q (by omega) (Or.inr (by omega)) (by omega))
    obtain ⟨gs, hm0⟩ := hM1.obj
    refine pw_istore (q := 1333) C dL_law_1331 rfl (Nat.le_of_ble_eq_true rfl) rfl ?_
    refine pw_aload_n (q := 1334) (j := 2) C dL_law_1333 rfl rfl rfl ?_
    refine pw_aload_n (q := 1335) (j := 0) C dL_law_1334 rfl rfl rfl ?_
    refine pw_iload (q := 1337) C dL_law_1335 rfl rfl ?_
    refine pw_iconst_n (q := 1338) C 1 dL_law_1337 (by decide +kernel) rfl ?_
    refine pw_iadd_n (q := 1339) C dL_law_1338 rfl ?_
    refine pw_sld (q := 1340) hX C dL_law_1339 (by omega) (by omega) rfl ?_
    refine pw_any (cr_v (j := iX11_recutFor) C dL_law_1340 lL_176 mX11_recutFor (ro_mk (Nat.le_of_ble_eq_true rfl) (Nat.le_of_ble_eq_true rfl)) hm0 rfl (c_recutFor hM1 hXr.mb hSr (xs (4 * i + 1))) rfl rfl (Nat.le_of_ble_eq_true rfl) ⟨by omega, by omega⟩) rfl (fun v2 M2 e2 => ?_) (fun E2 M2 e2 => ?_)
    · obtain ⟨⟨w, ho2, hw⟩, hM2, hs2⟩ := e2
      have hv2 := Sum.inl.inj ho2
      subst hv2
      obtain ⟨gs2, hm2⟩ := hM2.obj
      have hT2 := (hs2.2 (x + 146) (Or.inr (by omega))).trans hT1
      have hX2 := hX1.keep (Nat.le_of_eq hs2.1.symm) (fun q g1 g2 => hs2.2 q (Or.inl (by omega)))
      have hf9 : (spRecutFor S (xs (4 * i + 1))).1 = 0 → f1 (nI 0).toNatClampNeg = w.toInt64 := fun g => by rw [show (nI 0).toNatClampNeg = 0 by decide +kernel, hv1 g, hw g]
      have hI9 : LI M2 x (spRecutFor S (xs (4 * i + 1))).2.2 (i + 1) := ⟨hX2, ⟨_, hM2⟩, sv_spRecutFor hSr (xs (4 * i + 1)), ⟨f1, hT2⟩, by rw [hs2.1]; omega⟩
      refine pw_istore (q := 1345) C dL_law_1343 rfl (Nat.le_of_ble_eq_true rfl) rfl ?_
      refine pw_aload_n (q := 1346) (j := 2) C dL_law_1345 rfl rfl rfl ?_
      refine pw_rd (q := 1349) (cr_v (j := iX11_thrown) C dL_law_1346 lL_103 mX11_thrown (ro_mk (Nat.le_of_ble_eq_true rfl) (Nat.le_of_ble_eq_true rfl)) hm2 rfl (c_thrown hM2) rfl rfl (Nat.le_of_ble_eq_true rfl) ⟨by omega, by omega⟩) rfl ?_
      refine pw_iload (q := 1351) C dL_law_1349 rfl rfl ?_
      refine pw_icmp_eq_n (q := 1354) 1356 C dL_law_1351 (by decide) rfl (by omega) (by omega) (fun g1351 => ?_) (fun g1351 => absurd g1351 (not_not_intro rfl))
      refine pw_iload (q := 1358) C dL_law_1356 rfl rfl ?_
      refine pw_if_ne_n (q := 1361) 1373 C dL_law_1358 (by decide) rfl (by omega) (fun g1358 => ?_) (fun g1358 => ?_)
      · refine pw_goto (q := 0) 1852 C dL_law_1373 (by decide) ?_
        exact K _ _ _ _ hI9
      · refine pw_aload_n (q := 1362) (j := 3) C dL_law_1361 rfl rfl rfl ?_
        refine pw_iconst_n (q := 1363) C 0 dL_law_1362 (by decide +kernel) rfl ?_
        refine pw_lald (q := 1364) C dL_law_1363 hT2 (vp_in_n (by decide) (by decide)) rfl ?_
        rw [hf9 g1358]
        refine pw_iload (q := 1366) C dL_law_1364 rfl rfl ?_
        refine pw_i2l (q := 1367) C dL_law_1366 rfl ?_
        refine pw_lcmp (q := 1368) C dL_law_1367 rfl ?_
        refine pw_if_eq (q := 1371) 1373 C dL_law_1368 (by decide) rfl (fun g1368 => ?_) (fun g1368 => absurd g1368 (not_not_intro (cmp_same _)))
        refine pw_goto (q := 0) 1852 C dL_law_1373 (by decide) ?_
        exact K _ _ _ _ hI9
    · obtain ⟨⟨w, ho2, _⟩, _, _⟩ := e2
      cases ho2
  · obtain ⟨ho, _⟩ := e
    cases ho
set_option maxHeartbeats 400000 in
set_option maxRecDepth 100000 in
theorem law_22 {Γ : CX} {G : GC} {Z : State → Prop} {T : List ExceptionTableEntry} {nm : String} {b L i k n x : Nat} {xs : Nat → Int32} {M : PH} {S : St} {v5 v6 : Option Value} (C : Cx Γ G (iLaw nm) T 601024 7293034) (hN : NG Γ) (hX : SC Γ G b L xs) (hL : L ≤ 2048) (hi : 4 * i + 4 ≤ L) (hI : LI M x S i) (hkn : k + 2 ≤ 601024 ∧ n + 12 ≤ 7293034) (K : ∀ (M1 : PH) (S1 : St) (v5 v6 : Option Value), LI M1 x S1 (i + 1) → PW Γ G Z 1852 [some (.ref b), some (.ref x), some (.ref (x + 137)), some (.ref (x + 146)), some (.int (nI (4 * i))), v5, v6] [] M1 (k + 2) (n + 12)) : PW Γ G Z 1376 [some (.ref b), some (.ref x), some (.ref (x + 137)), some (.ref (x + 146)), some (.int (nI (4 * i))), v5, v6] [] M k n := by
  obtain ⟨hXr, ⟨rf, hMr⟩, hSr, ⟨f, hT⟩, hz⟩ := hI
  have hx0 := hXr.1
  have hk9 : (spCheapest S (xs (4 * i + 1))).1 ≤ _ := le_spCheapest S (xs (4 * i + 1))
  refine pw_aload_n (q := 1377) (j := 1) C dL_law_1376 rfl rfl rfl ?_
  refine pw_aload_n (q := 1378) (j := 0) C dL_law_1377 rfl rfl rfl ?_
  refine pw_iload (q := 1380) C dL_law_1378 rfl rfl ?_
  refine pw_iconst_n (q := 1381) C 1 dL_law_1380 (by decide +kernel) rfl ?_
  refine pw_iadd_n (q := 1382) C dL_law_1381 rfl ?_
  refine pw_sld (q := 1383) hX C dL_law_1382 (by omega) (by omega) rfl ?_
  refine pw_aload_n (q := 1384) (j := 3) C dL_law_1383 rfl rfl rfl ?_
  refine pw_any (cr_shN (j := iL_cheapest) C hN dL_law_1384 lL_177 mL_cheapest (ro_mk (Nat.le_of_ble_eq_true rfl) (Nat.le_of_ble_eq_true rfl)) (l_cheapest (p_cheapest hXr hSr (xs (4 * i + 1))) (le_spCheapest S (xs (4 * i + 1))) hx0 (by omega) (Or.inr (by omega)) hT) rfl rfl (Nat.le_of_ble_eq_true rfl) ⟨by omega, by omega⟩) rfl (fun v M1 e => ?_) (fun E1 M1 e => ?_)
  · obtain ⟨ho, hX1, hz1, hs1, f1, hT1, hv1⟩ := e
    have hv := Sum.inl.inj ho
    subst hv
    have hM1 : RepM M1 (x + 137) rf S := hMr.keep (fun q g1 g2 => hs1 q (by omega) (Or.inr (by omega)) (by omega))
    obtain ⟨gs, hm0⟩ := hM1.obj
    refine pw_istore (q := 1389) C dL_law_1387 rfl (Nat.le_of_ble_eq_true rfl) rfl ?_
    refine pw_aload_n (q := 1390) (j := 2) C dL_law_1389 rfl rfl rfl ?_
    refine pw_aload_n (q := 1391) (j := 0) C dL_law_1390 rfl rfl rfl ?_
    refine pw_iload (q := 1393) C dL_law_1391 rfl rfl ?_
    refine pw_iconst_n (q := 1394) C 1 dL_law_1393 (by decide +kernel) rfl ?_
    refine pw_iadd_n (q := 1395) C dL_law_1394 rfl ?_
    refine pw_sld (q := 1396) hX C dL_law_1395 (by omega) (by omega) rfl ?_
    refine pw_any (cr_v (j := iX11_cheapest) C dL_law_1396 lL_179 mX11_cheapest (ro_mk (Nat.le_of_ble_eq_true rfl) (Nat.le_of_ble_eq_true rfl)) hm0 rfl (c_cheapest hM1 hXr.mb hSr (xs (4 * i + 1))) rfl rfl (Nat.le_of_ble_eq_true rfl) ⟨by omega, by omega⟩) rfl (fun v2 M2 e2 => ?_) (fun E2 M2 e2 => ?_)
    · obtain ⟨⟨w, ho2, hw⟩, hM2, hs2⟩ := e2
      have hv2 := Sum.inl.inj ho2
      subst hv2
      obtain ⟨gs2, hm2⟩ := hM2.obj
      have hT2 := (hs2.2 (x + 146) (Or.inr (by omega))).trans hT1
      have hX2 := hX1.keep (Nat.le_of_eq hs2.1.symm) (fun q g1 g2 => hs2.2 q (Or.inl (by omega)))
      have hf9 : (spCheapest S (xs (4 * i + 1))).1 = 0 → f1 (nI 0).toNatClampNeg = w.toInt64 := fun g => by rw [show (nI 0).toNatClampNeg = 0 by decide +kernel, hv1 g, hw g]
      have hI9 : LI M2 x (spCheapest S (xs (4 * i + 1))).2.2 (i + 1) := ⟨hX2, ⟨_, hM2⟩, sv_spCheapest hSr (xs (4 * i + 1)), ⟨f1, hT2⟩, by rw [hs2.1]; omega⟩
      refine pw_istore (q := 1401) C dL_law_1399 rfl (Nat.le_of_ble_eq_true rfl) rfl ?_
      refine pw_aload_n (q := 1402) (j := 2) C dL_law_1401 rfl rfl rfl ?_
      refine pw_rd (q := 1405) (cr_v (j := iX11_thrown) C dL_law_1402 lL_103 mX11_thrown (ro_mk (Nat.le_of_ble_eq_true rfl) (Nat.le_of_ble_eq_true rfl)) hm2 rfl (c_thrown hM2) rfl rfl (Nat.le_of_ble_eq_true rfl) ⟨by omega, by omega⟩) rfl ?_
      refine pw_iload (q := 1407) C dL_law_1405 rfl rfl ?_
      refine pw_icmp_eq_n (q := 1410) 1412 C dL_law_1407 (by decide) rfl (by omega) (by omega) (fun g1407 => ?_) (fun g1407 => absurd g1407 (not_not_intro rfl))
      refine pw_iload (q := 1414) C dL_law_1412 rfl rfl ?_
      refine pw_if_ne_n (q := 1417) 1429 C dL_law_1414 (by decide) rfl (by omega) (fun g1414 => ?_) (fun g1414 => ?_)
      · refine pw_goto (q := 0) 1852 C dL_law_1429 (by decide) ?_
        exact K _ _ _ _ hI9
      · refine pw_aload_n (q := 1418) (j := 3) C dL_law_1417 rfl rfl rfl ?_
        refine pw_iconst_n (q := 1419) C 0 dL_law_1418 (by decide +kernel) rfl ?_
        refine pw_lald (q := 1420) C dL_law_1419 hT2 (vp_in_n (by decide) (by decide)) rfl ?_
        rw [hf9 g1414]
        refine pw_iload (q := 1422) C dL_law_1420 rfl rfl ?_
        refine pw_i2l (q := 1423) C dL_law_1422 rfl ?_
        refine pw_lcmp (q := 1424) C dL_law_1423 rfl ?_
        refine pw_if_eq (q := 1427) 1429 C dL_law_1424 (by decide) rfl (fun g1424 => ?_) (fun g1424 => absurd g1424 (not_not_intro (cmp_same _)))
        refine pw_goto (q := 0) 1852 C dL_law_1429 (by decide) ?_
        exact K _ _ _ _ hI9
    · obtain ⟨⟨w, ho2, _⟩, _, _⟩ := e2
      cases ho2
  · obtain ⟨ho, _⟩ := e
    cases ho
set_option maxHeartbeats 400000 in
set_option maxRecDepth 100000 in
theorem law_23 {Γ : CX} {G : GC} {Z : State → Prop} {T : List ExceptionTableEntry} {nm : String} {b L i k n x : Nat} {xs : Nat → Int32} {M : PH} {S : St} {v5 v6 : Option Value} (C : Cx Γ G (iLaw nm) T 601024 7293034) (hN : NG Γ) (hX : SC Γ G b L xs) (hL : L ≤ 2048) (hi : 4 * i + 4 ≤ L) (hI : LI M x S i) (hkn : k + 2 ≤ 601024 ∧ n + 12 ≤ 7293034) (K : ∀ (M1 : PH) (S1 : St) (v5 v6 : Option Value), LI M1 x S1 (i + 1) → PW Γ G Z 1852 [some (.ref b), some (.ref x), some (.ref (x + 137)), some (.ref (x + 146)), some (.int (nI (4 * i))), v5, v6] [] M1 (k + 2) (n + 12)) : PW Γ G Z 1432 [some (.ref b), some (.ref x), some (.ref (x + 137)), some (.ref (x + 146)), some (.int (nI (4 * i))), v5, v6] [] M k n := by
  obtain ⟨hXr, ⟨rf, hMr⟩, hSr, ⟨f, hT⟩, hz⟩ := hI
  have hx0 := hXr.1
  refine pw_aload_n (q := 1433) (j := 1) C dL_law_1432 rfl rfl rfl ?_
  refine pw_any (cr_v (j := iX10_costLeft) C dL_law_1433 lL_180 mX10_costLeft (ro_mk (Nat.le_of_ble_eq_true rfl) (Nat.le_of_ble_eq_true rfl)) hx0 rfl (p_costLeft hXr hSr) rfl rfl (Nat.le_of_ble_eq_true rfl) ⟨by omega, by omega⟩) rfl (fun v M1 e => ?_) (fun E1 M1 e => ?_)
  · obtain ⟨hX1, hF1, ho⟩ := e
    have ho9 : (Sum.inl v : OC) = .inl (some (.int (((0, cost (sP S), S) : RS)).2.1)) := ho
    have hv := Sum.inl.inj ho9
    subst hv
    have hM1 : RepM M1 (x + 137) rf S := hMr.keep (fun q g1 g2 => hF1.2 q (by omega) (Or.inr (by omega)))
    have hT1 := (hF1.2 (x + 146) (by omega) (Or.inr (by omega))).trans hT
    have hz1 := hF1.1
    obtain ⟨gs, hm0⟩ := hM1.obj
    refine pw_aload_n (q := 1437) (j := 2) C dL_law_1436 rfl rfl rfl ?_
    refine pw_any (cr_v (j := iX11_costLeft) C dL_law_1437 lL_183 mX11_costLeft (ro_mk (Nat.le_of_ble_eq_true rfl) (Nat.le_of_ble_eq_true rfl)) hm0 rfl (c_costLeft hM1 hXr.mb hSr) rfl rfl (Nat.le_of_ble_eq_true rfl) ⟨by omega, by omega⟩) rfl (fun v2 M2 e2 => ?_) (fun E2 M2 e2 => ?_)
    · obtain ⟨⟨w, ho2, hw⟩, hM2, hs2⟩ := e2
      have hv2 := Sum.inl.inj ho2
      subst hv2
      have hT2 := (hs2.2 (x + 146) (Or.inr (by omega))).trans hT1
      have hX2 := hX1.keep (Nat.le_of_eq hs2.1.symm) (fun q g1 g2 => hs2.2 q (Or.inl (by omega)))
      have hI9 : LI M2 x (((0, cost (sP S), S) : RS)).2.2 (i + 1) := ⟨hX2, ⟨_, hM2⟩, hSr.up, ⟨f, hT2⟩, by rw [hs2.1]; omega⟩
      refine pw_icmp_eq (q := 1443) 1852 C dL_law_1440 (by decide) rfl (fun g1440 => ?_) (fun g1440 => absurd g1440 (not_not_intro (hw rfl).symm))
      exact K _ _ _ _ hI9
    · obtain ⟨⟨w, ho2, _⟩, _, _⟩ := e2
      cases ho2
  · obtain ⟨_, _, ho⟩ := e
    have ho9 : (Sum.inr E1 : OC) = .inl (some (.int (((0, cost (sP S), S) : RS)).2.1)) := ho
    cases ho9
set_option maxHeartbeats 400000 in
set_option maxRecDepth 100000 in
theorem law_24 {Γ : CX} {G : GC} {Z : State → Prop} {T : List ExceptionTableEntry} {nm : String} {b L i k n x : Nat} {xs : Nat → Int32} {M : PH} {S : St} {v5 v6 : Option Value} (C : Cx Γ G (iLaw nm) T 601024 7293034) (hN : NG Γ) (hX : SC Γ G b L xs) (hL : L ≤ 2048) (hi : 4 * i + 4 ≤ L) (hI : LI M x S i) (hkn : k + 2 ≤ 601024 ∧ n + 12 ≤ 7293034) (K : ∀ (M1 : PH) (S1 : St) (v5 v6 : Option Value), LI M1 x S1 (i + 1) → PW Γ G Z 1852 [some (.ref b), some (.ref x), some (.ref (x + 137)), some (.ref (x + 146)), some (.int (nI (4 * i))), v5, v6] [] M1 (k + 2) (n + 12)) : PW Γ G Z 1445 [some (.ref b), some (.ref x), some (.ref (x + 137)), some (.ref (x + 146)), some (.int (nI (4 * i))), v5, v6] [] M k n := by
  obtain ⟨hXr, ⟨rf, hMr⟩, hSr, ⟨f, hT⟩, hz⟩ := hI
  have hx0 := hXr.1
  refine pw_aload_n (q := 1446) (j := 1) C dL_law_1445 rfl rfl rfl ?_
  refine pw_any (cr_v (j := iX10_daysLeft) C dL_law_1446 lL_184 mX10_daysLeft (ro_mk (Nat.le_of_ble_eq_true rfl) (Nat.le_of_ble_eq_true rfl)) hx0 rfl (p_daysLeft hXr hSr) rfl rfl (Nat.le_of_ble_eq_true rfl) ⟨by omega, by omega⟩) rfl (fun v M1 e => ?_) (fun E1 M1 e => ?_)
  · obtain ⟨hX1, hF1, ho⟩ := e
    have ho9 : (Sum.inl v : OC) = .inl (some (.int (((0, daysP (sP S), S) : RS)).2.1)) := ho
    have hv := Sum.inl.inj ho9
    subst hv
    have hM1 : RepM M1 (x + 137) rf S := hMr.keep (fun q g1 g2 => hF1.2 q (by omega) (Or.inr (by omega)))
    have hT1 := (hF1.2 (x + 146) (by omega) (Or.inr (by omega))).trans hT
    have hz1 := hF1.1
    obtain ⟨gs, hm0⟩ := hM1.obj
    refine pw_aload_n (q := 1450) (j := 2) C dL_law_1449 rfl rfl rfl ?_
    refine pw_any (cr_v (j := iX11_daysLeft) C dL_law_1450 lL_187 mX11_daysLeft (ro_mk (Nat.le_of_ble_eq_true rfl) (Nat.le_of_ble_eq_true rfl)) hm0 rfl (c_daysLeft hM1 hXr.mb hSr) rfl rfl (Nat.le_of_ble_eq_true rfl) ⟨by omega, by omega⟩) rfl (fun v2 M2 e2 => ?_) (fun E2 M2 e2 => ?_)
    · obtain ⟨⟨w, ho2, hw⟩, hM2, hs2⟩ := e2
      have hv2 := Sum.inl.inj ho2
      subst hv2
      have hT2 := (hs2.2 (x + 146) (Or.inr (by omega))).trans hT1
      have hX2 := hX1.keep (Nat.le_of_eq hs2.1.symm) (fun q g1 g2 => hs2.2 q (Or.inl (by omega)))
      have hI9 : LI M2 x (((0, daysP (sP S), S) : RS)).2.2 (i + 1) := ⟨hX2, ⟨_, hM2⟩, hSr.up, ⟨f, hT2⟩, by rw [hs2.1]; omega⟩
      refine pw_icmp_eq (q := 1456) 1852 C dL_law_1453 (by decide) rfl (fun g1453 => ?_) (fun g1453 => absurd g1453 (not_not_intro (hw rfl).symm))
      exact K _ _ _ _ hI9
    · obtain ⟨⟨w, ho2, _⟩, _, _⟩ := e2
      cases ho2
  · obtain ⟨_, _, ho⟩ := e
    have ho9 : (Sum.inr E1 : OC) = .inl (some (.int (((0, daysP (sP S), S) : RS)).2.1)) := ho
    cases ho9
set_option maxHeartbeats 400000 in
set_option maxRecDepth 100000 in
theorem law_25 {Γ : CX} {G : GC} {Z : State → Prop} {T : List ExceptionTableEntry} {nm : String} {b L i k n x : Nat} {xs : Nat → Int32} {M : PH} {S : St} {v5 v6 : Option Value} (C : Cx Γ G (iLaw nm) T 601024 7293034) (hN : NG Γ) (hX : SC Γ G b L xs) (hL : L ≤ 2048) (hi : 4 * i + 4 ≤ L) (hI : LI M x S i) (hkn : k + 2 ≤ 601024 ∧ n + 12 ≤ 7293034) (K : ∀ (M1 : PH) (S1 : St) (v5 v6 : Option Value), LI M1 x S1 (i + 1) → PW Γ G Z 1852 [some (.ref b), some (.ref x), some (.ref (x + 137)), some (.ref (x + 146)), some (.int (nI (4 * i))), v5, v6] [] M1 (k + 2) (n + 12)) : PW Γ G Z 1458 [some (.ref b), some (.ref x), some (.ref (x + 137)), some (.ref (x + 146)), some (.int (nI (4 * i))), v5, v6] [] M k n := by
  obtain ⟨hXr, ⟨rf, hMr⟩, hSr, ⟨f, hT⟩, hz⟩ := hI
  have hx0 := hXr.1
  refine pw_aload_n (q := 1459) (j := 1) C dL_law_1458 rfl rfl rfl ?_
  refine pw_any (cr_v (j := iX10_canSet) C dL_law_1459 lL_188 mX10_canSet (ro_mk (Nat.le_of_ble_eq_true rfl) (Nat.le_of_ble_eq_true rfl)) hx0 rfl (p_canSet hXr hSr) rfl rfl (Nat.le_of_ble_eq_true rfl) ⟨by omega, by omega⟩) rfl (fun v M1 e => ?_) (fun E1 M1 e => ?_)
  · obtain ⟨hX1, hF1, ho⟩ := e
    have ho9 : (Sum.inl v : OC) = .inl (some (.int (((0, nI (canSetN (sP S)), S) : RS)).2.1)) := ho
    have hv := Sum.inl.inj ho9
    subst hv
    have hM1 : RepM M1 (x + 137) rf S := hMr.keep (fun q g1 g2 => hF1.2 q (by omega) (Or.inr (by omega)))
    have hT1 := (hF1.2 (x + 146) (by omega) (Or.inr (by omega))).trans hT
    have hz1 := hF1.1
    obtain ⟨gs, hm0⟩ := hM1.obj
    refine pw_aload_n (q := 1463) (j := 2) C dL_law_1462 rfl rfl rfl ?_
    refine pw_any (cr_v (j := iX11_canSet) C dL_law_1463 lL_191 mX11_canSet (ro_mk (Nat.le_of_ble_eq_true rfl) (Nat.le_of_ble_eq_true rfl)) hm0 rfl (c_canSet hM1 hXr.mb hSr) rfl rfl (Nat.le_of_ble_eq_true rfl) ⟨by omega, by omega⟩) rfl (fun v2 M2 e2 => ?_) (fun E2 M2 e2 => ?_)
    · obtain ⟨⟨w, ho2, hw⟩, hM2, hs2⟩ := e2
      have hv2 := Sum.inl.inj ho2
      subst hv2
      have hT2 := (hs2.2 (x + 146) (Or.inr (by omega))).trans hT1
      have hX2 := hX1.keep (Nat.le_of_eq hs2.1.symm) (fun q g1 g2 => hs2.2 q (Or.inl (by omega)))
      have hI9 : LI M2 x (((0, nI (canSetN (sP S)), S) : RS)).2.2 (i + 1) := ⟨hX2, ⟨_, hM2⟩, hSr.up, ⟨f, hT2⟩, by rw [hs2.1]; omega⟩
      refine pw_icmp_eq (q := 1469) 1852 C dL_law_1466 (by decide) rfl (fun g1466 => ?_) (fun g1466 => absurd g1466 (not_not_intro (hw rfl).symm))
      exact K _ _ _ _ hI9
    · obtain ⟨⟨w, ho2, _⟩, _, _⟩ := e2
      cases ho2
  · obtain ⟨_, _, ho⟩ := e
    have ho9 : (Sum.inr E1 : OC) = .inl (some (.int (((0, nI (canSetN (sP S)), S) : RS)).2.1)) := ho
    cases ho9
set_option maxHeartbeats 400000 in
set_option maxRecDepth 100000 in
theorem law_26 {Γ : CX} {G : GC} {Z : State → Prop} {T : List ExceptionTableEntry} {nm : String} {b L i k n x : Nat} {xs : Nat → Int32} {M : PH} {S : St} {v5 v6 : Option Value} (C : Cx Γ G (iLaw nm) T 601024 7293034) (hN : NG Γ) (hX : SC Γ G b L xs) (hL : L ≤ 2048) (hi : 4 * i + 4 ≤ L) (hI : LI M x S i) (hkn : k + 2 ≤ 601024 ∧ n + 12 ≤ 7293034) (K : ∀ (M1 : PH) (S1 : St) (v5 v6 : Option Value), LI M1 x S1 (i + 1) → PW Γ G Z 1852 [some (.ref b), some (.ref x), some (.ref (x + 137)), some (.ref (x + 146)), some (.int (nI (4 * i))), v5, v6] [] M1 (k + 2) (n + 12)) : PW Γ G Z 1471 [some (.ref b), some (.ref x), some (.ref (x + 137)), some (.ref (x + 146)), some (.int (nI (4 * i))), v5, v6] [] M k n := by
  obtain ⟨hXr, ⟨rf, hMr⟩, hSr, ⟨f, hT⟩, hz⟩ := hI
  have hx0 := hXr.1
  have hk9 : (spEarn S (xs (4 * i + 1))).1 ≤ _ := le_spEarn S (xs (4 * i + 1))
  refine pw_aload_n (q := 1472) (j := 1) C dL_law_1471 rfl rfl rfl ?_
  refine pw_aload_n (q := 1473) (j := 0) C dL_law_1472 rfl rfl rfl ?_
  refine pw_iload (q := 1475) C dL_law_1473 rfl rfl ?_
  refine pw_iconst_n (q := 1476) C 1 dL_law_1475 (by decide +kernel) rfl ?_
  refine pw_iadd_n (q := 1477) C dL_law_1476 rfl ?_
  refine pw_sld (q := 1478) hX C dL_law_1477 (by omega) (by omega) rfl ?_
  refine pw_aload_n (q := 1479) (j := 3) C dL_law_1478 rfl rfl rfl ?_
  refine pw_any (cr_shN (j := iL_wouldEarn) C hN dL_law_1479 lL_192 mL_wouldEarn (ro_mk (Nat.le_of_ble_eq_true rfl) (Nat.le_of_ble_eq_true rfl)) (l_wouldEarn (p_wouldEarn hXr hSr (xs (4 * i + 1))) (le_spEarn S (xs (4 * i + 1))) hx0 (by omega) (Or.inr (by omega)) hT) rfl rfl (Nat.le_of_ble_eq_true rfl) ⟨by omega, by omega⟩) rfl (fun v M1 e => ?_) (fun E1 M1 e => ?_)
  · obtain ⟨ho, hX1, hz1, hs1, f1, hT1, hv1⟩ := e
    have hv := Sum.inl.inj ho
    subst hv
    have hM1 : RepM M1 (x + 137) rf S := hMr.keep (fun q g1 g2 => hs1 q (by omega) (Or.inr (by omega)) (by omega))
    obtain ⟨gs, hm0⟩ := hM1.obj
    refine pw_istore (q := 1484) C dL_law_1482 rfl (Nat.le_of_ble_eq_true rfl) rfl ?_
    refine pw_aload_n (q := 1485) (j := 2) C dL_law_1484 rfl rfl rfl ?_
    refine pw_aload_n (q := 1486) (j := 0) C dL_law_1485 rfl rfl rfl ?_
    refine pw_iload (q := 1488) C dL_law_1486 rfl rfl ?_
    refine pw_iconst_n (q := 1489) C 1 dL_law_1488 (by decide +kernel) rfl ?_
    refine pw_iadd_n (q := 1490) C dL_law_1489 rfl ?_
    refine pw_sld (q := 1491) hX C dL_law_1490 (by omega) (by omega) rfl ?_
    refine pw_any (cr_v (j := iX11_wouldEarn) C dL_law_1491 lL_194 mX11_wouldEarn (ro_mk (Nat.le_of_ble_eq_true rfl) (Nat.le_of_ble_eq_true rfl)) hm0 rfl (c_wouldEarn hM1 hXr.mb hSr (xs (4 * i + 1))) rfl rfl (Nat.le_of_ble_eq_true rfl) ⟨by omega, by omega⟩) rfl (fun v2 M2 e2 => ?_) (fun E2 M2 e2 => ?_)
    · obtain ⟨⟨w, ho2, hw⟩, hM2, hs2⟩ := e2
      have hv2 := Sum.inl.inj ho2
      subst hv2
      obtain ⟨gs2, hm2⟩ := hM2.obj
      have hT2 := (hs2.2 (x + 146) (Or.inr (by omega))).trans hT1
      have hX2 := hX1.keep (Nat.le_of_eq hs2.1.symm) (fun q g1 g2 => hs2.2 q (Or.inl (by omega)))
      have hf9 : (spEarn S (xs (4 * i + 1))).1 = 0 → f1 (nI 0).toNatClampNeg = w.toInt64 := fun g => by rw [show (nI 0).toNatClampNeg = 0 by decide +kernel, hv1 g, hw g]
      have hI9 : LI M2 x (spEarn S (xs (4 * i + 1))).2.2 (i + 1) := ⟨hX2, ⟨_, hM2⟩, sv_spEarn hSr (xs (4 * i + 1)), ⟨f1, hT2⟩, by rw [hs2.1]; omega⟩
      refine pw_istore (q := 1496) C dL_law_1494 rfl (Nat.le_of_ble_eq_true rfl) rfl ?_
      refine pw_aload_n (q := 1497) (j := 2) C dL_law_1496 rfl rfl rfl ?_
      refine pw_rd (q := 1500) (cr_v (j := iX11_thrown) C dL_law_1497 lL_103 mX11_thrown (ro_mk (Nat.le_of_ble_eq_true rfl) (Nat.le_of_ble_eq_true rfl)) hm2 rfl (c_thrown hM2) rfl rfl (Nat.le_of_ble_eq_true rfl) ⟨by omega, by omega⟩) rfl ?_
      refine pw_iload (q := 1502) C dL_law_1500 rfl rfl ?_
      refine pw_icmp_eq_n (q := 1505) 1507 C dL_law_1502 (by decide) rfl (by omega) (by omega) (fun g1502 => ?_) (fun g1502 => absurd g1502 (not_not_intro rfl))
      refine pw_iload (q := 1509) C dL_law_1507 rfl rfl ?_
      refine pw_if_ne_n (q := 1512) 1524 C dL_law_1509 (by decide) rfl (by omega) (fun g1509 => ?_) (fun g1509 => ?_)
      · refine pw_goto (q := 0) 1852 C dL_law_1524 (by decide) ?_
        exact K _ _ _ _ hI9
      · refine pw_aload_n (q := 1513) (j := 3) C dL_law_1512 rfl rfl rfl ?_
        refine pw_iconst_n (q := 1514) C 0 dL_law_1513 (by decide +kernel) rfl ?_
        refine pw_lald (q := 1515) C dL_law_1514 hT2 (vp_in_n (by decide) (by decide)) rfl ?_
        rw [hf9 g1509]
        refine pw_iload (q := 1517) C dL_law_1515 rfl rfl ?_
        refine pw_i2l (q := 1518) C dL_law_1517 rfl ?_
        refine pw_lcmp (q := 1519) C dL_law_1518 rfl ?_
        refine pw_if_eq (q := 1522) 1524 C dL_law_1519 (by decide) rfl (fun g1519 => ?_) (fun g1519 => absurd g1519 (not_not_intro (cmp_same _)))
        refine pw_goto (q := 0) 1852 C dL_law_1524 (by decide) ?_
        exact K _ _ _ _ hI9
    · obtain ⟨⟨w, ho2, _⟩, _, _⟩ := e2
      cases ho2
  · obtain ⟨ho, _⟩ := e
    cases ho
set_option maxHeartbeats 400000 in
set_option maxRecDepth 100000 in
theorem law_27 {Γ : CX} {G : GC} {Z : State → Prop} {T : List ExceptionTableEntry} {nm : String} {b L i k n x : Nat} {xs : Nat → Int32} {M : PH} {S : St} {v5 v6 : Option Value} (C : Cx Γ G (iLaw nm) T 601024 7293034) (hN : NG Γ) (hX : SC Γ G b L xs) (hL : L ≤ 2048) (hi : 4 * i + 4 ≤ L) (hI : LI M x S i) (hkn : k + 2 ≤ 601024 ∧ n + 12 ≤ 7293034) (K : ∀ (M1 : PH) (S1 : St) (v5 v6 : Option Value), LI M1 x S1 (i + 1) → PW Γ G Z 1852 [some (.ref b), some (.ref x), some (.ref (x + 137)), some (.ref (x + 146)), some (.int (nI (4 * i))), v5, v6] [] M1 (k + 2) (n + 12)) : PW Γ G Z 1527 [some (.ref b), some (.ref x), some (.ref (x + 137)), some (.ref (x + 146)), some (.int (nI (4 * i))), v5, v6] [] M k n := by
  obtain ⟨hXr, ⟨rf, hMr⟩, hSr, ⟨f, hT⟩, hz⟩ := hI
  have hx0 := hXr.1
  refine pw_aload_n (q := 1528) (j := 1) C dL_law_1527 rfl rfl rfl ?_
  refine pw_any (cr_v (j := iX10_worstMark) C dL_law_1528 lL_195 mX10_worstMark (ro_mk (Nat.le_of_ble_eq_true rfl) (Nat.le_of_ble_eq_true rfl)) hx0 rfl (p_worstMark hXr hSr) rfl rfl (Nat.le_of_ble_eq_true rfl) ⟨by omega, by omega⟩) rfl (fun v M1 e => ?_) (fun E1 M1 e => ?_)
  · obtain ⟨hX1, hF1, ho⟩ := e
    have ho9 : (Sum.inl v : OC) = .inl (some (.int (((0, optI (worstN (sP S) (sP S 6)).1, S) : RS)).2.1)) := ho
    have hv := Sum.inl.inj ho9
    subst hv
    have hM1 : RepM M1 (x + 137) rf S := hMr.keep (fun q g1 g2 => hF1.2 q (by omega) (Or.inr (by omega)))
    have hT1 := (hF1.2 (x + 146) (by omega) (Or.inr (by omega))).trans hT
    have hz1 := hF1.1
    obtain ⟨gs, hm0⟩ := hM1.obj
    refine pw_aload_n (q := 1532) (j := 2) C dL_law_1531 rfl rfl rfl ?_
    refine pw_any (cr_v (j := iX11_worstMark) C dL_law_1532 lL_198 mX11_worstMark (ro_mk (Nat.le_of_ble_eq_true rfl) (Nat.le_of_ble_eq_true rfl)) hm0 rfl (c_worstMark hM1 hXr.mb hSr) rfl rfl (Nat.le_of_ble_eq_true rfl) ⟨by omega, by omega⟩) rfl (fun v2 M2 e2 => ?_) (fun E2 M2 e2 => ?_)
    · obtain ⟨⟨w, ho2, hw⟩, hM2, hs2⟩ := e2
      have hv2 := Sum.inl.inj ho2
      subst hv2
      have hT2 := (hs2.2 (x + 146) (Or.inr (by omega))).trans hT1
      have hX2 := hX1.keep (Nat.le_of_eq hs2.1.symm) (fun q g1 g2 => hs2.2 q (Or.inl (by omega)))
      have hI9 : LI M2 x (((0, optI (worstN (sP S) (sP S 6)).1, S) : RS)).2.2 (i + 1) := ⟨hX2, ⟨_, hM2⟩, hSr.up, ⟨f, hT2⟩, by rw [hs2.1]; omega⟩
      refine pw_icmp_eq (q := 1538) 1852 C dL_law_1535 (by decide) rfl (fun g1535 => ?_) (fun g1535 => absurd g1535 (not_not_intro (hw rfl).symm))
      exact K _ _ _ _ hI9
    · obtain ⟨⟨w, ho2, _⟩, _, _⟩ := e2
      cases ho2
  · obtain ⟨_, _, ho⟩ := e
    have ho9 : (Sum.inr E1 : OC) = .inl (some (.int (((0, optI (worstN (sP S) (sP S 6)).1, S) : RS)).2.1)) := ho
    cases ho9
set_option maxHeartbeats 400000 in
set_option maxRecDepth 100000 in
theorem law_28 {Γ : CX} {G : GC} {Z : State → Prop} {T : List ExceptionTableEntry} {nm : String} {b L i k n x : Nat} {xs : Nat → Int32} {M : PH} {S : St} {v5 v6 : Option Value} (C : Cx Γ G (iLaw nm) T 601024 7293034) (hN : NG Γ) (hX : SC Γ G b L xs) (hL : L ≤ 2048) (hi : 4 * i + 4 ≤ L) (hI : LI M x S i) (hkn : k + 2 ≤ 601024 ∧ n + 12 ≤ 7293034) (K : ∀ (M1 : PH) (S1 : St) (v5 v6 : Option Value), LI M1 x S1 (i + 1) → PW Γ G Z 1852 [some (.ref b), some (.ref x), some (.ref (x + 137)), some (.ref (x + 146)), some (.int (nI (4 * i))), v5, v6] [] M1 (k + 2) (n + 12)) : PW Γ G Z 1540 [some (.ref b), some (.ref x), some (.ref (x + 137)), some (.ref (x + 146)), some (.int (nI (4 * i))), v5, v6] [] M k n := by
  obtain ⟨hXr, ⟨rf, hMr⟩, hSr, ⟨f, hT⟩, hz⟩ := hI
  have hx0 := hXr.1
  have hk9 : (spScript S (xs (4 * i + 1)) ((xs (4 * i + 2)).toInt64 <<< ((nI 32).toInt64 &&& 63) ||| (xs (4 * i + 3)).toInt64 &&& 4294967295)).1 ≤ _ := le_spScript S (xs (4 * i + 1)) ((xs (4 * i + 2)).toInt64 <<< ((nI 32).toInt64 &&& 63) ||| (xs (4 * i + 3)).toInt64 &&& 4294967295)
  refine pw_aload_n (q := 1541) (j := 1) C dL_law_1540 rfl rfl rfl ?_
  refine pw_aload_n (q := 1542) (j := 0) C dL_law_1541 rfl rfl rfl ?_
  refine pw_iload (q := 1544) C dL_law_1542 rfl rfl ?_
  refine pw_iconst_n (q := 1545) C 1 dL_law_1544 (by decide +kernel) rfl ?_
  refine pw_iadd_n (q := 1546) C dL_law_1545 rfl ?_
  refine pw_sld (q := 1547) hX C dL_law_1546 (by omega) (by omega) rfl ?_
  refine pw_aload_n (q := 1548) (j := 0) C dL_law_1547 rfl rfl rfl ?_
  refine pw_iload (q := 1550) C dL_law_1548 rfl rfl ?_
  refine pw_iconst_n (q := 1551) C 2 dL_law_1550 (by decide +kernel) rfl ?_
  refine pw_iadd_n (q := 1552) C dL_law_1551 rfl ?_
  refine pw_sld (q := 1553) hX C dL_law_1552 (by omega) (by omega) rfl ?_
  refine pw_i2l (q := 1554) C dL_law_1553 rfl ?_
  refine pw_bipush_n (q := 1556) C 32 dL_law_1554 (by decide +kernel) rfl ?_
  refine pw_lshl (q := 1557) C dL_law_1556 rfl ?_
  refine pw_aload_n (q := 1558) (j := 0) C dL_law_1557 rfl rfl rfl ?_
  refine pw_iload (q := 1560) C dL_law_1558 rfl rfl ?_
  refine pw_iconst_n (q := 1561) C 3 dL_law_1560 (by decide +kernel) rfl ?_
  refine pw_iadd_n (q := 1562) C dL_law_1561 rfl ?_
  refine pw_sld (q := 1563) hX C dL_law_1562 (by omega) (by omega) rfl ?_
  refine pw_i2l (q := 1564) C dL_law_1563 rfl ?_
  refine pw_ldc2 (q := 1567) C dL_law_1564 cgL_199 rfl ?_
  refine pw_land (q := 1568) C dL_law_1567 rfl ?_
  refine pw_lor (q := 1569) C dL_law_1568 rfl ?_
  refine pw_aload_n (q := 1570) (j := 3) C dL_law_1569 rfl rfl rfl ?_
  refine pw_any (cr_shN (j := iL_runScript) C hN dL_law_1570 lL_201 mL_runScript (ro_mk (Nat.le_of_ble_eq_true rfl) (Nat.le_of_ble_eq_true rfl)) (l_runScript (p_runScript hXr hSr (by omega) (xs (4 * i + 1)) ((xs (4 * i + 2)).toInt64 <<< ((nI 32).toInt64 &&& 63) ||| (xs (4 * i + 3)).toInt64 &&& 4294967295)) (le_spScript S (xs (4 * i + 1)) ((xs (4 * i + 2)).toInt64 <<< ((nI 32).toInt64 &&& 63) ||| (xs (4 * i + 3)).toInt64 &&& 4294967295)) hx0 (by omega) (Or.inr (by omega)) hT) rfl rfl (Nat.le_of_ble_eq_true rfl) ⟨by omega, by omega⟩) rfl (fun v M1 e => ?_) (fun E1 M1 e => ?_)
  · obtain ⟨ho, hX1, hz1, hs1, f1, hT1, hv1⟩ := e
    have hv := Sum.inl.inj ho
    subst hv
    have hM1 : RepM M1 (x + 137) rf S := hMr.keep (fun q g1 g2 => hs1 q (by omega) (Or.inr (by omega)) (by omega))
    obtain ⟨gs, hm0⟩ := hM1.obj
    refine pw_istore (q := 1575) C dL_law_1573 rfl (Nat.le_of_ble_eq_true rfl) rfl ?_
    refine pw_aload_n (q := 1576) (j := 2) C dL_law_1575 rfl rfl rfl ?_
    refine pw_aload_n (q := 1577) (j := 0) C dL_law_1576 rfl rfl rfl ?_
    refine pw_iload (q := 1579) C dL_law_1577 rfl rfl ?_
    refine pw_iconst_n (q := 1580) C 1 dL_law_1579 (by decide +kernel) rfl ?_
    refine pw_iadd_n (q := 1581) C dL_law_1580 rfl ?_
    refine pw_sld (q := 1582) hX C dL_law_1581 (by omega) (by omega) rfl ?_
    refine pw_aload_n (q := 1583) (j := 0) C dL_law_1582 rfl rfl rfl ?_
    refine pw_iload (q := 1585) C dL_law_1583 rfl rfl ?_
    refine pw_iconst_n (q := 1586) C 2 dL_law_1585 (by decide +kernel) rfl ?_
    refine pw_iadd_n (q := 1587) C dL_law_1586 rfl ?_
    refine pw_sld (q := 1588) hX C dL_law_1587 (by omega) (by omega) rfl ?_
    refine pw_i2l (q := 1589) C dL_law_1588 rfl ?_
    refine pw_bipush_n (q := 1591) C 32 dL_law_1589 (by decide +kernel) rfl ?_
    refine pw_lshl (q := 1592) C dL_law_1591 rfl ?_
    refine pw_aload_n (q := 1593) (j := 0) C dL_law_1592 rfl rfl rfl ?_
    refine pw_iload (q := 1595) C dL_law_1593 rfl rfl ?_
    refine pw_iconst_n (q := 1596) C 3 dL_law_1595 (by decide +kernel) rfl ?_
    refine pw_iadd_n (q := 1597) C dL_law_1596 rfl ?_
    refine pw_sld (q := 1598) hX C dL_law_1597 (by omega) (by omega) rfl ?_
    refine pw_i2l (q := 1599) C dL_law_1598 rfl ?_
    refine pw_ldc2 (q := 1602) C dL_law_1599 cgL_199 rfl ?_
    refine pw_land (q := 1603) C dL_law_1602 rfl ?_
    refine pw_lor (q := 1604) C dL_law_1603 rfl ?_
    refine pw_any (cr_v (j := iX11_runScript) C dL_law_1604 lL_204 mX11_runScript (ro_mk (Nat.le_of_ble_eq_true rfl) (Nat.le_of_ble_eq_true rfl)) hm0 rfl (c_runScript hM1 hXr.mb hSr (by omega) (xs (4 * i + 1)) ((xs (4 * i + 2)).toInt64 <<< ((nI 32).toInt64 &&& 63) ||| (xs (4 * i + 3)).toInt64 &&& 4294967295)) rfl rfl (Nat.le_of_ble_eq_true rfl) ⟨by omega, by omega⟩) rfl (fun v2 M2 e2 => ?_) (fun E2 M2 e2 => ?_)
    · obtain ⟨⟨w, ho2, hw⟩, hM2, hs2⟩ := e2
      have hv2 := Sum.inl.inj ho2
      subst hv2
      obtain ⟨gs2, hm2⟩ := hM2.obj
      have hT2 := (hs2.2 (x + 146) (Or.inr (by omega))).trans hT1
      have hX2 := hX1.keep (Nat.le_of_eq hs2.1.symm) (fun q g1 g2 => hs2.2 q (Or.inl (by omega)))
      have hf9 : (spScript S (xs (4 * i + 1)) ((xs (4 * i + 2)).toInt64 <<< ((nI 32).toInt64 &&& 63) ||| (xs (4 * i + 3)).toInt64 &&& 4294967295)).1 = 0 → f1 (nI 0).toNatClampNeg = w.toInt64 := fun g => by rw [show (nI 0).toNatClampNeg = 0 by decide +kernel, hv1 g, hw g]
      have hI9 : LI M2 x (spScript S (xs (4 * i + 1)) ((xs (4 * i + 2)).toInt64 <<< ((nI 32).toInt64 &&& 63) ||| (xs (4 * i + 3)).toInt64 &&& 4294967295)).2.2 (i + 1) := ⟨hX2, ⟨_, hM2⟩, sv_rd_script hSr (xs (4 * i + 1)) ((xs (4 * i + 2)).toInt64 <<< ((nI 32).toInt64 &&& 63) ||| (xs (4 * i + 3)).toInt64 &&& 4294967295), ⟨f1, hT2⟩, by rw [hs2.1]; omega⟩
      refine pw_istore (q := 1609) C dL_law_1607 rfl (Nat.le_of_ble_eq_true rfl) rfl ?_
      refine pw_aload_n (q := 1610) (j := 2) C dL_law_1609 rfl rfl rfl ?_
      refine pw_rd (q := 1613) (cr_v (j := iX11_thrown) C dL_law_1610 lL_103 mX11_thrown (ro_mk (Nat.le_of_ble_eq_true rfl) (Nat.le_of_ble_eq_true rfl)) hm2 rfl (c_thrown hM2) rfl rfl (Nat.le_of_ble_eq_true rfl) ⟨by omega, by omega⟩) rfl ?_
      refine pw_iload (q := 1615) C dL_law_1613 rfl rfl ?_
      refine pw_icmp_eq_n (q := 1618) 1620 C dL_law_1615 (by decide) rfl (by omega) (by omega) (fun g1615 => ?_) (fun g1615 => absurd g1615 (not_not_intro rfl))
      refine pw_iload (q := 1622) C dL_law_1620 rfl rfl ?_
      refine pw_if_ne_n (q := 1625) 1637 C dL_law_1622 (by decide) rfl (by omega) (fun g1622 => ?_) (fun g1622 => ?_)
      · refine pw_goto (q := 0) 1852 C dL_law_1637 (by decide) ?_
        exact K _ _ _ _ hI9
      · refine pw_aload_n (q := 1626) (j := 3) C dL_law_1625 rfl rfl rfl ?_
        refine pw_iconst_n (q := 1627) C 0 dL_law_1626 (by decide +kernel) rfl ?_
        refine pw_lald (q := 1628) C dL_law_1627 hT2 (vp_in_n (by decide) (by decide)) rfl ?_
        rw [hf9 g1622]
        refine pw_iload (q := 1630) C dL_law_1628 rfl rfl ?_
        refine pw_i2l (q := 1631) C dL_law_1630 rfl ?_
        refine pw_lcmp (q := 1632) C dL_law_1631 rfl ?_
        refine pw_if_eq (q := 1635) 1637 C dL_law_1632 (by decide) rfl (fun g1632 => ?_) (fun g1632 => absurd g1632 (not_not_intro (cmp_same _)))
        refine pw_goto (q := 0) 1852 C dL_law_1637 (by decide) ?_
        exact K _ _ _ _ hI9
    · obtain ⟨⟨w, ho2, _⟩, _, _⟩ := e2
      cases ho2
  · obtain ⟨ho, _⟩ := e
    cases ho
set_option maxHeartbeats 400000 in
set_option maxRecDepth 100000 in
theorem law_29 {Γ : CX} {G : GC} {Z : State → Prop} {T : List ExceptionTableEntry} {nm : String} {b L i k n x : Nat} {xs : Nat → Int32} {M : PH} {S : St} {v5 v6 : Option Value} (C : Cx Γ G (iLaw nm) T 601024 7293034) (hN : NG Γ) (hX : SC Γ G b L xs) (hL : L ≤ 2048) (hi : 4 * i + 4 ≤ L) (hI : LI M x S i) (hkn : k + 2 ≤ 601024 ∧ n + 12 ≤ 7293034) (K : ∀ (M1 : PH) (S1 : St) (v5 v6 : Option Value), LI M1 x S1 (i + 1) → PW Γ G Z 1852 [some (.ref b), some (.ref x), some (.ref (x + 137)), some (.ref (x + 146)), some (.int (nI (4 * i))), v5, v6] [] M1 (k + 2) (n + 12)) : PW Γ G Z 1640 [some (.ref b), some (.ref x), some (.ref (x + 137)), some (.ref (x + 146)), some (.int (nI (4 * i))), v5, v6] [] M k n := by
  obtain ⟨hXr, ⟨rf, hMr⟩, hSr, ⟨f, hT⟩, hz⟩ := hI
  have hx0 := hXr.1
  have hk9 : (spSim S ((xs (4 * i + 1)).toInt64 <<< ((nI 32).toInt64 &&& 63) ||| (xs (4 * i + 2)).toInt64 &&& 4294967295) (xs (4 * i + 3))).1 ≤ _ := le_spSim S ((xs (4 * i + 1)).toInt64 <<< ((nI 32).toInt64 &&& 63) ||| (xs (4 * i + 2)).toInt64 &&& 4294967295) (xs (4 * i + 3))
  refine pw_aload_n (q := 1641) (j := 1) C dL_law_1640 rfl rfl rfl ?_
  refine pw_aload_n (q := 1642) (j := 0) C dL_law_1641 rfl rfl rfl ?_
  refine pw_iload (q := 1644) C dL_law_1642 rfl rfl ?_
  refine pw_iconst_n (q := 1645) C 1 dL_law_1644 (by decide +kernel) rfl ?_
  refine pw_iadd_n (q := 1646) C dL_law_1645 rfl ?_
  refine pw_sld (q := 1647) hX C dL_law_1646 (by omega) (by omega) rfl ?_
  refine pw_i2l (q := 1648) C dL_law_1647 rfl ?_
  refine pw_bipush_n (q := 1650) C 32 dL_law_1648 (by decide +kernel) rfl ?_
  refine pw_lshl (q := 1651) C dL_law_1650 rfl ?_
  refine pw_aload_n (q := 1652) (j := 0) C dL_law_1651 rfl rfl rfl ?_
  refine pw_iload (q := 1654) C dL_law_1652 rfl rfl ?_
  refine pw_iconst_n (q := 1655) C 2 dL_law_1654 (by decide +kernel) rfl ?_
  refine pw_iadd_n (q := 1656) C dL_law_1655 rfl ?_
  refine pw_sld (q := 1657) hX C dL_law_1656 (by omega) (by omega) rfl ?_
  refine pw_i2l (q := 1658) C dL_law_1657 rfl ?_
  refine pw_ldc2 (q := 1661) C dL_law_1658 cgL_199 rfl ?_
  refine pw_land (q := 1662) C dL_law_1661 rfl ?_
  refine pw_lor (q := 1663) C dL_law_1662 rfl ?_
  refine pw_aload_n (q := 1664) (j := 0) C dL_law_1663 rfl rfl rfl ?_
  refine pw_iload (q := 1666) C dL_law_1664 rfl rfl ?_
  refine pw_iconst_n (q := 1667) C 3 dL_law_1666 (by decide +kernel) rfl ?_
  refine pw_iadd_n (q := 1668) C dL_law_1667 rfl ?_
  refine pw_sld (q := 1669) hX C dL_law_1668 (by omega) (by omega) rfl ?_
  refine pw_aload_n (q := 1670) (j := 3) C dL_law_1669 rfl rfl rfl ?_
  refine pw_any (cr_shN (j := iL_simulate) C hN dL_law_1670 lL_205 mL_simulate (ro_mk (Nat.le_of_ble_eq_true rfl) (Nat.le_of_ble_eq_true rfl)) (l_simulate (p_simulate hXr hSr (by omega) ((xs (4 * i + 1)).toInt64 <<< ((nI 32).toInt64 &&& 63) ||| (xs (4 * i + 2)).toInt64 &&& 4294967295) (xs (4 * i + 3))) (le_spSim S ((xs (4 * i + 1)).toInt64 <<< ((nI 32).toInt64 &&& 63) ||| (xs (4 * i + 2)).toInt64 &&& 4294967295) (xs (4 * i + 3))) hx0 (by omega) (Or.inr (by omega)) hT) rfl rfl (Nat.le_of_ble_eq_true rfl) ⟨by omega, by omega⟩) rfl (fun v M1 e => ?_) (fun E1 M1 e => ?_)
  · obtain ⟨ho, hX1, hz1, hs1, f1, hT1, hv1⟩ := e
    have hv := Sum.inl.inj ho
    subst hv
    have hM1 : RepM M1 (x + 137) rf S := hMr.keep (fun q g1 g2 => hs1 q (by omega) (Or.inr (by omega)) (by omega))
    obtain ⟨gs, hm0⟩ := hM1.obj
    refine pw_istore (q := 1675) C dL_law_1673 rfl (Nat.le_of_ble_eq_true rfl) rfl ?_
    refine pw_aload_n (q := 1676) (j := 2) C dL_law_1675 rfl rfl rfl ?_
    refine pw_aload_n (q := 1677) (j := 0) C dL_law_1676 rfl rfl rfl ?_
    refine pw_iload (q := 1679) C dL_law_1677 rfl rfl ?_
    refine pw_iconst_n (q := 1680) C 1 dL_law_1679 (by decide +kernel) rfl ?_
    refine pw_iadd_n (q := 1681) C dL_law_1680 rfl ?_
    refine pw_sld (q := 1682) hX C dL_law_1681 (by omega) (by omega) rfl ?_
    refine pw_i2l (q := 1683) C dL_law_1682 rfl ?_
    refine pw_bipush_n (q := 1685) C 32 dL_law_1683 (by decide +kernel) rfl ?_
    refine pw_lshl (q := 1686) C dL_law_1685 rfl ?_
    refine pw_aload_n (q := 1687) (j := 0) C dL_law_1686 rfl rfl rfl ?_
    refine pw_iload (q := 1689) C dL_law_1687 rfl rfl ?_
    refine pw_iconst_n (q := 1690) C 2 dL_law_1689 (by decide +kernel) rfl ?_
    refine pw_iadd_n (q := 1691) C dL_law_1690 rfl ?_
    refine pw_sld (q := 1692) hX C dL_law_1691 (by omega) (by omega) rfl ?_
    refine pw_i2l (q := 1693) C dL_law_1692 rfl ?_
    refine pw_ldc2 (q := 1696) C dL_law_1693 cgL_199 rfl ?_
    refine pw_land (q := 1697) C dL_law_1696 rfl ?_
    refine pw_lor (q := 1698) C dL_law_1697 rfl ?_
    refine pw_aload_n (q := 1699) (j := 0) C dL_law_1698 rfl rfl rfl ?_
    refine pw_iload (q := 1701) C dL_law_1699 rfl rfl ?_
    refine pw_iconst_n (q := 1702) C 3 dL_law_1701 (by decide +kernel) rfl ?_
    refine pw_iadd_n (q := 1703) C dL_law_1702 rfl ?_
    refine pw_sld (q := 1704) hX C dL_law_1703 (by omega) (by omega) rfl ?_
    refine pw_any (cr_v (j := iX11_simulate) C dL_law_1704 lL_208 mX11_simulate (ro_mk (Nat.le_of_ble_eq_true rfl) (Nat.le_of_ble_eq_true rfl)) hm0 rfl (c_simulate hM1 hXr.mb hSr (by omega) ((xs (4 * i + 1)).toInt64 <<< ((nI 32).toInt64 &&& 63) ||| (xs (4 * i + 2)).toInt64 &&& 4294967295) (xs (4 * i + 3))) rfl rfl (Nat.le_of_ble_eq_true rfl) ⟨by omega, by omega⟩) rfl (fun v2 M2 e2 => ?_) (fun E2 M2 e2 => ?_)
    · obtain ⟨⟨w, ho2, hw⟩, hM2, hs2⟩ := e2
      have hv2 := Sum.inl.inj ho2
      subst hv2
      obtain ⟨gs2, hm2⟩ := hM2.obj
      have hT2 := (hs2.2 (x + 146) (Or.inr (by omega))).trans hT1
      have hX2 := hX1.keep (Nat.le_of_eq hs2.1.symm) (fun q g1 g2 => hs2.2 q (Or.inl (by omega)))
      have hf9 : (spSim S ((xs (4 * i + 1)).toInt64 <<< ((nI 32).toInt64 &&& 63) ||| (xs (4 * i + 2)).toInt64 &&& 4294967295) (xs (4 * i + 3))).1 = 0 → f1 (nI 0).toNatClampNeg = w.toInt64 := fun g => by rw [show (nI 0).toNatClampNeg = 0 by decide +kernel, hv1 g, hw g]
      have hI9 : LI M2 x (spSim S ((xs (4 * i + 1)).toInt64 <<< ((nI 32).toInt64 &&& 63) ||| (xs (4 * i + 2)).toInt64 &&& 4294967295) (xs (4 * i + 3))).2.2 (i + 1) := ⟨hX2, ⟨_, hM2⟩, sv_rd_sim hSr ((xs (4 * i + 1)).toInt64 <<< ((nI 32).toInt64 &&& 63) ||| (xs (4 * i + 2)).toInt64 &&& 4294967295) (xs (4 * i + 3)), ⟨f1, hT2⟩, by rw [hs2.1]; omega⟩
      refine pw_istore (q := 1709) C dL_law_1707 rfl (Nat.le_of_ble_eq_true rfl) rfl ?_
      refine pw_aload_n (q := 1710) (j := 2) C dL_law_1709 rfl rfl rfl ?_
      refine pw_rd (q := 1713) (cr_v (j := iX11_thrown) C dL_law_1710 lL_103 mX11_thrown (ro_mk (Nat.le_of_ble_eq_true rfl) (Nat.le_of_ble_eq_true rfl)) hm2 rfl (c_thrown hM2) rfl rfl (Nat.le_of_ble_eq_true rfl) ⟨by omega, by omega⟩) rfl ?_
      refine pw_iload (q := 1715) C dL_law_1713 rfl rfl ?_
      refine pw_icmp_eq_n (q := 1718) 1720 C dL_law_1715 (by decide) rfl (by omega) (by omega) (fun g1715 => ?_) (fun g1715 => absurd g1715 (not_not_intro rfl))
      refine pw_iload (q := 1722) C dL_law_1720 rfl rfl ?_
      refine pw_if_ne_n (q := 1725) 1737 C dL_law_1722 (by decide) rfl (by omega) (fun g1722 => ?_) (fun g1722 => ?_)
      · refine pw_goto (q := 0) 1852 C dL_law_1737 (by decide) ?_
        exact K _ _ _ _ hI9
      · refine pw_aload_n (q := 1726) (j := 3) C dL_law_1725 rfl rfl rfl ?_
        refine pw_iconst_n (q := 1727) C 0 dL_law_1726 (by decide +kernel) rfl ?_
        refine pw_lald (q := 1728) C dL_law_1727 hT2 (vp_in_n (by decide) (by decide)) rfl ?_
        rw [hf9 g1722]
        refine pw_iload (q := 1730) C dL_law_1728 rfl rfl ?_
        refine pw_i2l (q := 1731) C dL_law_1730 rfl ?_
        refine pw_lcmp (q := 1732) C dL_law_1731 rfl ?_
        refine pw_if_eq (q := 1735) 1737 C dL_law_1732 (by decide) rfl (fun g1732 => ?_) (fun g1732 => absurd g1732 (not_not_intro (cmp_same _)))
        refine pw_goto (q := 0) 1852 C dL_law_1737 (by decide) ?_
        exact K _ _ _ _ hI9
    · obtain ⟨⟨w, ho2, _⟩, _, _⟩ := e2
      cases ho2
  · obtain ⟨ho, _⟩ := e
    cases ho
set_option maxHeartbeats 400000 in
set_option maxRecDepth 100000 in
theorem law_30 {Γ : CX} {G : GC} {Z : State → Prop} {T : List ExceptionTableEntry} {nm : String} {b L i k n x : Nat} {xs : Nat → Int32} {M : PH} {S : St} {v5 v6 : Option Value} (C : Cx Γ G (iLaw nm) T 601024 7293034) (hN : NG Γ) (hX : SC Γ G b L xs) (hL : L ≤ 2048) (hi : 4 * i + 4 ≤ L) (hI : LI M x S i) (hkn : k + 2 ≤ 601024 ∧ n + 12 ≤ 7293034) (K : ∀ (M1 : PH) (S1 : St) (v5 v6 : Option Value), LI M1 x S1 (i + 1) → PW Γ G Z 1852 [some (.ref b), some (.ref x), some (.ref (x + 137)), some (.ref (x + 146)), some (.int (nI (4 * i))), v5, v6] [] M1 (k + 2) (n + 12)) : PW Γ G Z 1740 [some (.ref b), some (.ref x), some (.ref (x + 137)), some (.ref (x + 146)), some (.int (nI (4 * i))), v5, v6] [] M k n := by
  obtain ⟨hXr, ⟨rf, hMr⟩, hSr, ⟨f, hT⟩, hz⟩ := hI
  have hx0 := hXr.1
  have hk9 : (spSave S (xs (4 * i + 1))).1 ≤ _ := le_spSave S (xs (4 * i + 1))
  refine pw_aload_n (q := 1741) (j := 1) C dL_law_1740 rfl rfl rfl ?_
  refine pw_aload_n (q := 1742) (j := 0) C dL_law_1741 rfl rfl rfl ?_
  refine pw_iload (q := 1744) C dL_law_1742 rfl rfl ?_
  refine pw_iconst_n (q := 1745) C 1 dL_law_1744 (by decide +kernel) rfl ?_
  refine pw_iadd_n (q := 1746) C dL_law_1745 rfl ?_
  refine pw_sld (q := 1747) hX C dL_law_1746 (by omega) (by omega) rfl ?_
  refine pw_aload_n (q := 1748) (j := 3) C dL_law_1747 rfl rfl rfl ?_
  refine pw_any (cr_shN (j := iL_save) C hN dL_law_1748 lL_209 mL_save (ro_mk (Nat.le_of_ble_eq_true rfl) (Nat.le_of_ble_eq_true rfl)) (l_save (p_save hXr hSr (xs (4 * i + 1))) (le_spSave S (xs (4 * i + 1))) hx0 (by omega) (Or.inr (by omega)) hT) rfl rfl (Nat.le_of_ble_eq_true rfl) ⟨by omega, by omega⟩) rfl (fun v M1 e => ?_) (fun E1 M1 e => ?_)
  · obtain ⟨ho, hX1, hz1, hs1, f1, hT1, hv1⟩ := e
    have hv := Sum.inl.inj ho
    subst hv
    have hM1 : RepM M1 (x + 137) rf S := hMr.keep (fun q g1 g2 => hs1 q (by omega) (Or.inr (by omega)) (by omega))
    obtain ⟨gs, hm0⟩ := hM1.obj
    refine pw_istore (q := 1753) C dL_law_1751 rfl (Nat.le_of_ble_eq_true rfl) rfl ?_
    refine pw_aload_n (q := 1754) (j := 2) C dL_law_1753 rfl rfl rfl ?_
    refine pw_aload_n (q := 1755) (j := 0) C dL_law_1754 rfl rfl rfl ?_
    refine pw_iload (q := 1757) C dL_law_1755 rfl rfl ?_
    refine pw_iconst_n (q := 1758) C 1 dL_law_1757 (by decide +kernel) rfl ?_
    refine pw_iadd_n (q := 1759) C dL_law_1758 rfl ?_
    refine pw_sld (q := 1760) hX C dL_law_1759 (by omega) (by omega) rfl ?_
    refine pw_any (cr_v (j := iX11_save) C dL_law_1760 lL_211 mX11_save (ro_mk (Nat.le_of_ble_eq_true rfl) (Nat.le_of_ble_eq_true rfl)) hm0 rfl (c_save hM1 hXr.mb hSr (xs (4 * i + 1))) rfl rfl (Nat.le_of_ble_eq_true rfl) ⟨by omega, by omega⟩) rfl (fun v2 M2 e2 => ?_) (fun E2 M2 e2 => ?_)
    · obtain ⟨⟨w, ho2, hw⟩, hM2, hs2⟩ := e2
      have hv2 := Sum.inl.inj ho2
      subst hv2
      obtain ⟨gs2, hm2⟩ := hM2.obj
      have hT2 := (hs2.2 (x + 146) (Or.inr (by omega))).trans hT1
      have hX2 := hX1.keep (Nat.le_of_eq hs2.1.symm) (fun q g1 g2 => hs2.2 q (Or.inl (by omega)))
      have hf9 : (spSave S (xs (4 * i + 1))).1 = 0 → f1 (nI 0).toNatClampNeg = w.toInt64 := fun g => by rw [show (nI 0).toNatClampNeg = 0 by decide +kernel, hv1 g, hw g]
      have hI9 : LI M2 x (spSave S (xs (4 * i + 1))).2.2 (i + 1) := ⟨hX2, ⟨_, hM2⟩, sv_save hSr (xs (4 * i + 1)), ⟨f1, hT2⟩, by rw [hs2.1]; omega⟩
      refine pw_istore (q := 1765) C dL_law_1763 rfl (Nat.le_of_ble_eq_true rfl) rfl ?_
      refine pw_aload_n (q := 1766) (j := 2) C dL_law_1765 rfl rfl rfl ?_
      refine pw_rd (q := 1769) (cr_v (j := iX11_thrown) C dL_law_1766 lL_103 mX11_thrown (ro_mk (Nat.le_of_ble_eq_true rfl) (Nat.le_of_ble_eq_true rfl)) hm2 rfl (c_thrown hM2) rfl rfl (Nat.le_of_ble_eq_true rfl) ⟨by omega, by omega⟩) rfl ?_
      refine pw_iload (q := 1771) C dL_law_1769 rfl rfl ?_
      refine pw_icmp_eq_n (q := 1774) 1776 C dL_law_1771 (by decide) rfl (by omega) (by omega) (fun g1771 => ?_) (fun g1771 => absurd g1771 (not_not_intro rfl))
      refine pw_iload (q := 1778) C dL_law_1776 rfl rfl ?_
      refine pw_if_ne_n (q := 1781) 1793 C dL_law_1778 (by decide) rfl (by omega) (fun g1778 => ?_) (fun g1778 => ?_)
      · refine pw_goto (q := 0) 1852 C dL_law_1793 (by decide) ?_
        exact K _ _ _ _ hI9
      · refine pw_aload_n (q := 1782) (j := 3) C dL_law_1781 rfl rfl rfl ?_
        refine pw_iconst_n (q := 1783) C 0 dL_law_1782 (by decide +kernel) rfl ?_
        refine pw_lald (q := 1784) C dL_law_1783 hT2 (vp_in_n (by decide) (by decide)) rfl ?_
        rw [hf9 g1778]
        refine pw_iload (q := 1786) C dL_law_1784 rfl rfl ?_
        refine pw_i2l (q := 1787) C dL_law_1786 rfl ?_
        refine pw_lcmp (q := 1788) C dL_law_1787 rfl ?_
        refine pw_if_eq (q := 1791) 1793 C dL_law_1788 (by decide) rfl (fun g1788 => ?_) (fun g1788 => absurd g1788 (not_not_intro (cmp_same _)))
        refine pw_goto (q := 0) 1852 C dL_law_1793 (by decide) ?_
        exact K _ _ _ _ hI9
    · obtain ⟨⟨w, ho2, _⟩, _, _⟩ := e2
      cases ho2
  · obtain ⟨ho, _⟩ := e
    cases ho
set_option maxHeartbeats 400000 in
set_option maxRecDepth 100000 in
theorem law_31 {Γ : CX} {G : GC} {Z : State → Prop} {T : List ExceptionTableEntry} {nm : String} {b L i k n x : Nat} {xs : Nat → Int32} {M : PH} {S : St} {v5 v6 : Option Value} (C : Cx Γ G (iLaw nm) T 601024 7293034) (hN : NG Γ) (hX : SC Γ G b L xs) (hL : L ≤ 2048) (hi : 4 * i + 4 ≤ L) (hI : LI M x S i) (hkn : k + 2 ≤ 601024 ∧ n + 12 ≤ 7293034) (K : ∀ (M1 : PH) (S1 : St) (v5 v6 : Option Value), LI M1 x S1 (i + 1) → PW Γ G Z 1852 [some (.ref b), some (.ref x), some (.ref (x + 137)), some (.ref (x + 146)), some (.int (nI (4 * i))), v5, v6] [] M1 (k + 2) (n + 12)) : PW Γ G Z 1796 [some (.ref b), some (.ref x), some (.ref (x + 137)), some (.ref (x + 146)), some (.int (nI (4 * i))), v5, v6] [] M k n := by
  obtain ⟨hXr, ⟨rf, hMr⟩, hSr, ⟨f, hT⟩, hz⟩ := hI
  have hx0 := hXr.1
  have hk9 : (spRestore S (xs (4 * i + 1))).1 ≤ _ := le_spRestore S (xs (4 * i + 1))
  refine pw_aload_n (q := 1797) (j := 1) C dL_law_1796 rfl rfl rfl ?_
  refine pw_aload_n (q := 1798) (j := 0) C dL_law_1797 rfl rfl rfl ?_
  refine pw_iload (q := 1800) C dL_law_1798 rfl rfl ?_
  refine pw_iconst_n (q := 1801) C 1 dL_law_1800 (by decide +kernel) rfl ?_
  refine pw_iadd_n (q := 1802) C dL_law_1801 rfl ?_
  refine pw_sld (q := 1803) hX C dL_law_1802 (by omega) (by omega) rfl ?_
  refine pw_aload_n (q := 1804) (j := 3) C dL_law_1803 rfl rfl rfl ?_
  refine pw_any (cr_shN (j := iL_restore) C hN dL_law_1804 lL_212 mL_restore (ro_mk (Nat.le_of_ble_eq_true rfl) (Nat.le_of_ble_eq_true rfl)) (l_restore (p_restore hXr hSr (xs (4 * i + 1))) (le_spRestore S (xs (4 * i + 1))) hx0 (by omega) (Or.inr (by omega)) hT) rfl rfl (Nat.le_of_ble_eq_true rfl) ⟨by omega, by omega⟩) rfl (fun v M1 e => ?_) (fun E1 M1 e => ?_)
  · obtain ⟨ho, hX1, hz1, hs1, f1, hT1, hv1⟩ := e
    have hv := Sum.inl.inj ho
    subst hv
    have hM1 : RepM M1 (x + 137) rf S := hMr.keep (fun q g1 g2 => hs1 q (by omega) (Or.inr (by omega)) (by omega))
    obtain ⟨gs, hm0⟩ := hM1.obj
    refine pw_istore (q := 1809) C dL_law_1807 rfl (Nat.le_of_ble_eq_true rfl) rfl ?_
    refine pw_aload_n (q := 1810) (j := 2) C dL_law_1809 rfl rfl rfl ?_
    refine pw_aload_n (q := 1811) (j := 0) C dL_law_1810 rfl rfl rfl ?_
    refine pw_iload (q := 1813) C dL_law_1811 rfl rfl ?_
    refine pw_iconst_n (q := 1814) C 1 dL_law_1813 (by decide +kernel) rfl ?_
    refine pw_iadd_n (q := 1815) C dL_law_1814 rfl ?_
    refine pw_sld (q := 1816) hX C dL_law_1815 (by omega) (by omega) rfl ?_
    refine pw_any (cr_v (j := iX11_restore) C dL_law_1816 lL_214 mX11_restore (ro_mk (Nat.le_of_ble_eq_true rfl) (Nat.le_of_ble_eq_true rfl)) hm0 rfl (c_restore hM1 hXr.mb hSr (xs (4 * i + 1))) rfl rfl (Nat.le_of_ble_eq_true rfl) ⟨by omega, by omega⟩) rfl (fun v2 M2 e2 => ?_) (fun E2 M2 e2 => ?_)
    · obtain ⟨⟨w, ho2, hw⟩, hM2, hs2⟩ := e2
      have hv2 := Sum.inl.inj ho2
      subst hv2
      obtain ⟨gs2, hm2⟩ := hM2.obj
      have hT2 := (hs2.2 (x + 146) (Or.inr (by omega))).trans hT1
      have hX2 := hX1.keep (Nat.le_of_eq hs2.1.symm) (fun q g1 g2 => hs2.2 q (Or.inl (by omega)))
      have hf9 : (spRestore S (xs (4 * i + 1))).1 = 0 → f1 (nI 0).toNatClampNeg = w.toInt64 := fun g => by rw [show (nI 0).toNatClampNeg = 0 by decide +kernel, hv1 g, hw g]
      have hI9 : LI M2 x (spRestore S (xs (4 * i + 1))).2.2 (i + 1) := ⟨hX2, ⟨_, hM2⟩, sv_restore hSr (xs (4 * i + 1)), ⟨f1, hT2⟩, by rw [hs2.1]; omega⟩
      refine pw_istore (q := 1821) C dL_law_1819 rfl (Nat.le_of_ble_eq_true rfl) rfl ?_
      refine pw_aload_n (q := 1822) (j := 2) C dL_law_1821 rfl rfl rfl ?_
      refine pw_rd (q := 1825) (cr_v (j := iX11_thrown) C dL_law_1822 lL_103 mX11_thrown (ro_mk (Nat.le_of_ble_eq_true rfl) (Nat.le_of_ble_eq_true rfl)) hm2 rfl (c_thrown hM2) rfl rfl (Nat.le_of_ble_eq_true rfl) ⟨by omega, by omega⟩) rfl ?_
      refine pw_iload (q := 1827) C dL_law_1825 rfl rfl ?_
      refine pw_icmp_eq_n (q := 1830) 1832 C dL_law_1827 (by decide) rfl (by omega) (by omega) (fun g1827 => ?_) (fun g1827 => absurd g1827 (not_not_intro rfl))
      refine pw_iload (q := 1834) C dL_law_1832 rfl rfl ?_
      refine pw_if_ne_n (q := 1837) 1849 C dL_law_1834 (by decide) rfl (by omega) (fun g1834 => ?_) (fun g1834 => ?_)
      · refine pw_goto (q := 0) 1852 C dL_law_1849 (by decide) ?_
        exact K _ _ _ _ hI9
      · refine pw_aload_n (q := 1838) (j := 3) C dL_law_1837 rfl rfl rfl ?_
        refine pw_iconst_n (q := 1839) C 0 dL_law_1838 (by decide +kernel) rfl ?_
        refine pw_lald (q := 1840) C dL_law_1839 hT2 (vp_in_n (by decide) (by decide)) rfl ?_
        rw [hf9 g1834]
        refine pw_iload (q := 1842) C dL_law_1840 rfl rfl ?_
        refine pw_i2l (q := 1843) C dL_law_1842 rfl ?_
        refine pw_lcmp (q := 1844) C dL_law_1843 rfl ?_
        refine pw_if_eq (q := 1847) 1849 C dL_law_1844 (by decide) rfl (fun g1844 => ?_) (fun g1844 => absurd g1844 (not_not_intro (cmp_same _)))
        refine pw_goto (q := 0) 1852 C dL_law_1849 (by decide) ?_
        exact K _ _ _ _ hI9
    · obtain ⟨⟨w, ho2, _⟩, _, _⟩ := e2
      cases ho2
  · obtain ⟨ho, _⟩ := e
    cases ho
