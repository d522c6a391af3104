/-! The law: two lodges, its rounds, its start. -/
abbrev iLaw (nm : String) : MI := (⟨RL, nm, "([I)Z"⟩, cL_law, 10, some .boolean, 15, 588)
def TwoL (M : PH) (x : Nat) (S1 S2 : St) : Prop := RepX M x S1 ∧ RepX M (x + 137) S2
theorem TwoL.o {M M1 : PH} {x : Nat} {S1 S2 S3 : St} (h : TwoL M x S1 S2) (e : RepX M1 x S3 ∧ Fr M M1 x) : TwoL M1 x S3 S2 := ⟨e.1, h.2.keep e.2.1 (fun q g1 g2 => e.2.2 q (by have := h.2.2.1; omega) (by omega))⟩
theorem TwoL.p {M M1 : PH} {x : Nat} {S1 S2 S3 : St} (h : TwoL M x S1 S2) (e : RepX M1 (x + 137) S3 ∧ Fr M M1 (x + 137)) : TwoL M1 x S1 S3 := ⟨h.1.keep e.2.1 (fun q g1 g2 => e.2.2 q (by have := h.1.2.1; omega) (by omega)), e.1⟩
theorem sim_st (S : St) (w : Int64) (c : Int32) : (spSim S w c).2.2 = S := by
  unfold spSim
  split <;> rfl
theorem a_sim {M : PH} {x D : Nat} {S : St} (hX : RepX M x S) (hS : SInv D S) (hD : D < 90000) (w : Int64) (c : Int32) : RunH iL_trySimulate hL_trySimulate [.ref x, .long w, .int c] M 2 12 (AQ M x (ans (EX xA xA xA) (spSim S w c)) S) := by
  have t := l_trySimulate (p_simulate hX hS hD w c) (le_spSim S w c) hX.1
  unfold RA at t
  rw [sim_st] at t
  exact t
set_option maxHeartbeats 1000000 in
set_option maxRecDepth 100000 in
theorem law_a {Γ : CX} {G : GC} {Z : State → Prop} {T : List ExceptionTableEntry} {nm : String} {b x k n : Nat} {M : PH} (C : Cx Γ G (iLaw nm) T 600130 7301080) {L i f : Nat} {xs : Nat → Int32} {S : St} (hXs : SC Γ G b L xs) (hL : L ≤ 260) (hi : i < 28) (hP : TwoL M x S S) (hG : SG i S) (hkn : k + 84 ≤ 600130 ∧ n + 504 ≤ 7301080) {v6 v7 v8 : Option Value} (K : ∀ (M1 : PH) (S1 : St) (v w : Nat), TwoL M1 x S1 S1 → SG (i + 1) S1 → v < 2147483648 → w < 2147483648 → PW Γ G Z 138 [some (.ref b), some (.ref x), some (.ref (x + 137)), some (.int (nI (f))), some (.int (nI (1))), some (.int (nI (i))), some (.int (nI (v))), some (.int (nI (w))), v8, none] [] M1 (k + 80 + 2 + 2) (n + 480 + 12 + 12)) : PW Γ G Z 48 [some (.ref b), some (.ref x), some (.ref (x + 137)), some (.int (nI (f))), some (.int (nI (1))), some (.int (nI (i))), v6, v7, v8, none] [] M k n := by
  obtain ⟨v, hv, hc1⟩ := v_cell (b := b) (xs := xs) (k := 1 + 2 * i) (by omega) hL
  obtain ⟨w, hw, hc2⟩ := v_cell (b := b) (xs := xs) (k := 2 + 2 * i) (by omega) hL
  obtain ⟨a, S1, hG1, hact⟩ := v_act (v := v) (w := w) hG (by omega) hv hw
  refine pw_iload (q := 50) C dL_law_48 rfl rfl ?_
  refine pw_bipush_n (q := 52) C 28 dL_law_50 (by decide +kernel) rfl ?_
  refine pw_icmp_ge_n (q := 55) 390 C dL_law_52 (by decide) rfl (by omega) (by omega) (fun g52 => absurd g52 (by omega)) (fun g52 => ?_)
  refine pw_iload (q := 57) C dL_law_55 rfl rfl ?_
  refine pw_if_eq_n (q := 60) 390 C dL_law_57 (by decide) rfl (by omega) (fun g57 => absurd g57 (by decide)) (fun g57 => ?_)
  refine pw_aload_n (q := 61) (j := 0) C dL_law_60 rfl rfl rfl ?_
  refine pw_iconst_n (q := 62) C 1 dL_law_61 (by decide +kernel) rfl ?_
  refine pw_iconst_n (q := 63) C 2 dL_law_62 (by decide +kernel) rfl ?_
  refine pw_iload (q := 65) C dL_law_63 rfl rfl ?_
  refine pw_imul_n (q := 66) C dL_law_65 rfl ?_
  refine pw_iadd_n (q := 67) C dL_law_66 rfl ?_
  refine pw_rd (q := 70) (cr_sS (j := iL_cell) C hXs dL_law_67 lL_220 mL_cell (ro_mk (Nat.le_of_ble_eq_true rfl) (Nat.le_of_ble_eq_true rfl)) (hc1 _) rfl rfl (Nat.le_of_ble_eq_true rfl) ⟨by omega, by omega⟩) rfl ?_
  refine pw_istore (q := 72) C dL_law_70 rfl (Nat.le_of_ble_eq_true rfl) rfl ?_
  refine pw_aload_n (q := 73) (j := 0) C dL_law_72 rfl rfl rfl ?_
  refine pw_iconst_n (q := 74) C 2 dL_law_73 (by decide +kernel) rfl ?_
  refine pw_iconst_n (q := 75) C 2 dL_law_74 (by decide +kernel) rfl ?_
  refine pw_iload (q := 77) C dL_law_75 rfl rfl ?_
  refine pw_imul_n (q := 78) C dL_law_77 rfl ?_
  refine pw_iadd_n (q := 79) C dL_law_78 rfl ?_
  refine pw_rd (q := 82) (cr_sS (j := iL_cell) C hXs dL_law_79 lL_220 mL_cell (ro_mk (Nat.le_of_ble_eq_true rfl) (Nat.le_of_ble_eq_true rfl)) (hc2 _) rfl rfl (Nat.le_of_ble_eq_true rfl) ⟨by omega, by omega⟩) rfl ?_
  refine pw_istore (q := 84) C dL_law_82 rfl (Nat.le_of_ble_eq_true rfl) rfl ?_
  refine pw_aload_n (q := 85) (j := 2) C dL_law_84 rfl rfl rfl ?_
  refine pw_iload (q := 87) C dL_law_85 rfl rfl ?_
  refine pw_val (q := 90) (cr_s (j := iL_fails) C dL_law_87 lL_228 mL_fails (ro_mk (Nat.le_of_ble_eq_true rfl) (Nat.le_of_ble_eq_true rfl))  (v_fails hP.2 hG (by omega) hv) rfl rfl (Nat.le_of_ble_eq_true rfl) ⟨by omega, by omega⟩) rfl (fun M87 e87 => ?_)
  have hP := hP.p e87
  refine pw_if_eq_n (q := 93) 135 C dL_law_90 (by decide) rfl (by omega) (fun g90 => absurd g90 (by decide)) (fun g90 => ?_)
  refine pw_aload_n (q := 94) (j := 1) C dL_law_93 rfl rfl rfl ?_
  refine pw_iload (q := 96) C dL_law_94 rfl rfl ?_
  refine pw_iload (q := 98) C dL_law_96 rfl rfl ?_
  refine pw_val (q := 101) (cr_s (j := iL_act) C dL_law_98 lL_231 mL_act (ro_mk (Nat.le_of_ble_eq_true rfl) (Nat.le_of_ble_eq_true rfl))  (hact _ _ hP.1) rfl rfl (Nat.le_of_ble_eq_true rfl) ⟨by omega, by omega⟩) rfl (fun M98 e98 => ?_)
  have hP := hP.o e98
  refine pw_aload_n (q := 102) (j := 2) C dL_law_101 rfl rfl rfl ?_
  refine pw_iload (q := 104) C dL_law_102 rfl rfl ?_
  refine pw_iload (q := 106) C dL_law_104 rfl rfl ?_
  refine pw_val (q := 109) (cr_s (j := iL_act) C dL_law_106 lL_231 mL_act (ro_mk (Nat.le_of_ble_eq_true rfl) (Nat.le_of_ble_eq_true rfl))  (hact _ _ hP.2) rfl rfl (Nat.le_of_ble_eq_true rfl) ⟨by omega, by omega⟩) rfl (fun M106 e106 => ?_)
  have hP := hP.p e106
  refine pw_icmp_ne (q := 112) 135 C dL_law_109 (by decide) rfl (fun g109 => absurd g109 (fun h => h rfl)) (fun g109 => ?_)
  refine pw_aload_n (q := 113) (j := 1) C dL_law_112 rfl rfl rfl ?_
  refine pw_rd (q := 116) (cr_s (j := iL_sum) C dL_law_113 lL_184 mL_sum (ro_mk (Nat.le_of_ble_eq_true rfl) (Nat.le_of_ble_eq_true rfl))  (v_sum hP.1 hG1.1) rfl rfl (Nat.le_of_ble_eq_true rfl) ⟨by omega, by omega⟩) rfl ?_
  refine pw_aload_n (q := 117) (j := 2) C dL_law_116 rfl rfl rfl ?_
  refine pw_rd (q := 120) (cr_s (j := iL_sum) C dL_law_117 lL_184 mL_sum (ro_mk (Nat.le_of_ble_eq_true rfl) (Nat.le_of_ble_eq_true rfl))  (v_sum hP.2 hG1.1) rfl rfl (Nat.le_of_ble_eq_true rfl) ⟨by omega, by omega⟩) rfl ?_
  refine pw_lcmp0 (q := 121) C dL_law_120 rfl rfl ?_
  refine pw_if_ne_n (q := 124) 135 C dL_law_121 (by decide) rfl (by omega) (fun g121 => absurd g121 (fun h => h rfl)) (fun g121 => ?_)
  refine pw_aload_n (q := 125) (j := 1) C dL_law_124 rfl rfl rfl ?_
  refine pw_rd (q := 128) (cr_s (j := iL_numbers) C dL_law_125 lL_234 mL_numbers (ro_mk (Nat.le_of_ble_eq_true rfl) (Nat.le_of_ble_eq_true rfl))  (v_numbers hP.1 hG1 (by omega)) rfl rfl (Nat.le_of_ble_eq_true rfl) ⟨by omega, by omega⟩) rfl ?_
  refine pw_if_eq_n (q := 131) 135 C dL_law_128 (by decide) rfl (by omega) (fun g128 => absurd g128 (by decide)) (fun g128 => ?_)
  refine pw_iconst_n (q := 132) C 1 dL_law_131 (by decide +kernel) rfl ?_
  refine pw_goto (q := 0) 136 C dL_law_132 (by decide) ?_
  refine pw_istore (q := 138) C dL_law_136 rfl (Nat.le_of_ble_eq_true rfl) rfl ?_
  exact K _ S1 v w hP hG1 hv hw
set_option maxHeartbeats 1000000 in
set_option maxRecDepth 100000 in
theorem law_b {Γ : CX} {G : GC} {Z : State → Prop} {T : List ExceptionTableEntry} {nm : String} {b x k n : Nat} {M : PH} (C : Cx Γ G (iLaw nm) T 600130 7301080) {i f v w D : Nat} {S : St} (hi : i < 28) (hv : v < 2147483648) (hw : w < 2147483648) (hD : D < 80000) (hP : TwoL M x S S) (hG : SG D S) (hkn : k + 384 ≤ 600130 ∧ n + 4800 ≤ 7301080) {v8 : Option Value} (K : ∀ (M1 : PH) (S1 : St), TwoL M1 x S1 S1 → SG D S1 → PW Γ G Z 248 [some (.ref b), some (.ref x), some (.ref (x + 137)), some (.int (nI (f))), some (.int (nI (1))), some (.int (nI (i))), some (.int (nI (v))), some (.int (nI (w))), v8, none] [] M1 (k + 384) (n + 4800)) : PW Γ G Z 138 [some (.ref b), some (.ref x), some (.ref (x + 137)), some (.int (nI (f))), some (.int (nI (1))), some (.int (nI (i))), some (.int (nI (v))), some (.int (nI (w))), v8, none] [] M k n := by
  have g2 := hG.sets
  have g3 := g2.earns
  have p5 : 0 < sP (earnsS (setsS S)) 5 := by have := g3.2.1.1; omega
  have b5 : sP (earnsS (setsS S)) 5 ≤ 6 := g3.1.1.1.b.2.2.1
  have hc : v / 32 % sP (earnsS (setsS S)) 5 < sP (earnsS (setsS S)) 5 := Nat.mod_lt _ p5
  have g4 := g3.cuts (c := v / 32 % sP (earnsS (setsS S)) 5)
  refine pw_iload (q := 140) C dL_law_138 rfl rfl ?_
  refine pw_iconst_n (q := 141) C 3 dL_law_140 (by decide +kernel) rfl ?_
  refine pw_irem_n (q := 142) C dL_law_141 (by omega) (by omega) (by omega) rfl ?_
  refine pw_iconst_n (q := 143) C 2 dL_law_142 (by decide +kernel) rfl ?_
  refine pw_icmp_ne_n (q := 146) 248 C dL_law_143 (by decide) rfl (by omega) (by omega) (fun g143 => ?_) (fun g143 => ?_)
  · exact pw_widen (by omega) (by omega) (K _ S hP hG)
  · refine pw_iload (q := 148) C dL_law_146 rfl rfl ?_
    refine pw_if_eq_n (q := 151) 248 C dL_law_148 (by decide) rfl (by omega) (fun g148 => absurd g148 (by decide)) (fun g148 => ?_)
    refine pw_aload_n (q := 152) (j := 1) C dL_law_151 rfl rfl rfl ?_
    refine pw_val (q := 155) (cr_s (j := iL_sets) C dL_law_152 lL_238 mL_sets (ro_mk (Nat.le_of_ble_eq_true rfl) (Nat.le_of_ble_eq_true rfl))  (v_sets hP.1 hG) rfl rfl (Nat.le_of_ble_eq_true rfl) ⟨by omega, by omega⟩) rfl (fun M152 e152 => ?_)
    have hP := hP.o e152
    refine pw_if_eq_n (q := 158) 245 C dL_law_155 (by decide) rfl (by omega) (fun g155 => absurd g155 (by decide)) (fun g155 => ?_)
    refine pw_aload_n (q := 159) (j := 2) C dL_law_158 rfl rfl rfl ?_
    refine pw_val (q := 162) (cr_s (j := iL_sets) C dL_law_159 lL_238 mL_sets (ro_mk (Nat.le_of_ble_eq_true rfl) (Nat.le_of_ble_eq_true rfl))  (v_sets hP.2 hG) rfl rfl (Nat.le_of_ble_eq_true rfl) ⟨by omega, by omega⟩) rfl (fun M159 e159 => ?_)
    have hP := hP.p e159
    refine pw_if_eq_n (q := 165) 245 C dL_law_162 (by decide) rfl (by omega) (fun g162 => absurd g162 (by decide)) (fun g162 => ?_)
    refine pw_aload_n (q := 166) (j := 1) C dL_law_165 rfl rfl rfl ?_
    refine pw_iload (q := 168) C dL_law_166 rfl rfl ?_
    refine pw_bipush_n (q := 170) C 10 dL_law_168 (by decide +kernel) rfl ?_
    refine pw_irem_n (q := 171) C dL_law_170 (by omega) (by omega) (by omega) rfl ?_
    refine pw_val (q := 174) (cr_s (j := iL_earns) C dL_law_171 lL_241 mL_earns (ro_mk (Nat.le_of_ble_eq_true rfl) (Nat.le_of_ble_eq_true rfl))  (v_earns hP.1 g2 (by omega) (by omega)) rfl rfl (Nat.le_of_ble_eq_true rfl) ⟨by omega, by omega⟩) rfl (fun M171 e171 => ?_)
    have hP := hP.o e171
    refine pw_if_eq_n (q := 177) 245 C dL_law_174 (by decide) rfl (by omega) (fun g174 => absurd g174 (by decide)) (fun g174 => ?_)
    refine pw_aload_n (q := 178) (j := 2) C dL_law_177 rfl rfl rfl ?_
    refine pw_iload (q := 180) C dL_law_178 rfl rfl ?_
    refine pw_bipush_n (q := 182) C 10 dL_law_180 (by decide +kernel) rfl ?_
    refine pw_irem_n (q := 183) C dL_law_182 (by omega) (by omega) (by omega) rfl ?_
    refine pw_val (q := 186) (cr_s (j := iL_earns) C dL_law_183 lL_241 mL_earns (ro_mk (Nat.le_of_ble_eq_true rfl) (Nat.le_of_ble_eq_true rfl))  (v_earns hP.2 g2 (by omega) (by omega)) rfl rfl (Nat.le_of_ble_eq_true rfl) ⟨by omega, by omega⟩) rfl (fun M183 e183 => ?_)
    have hP := hP.p e183
    refine pw_if_eq_n (q := 189) 245 C dL_law_186 (by decide) rfl (by omega) (fun g186 => absurd g186 (by decide)) (fun g186 => ?_)
    refine pw_aload_n (q := 190) (j := 1) C dL_law_189 rfl rfl rfl ?_
    refine pw_iload (q := 192) C dL_law_190 rfl rfl ?_
    refine pw_bipush_n (q := 194) C 32 dL_law_192 (by decide +kernel) rfl ?_
    refine pw_idiv_n (q := 195) C dL_law_194 (by omega) (by omega) (by omega) rfl ?_
    refine pw_aload_n (q := 196) (j := 1) C dL_law_195 rfl rfl rfl ?_
    refine pw_iconst_n (q := 197) C 0 dL_law_196 (by decide +kernel) rfl ?_
    refine pw_rd (q := 200) (cr_s (j := iL_about) C dL_law_197 lL_176 mL_about (ro_mk (Nat.le_of_ble_eq_true rfl) (Nat.le_of_ble_eq_true rfl))  (v_a0 (S := (earnsS (setsS S))) hP.1 g3.1) rfl rfl (Nat.le_of_ble_eq_true rfl) ⟨by omega, by omega⟩) rfl ?_
    refine pw_irem_n (q := 201) C dL_law_200 (by omega) (by omega) (by omega) rfl ?_
    refine pw_iload (q := 203) C dL_law_201 rfl rfl ?_
    refine pw_bipush_n (q := 205) C 16 dL_law_203 (by decide +kernel) rfl ?_
    refine pw_idiv_n (q := 206) C dL_law_205 (by omega) (by omega) (by omega) rfl ?_
    refine pw_bipush_n (q := 208) C 10 dL_law_206 (by decide +kernel) rfl ?_
    refine pw_irem_n (q := 209) C dL_law_208 (by omega) (by omega) (by omega) rfl ?_
    refine pw_val (q := 212) (cr_s (j := iL_cuts) C dL_law_209 lL_244 mL_cuts (ro_mk (Nat.le_of_ble_eq_true rfl) (Nat.le_of_ble_eq_true rfl))  (v_cuts hP.1 g3 hc (by omega)) rfl rfl (Nat.le_of_ble_eq_true rfl) ⟨by omega, by omega⟩) rfl (fun M209 e209 => ?_)
    have hP := hP.o e209
    refine pw_if_eq_n (q := 215) 245 C dL_law_212 (by decide) rfl (by omega) (fun g212 => absurd g212 (by decide)) (fun g212 => ?_)
    refine pw_aload_n (q := 216) (j := 2) C dL_law_215 rfl rfl rfl ?_
    refine pw_iload (q := 218) C dL_law_216 rfl rfl ?_
    refine pw_bipush_n (q := 220) C 32 dL_law_218 (by decide +kernel) rfl ?_
    refine pw_idiv_n (q := 221) C dL_law_220 (by omega) (by omega) (by omega) rfl ?_
    refine pw_aload_n (q := 222) (j := 2) C dL_law_221 rfl rfl rfl ?_
    refine pw_iconst_n (q := 223) C 0 dL_law_222 (by decide +kernel) rfl ?_
    refine pw_rd (q := 226) (cr_s (j := iL_about) C dL_law_223 lL_176 mL_about (ro_mk (Nat.le_of_ble_eq_true rfl) (Nat.le_of_ble_eq_true rfl))  (v_a0 (S := (earnsS (setsS S))) hP.2 g3.1) rfl rfl (Nat.le_of_ble_eq_true rfl) ⟨by omega, by omega⟩) rfl ?_
    refine pw_irem_n (q := 227) C dL_law_226 (by omega) (by omega) (by omega) rfl ?_
    refine pw_iload (q := 229) C dL_law_227 rfl rfl ?_
    refine pw_bipush_n (q := 231) C 16 dL_law_229 (by decide +kernel) rfl ?_
    refine pw_idiv_n (q := 232) C dL_law_231 (by omega) (by omega) (by omega) rfl ?_
    refine pw_bipush_n (q := 234) C 10 dL_law_232 (by decide +kernel) rfl ?_
    refine pw_irem_n (q := 235) C dL_law_234 (by omega) (by omega) (by omega) rfl ?_
    refine pw_val (q := 238) (cr_s (j := iL_cuts) C dL_law_235 lL_244 mL_cuts (ro_mk (Nat.le_of_ble_eq_true rfl) (Nat.le_of_ble_eq_true rfl))  (v_cuts hP.2 g3 hc (by omega)) rfl rfl (Nat.le_of_ble_eq_true rfl) ⟨by omega, by omega⟩) rfl (fun M235 e235 => ?_)
    have hP := hP.p e235
    refine pw_if_eq_n (q := 241) 245 C dL_law_238 (by decide) rfl (by omega) (fun g238 => absurd g238 (by decide)) (fun g238 => ?_)
    refine pw_iconst_n (q := 242) C 1 dL_law_241 (by decide +kernel) rfl ?_
    refine pw_goto (q := 0) 246 C dL_law_242 (by decide) ?_
    refine pw_istore (q := 248) C dL_law_246 rfl (Nat.le_of_ble_eq_true rfl) rfl ?_
    exact pw_widen (by omega) (by omega) (K _ _ hP g4)
set_option maxHeartbeats 1000000 in
set_option maxRecDepth 100000 in
theorem law_c {Γ : CX} {G : GC} {Z : State → Prop} {T : List ExceptionTableEntry} {nm : String} {b x k n : Nat} {M : PH} (C : Cx Γ G (iLaw nm) T 600130 7301080) {i f v w D : Nat} {S : St} (hi : i < 28) (hD : D < 70000) (hP : TwoL M x S S) (hG : SG D S) (hkn : k + 256 ≤ 600130 ∧ n + 3200 ≤ 7301080) {v8 : Option Value} (K : ∀ (M1 : PH) (S1 : St), TwoL M1 x S1 S1 → SG D S1 → PW Γ G Z 308 [some (.ref b), some (.ref x), some (.ref (x + 137)), some (.int (nI (f))), some (.int (nI (1))), some (.int (nI (i))), some (.int (nI (v))), some (.int (nI (w))), v8, none] [] M1 (k + 256) (n + 3200)) : PW Γ G Z 248 [some (.ref b), some (.ref x), some (.ref (x + 137)), some (.int (nI (f))), some (.int (nI (1))), some (.int (nI (i))), some (.int (nI (v))), some (.int (nI (w))), v8, none] [] M k n := by
  have g2 := hG.lacks
  have g3 := g2.trim (K := 2)
  refine pw_iload (q := 250) C dL_law_248 rfl rfl ?_
  refine pw_iconst_n (q := 251) C 4 dL_law_250 (by decide +kernel) rfl ?_
  refine pw_irem_n (q := 252) C dL_law_251 (by omega) (by omega) (by omega) rfl ?_
  refine pw_iconst_n (q := 253) C 3 dL_law_252 (by decide +kernel) rfl ?_
  refine pw_icmp_ne_n (q := 256) 308 C dL_law_253 (by decide) rfl (by omega) (by omega) (fun g253 => ?_) (fun g253 => ?_)
  · exact pw_widen (by omega) (by omega) (K _ S hP hG)
  · refine pw_iload (q := 258) C dL_law_256 rfl rfl ?_
    refine pw_if_eq_n (q := 261) 308 C dL_law_258 (by decide) rfl (by omega) (fun g258 => absurd g258 (by decide)) (fun g258 => ?_)
    refine pw_aload_n (q := 262) (j := 1) C dL_law_261 rfl rfl rfl ?_
    refine pw_val (q := 265) (cr_s (j := iL_lacks) C dL_law_262 lL_248 mL_lacks (ro_mk (Nat.le_of_ble_eq_true rfl) (Nat.le_of_ble_eq_true rfl))  (v_lacks hP.1 hG (by omega)) rfl rfl (Nat.le_of_ble_eq_true rfl) ⟨by omega, by omega⟩) rfl (fun M262 e262 => ?_)
    have hP := hP.o e262
    refine pw_if_eq_n (q := 268) 305 C dL_law_265 (by decide) rfl (by omega) (fun g265 => absurd g265 (by decide)) (fun g265 => ?_)
    refine pw_aload_n (q := 269) (j := 2) C dL_law_268 rfl rfl rfl ?_
    refine pw_val (q := 272) (cr_s (j := iL_lacks) C dL_law_269 lL_248 mL_lacks (ro_mk (Nat.le_of_ble_eq_true rfl) (Nat.le_of_ble_eq_true rfl))  (v_lacks hP.2 hG (by omega)) rfl rfl (Nat.le_of_ble_eq_true rfl) ⟨by omega, by omega⟩) rfl (fun M269 e269 => ?_)
    have hP := hP.p e269
    refine pw_if_eq_n (q := 275) 305 C dL_law_272 (by decide) rfl (by omega) (fun g272 => absurd g272 (by decide)) (fun g272 => ?_)
    refine pw_aload_n (q := 276) (j := 1) C dL_law_275 rfl rfl rfl ?_
    refine pw_val (q := 279) (cr_s (j := iL_pays) C dL_law_276 lL_251 mL_pays (ro_mk (Nat.le_of_ble_eq_true rfl) (Nat.le_of_ble_eq_true rfl))  (v_pays hP.1 g2 (by omega)) rfl rfl (Nat.le_of_ble_eq_true rfl) ⟨by omega, by omega⟩) rfl (fun M276 e276 => ?_)
    have hP := hP.o e276
    refine pw_if_eq_n (q := 282) 305 C dL_law_279 (by decide) rfl (by omega) (fun g279 => absurd g279 (by decide)) (fun g279 => ?_)
    refine pw_aload_n (q := 283) (j := 2) C dL_law_282 rfl rfl rfl ?_
    refine pw_val (q := 286) (cr_s (j := iL_pays) C dL_law_283 lL_251 mL_pays (ro_mk (Nat.le_of_ble_eq_true rfl) (Nat.le_of_ble_eq_true rfl))  (v_pays hP.2 g2 (by omega)) rfl rfl (Nat.le_of_ble_eq_true rfl) ⟨by omega, by omega⟩) rfl (fun M283 e283 => ?_)
    have hP := hP.p e283
    refine pw_if_eq_n (q := 289) 305 C dL_law_286 (by decide) rfl (by omega) (fun g286 => absurd g286 (by decide)) (fun g286 => ?_)
    refine pw_aload_n (q := 290) (j := 1) C dL_law_289 rfl rfl rfl ?_
    refine pw_rd (q := 293) (cr_s (j := iL_sum) C dL_law_290 lL_184 mL_sum (ro_mk (Nat.le_of_ble_eq_true rfl) (Nat.le_of_ble_eq_true rfl))  (v_sum hP.1 g3.1) rfl rfl (Nat.le_of_ble_eq_true rfl) ⟨by omega, by omega⟩) rfl ?_
    refine pw_aload_n (q := 294) (j := 2) C dL_law_293 rfl rfl rfl ?_
    refine pw_rd (q := 297) (cr_s (j := iL_sum) C dL_law_294 lL_184 mL_sum (ro_mk (Nat.le_of_ble_eq_true rfl) (Nat.le_of_ble_eq_true rfl))  (v_sum hP.2 g3.1) rfl rfl (Nat.le_of_ble_eq_true rfl) ⟨by omega, by omega⟩) rfl ?_
    refine pw_lcmp0 (q := 298) C dL_law_297 rfl rfl ?_
    refine pw_if_ne_n (q := 301) 305 C dL_law_298 (by decide) rfl (by omega) (fun g298 => absurd g298 (fun h => h rfl)) (fun g298 => ?_)
    refine pw_iconst_n (q := 302) C 1 dL_law_301 (by decide +kernel) rfl ?_
    refine pw_goto (q := 0) 306 C dL_law_302 (by decide) ?_
    refine pw_istore (q := 308) C dL_law_306 rfl (Nat.le_of_ble_eq_true rfl) rfl ?_
    exact pw_widen (by omega) (by omega) (K _ _ hP g3)
set_option maxHeartbeats 1000000 in
set_option maxRecDepth 100000 in
theorem law_d {Γ : CX} {G : GC} {Z : State → Prop} {T : List ExceptionTableEntry} {nm : String} {b x k n : Nat} {M : PH} (C : Cx Γ G (iLaw nm) T 600130 7301080) {i f v w D : Nat} {S : St} (hi : i < 28) (hv : v < 2147483648) (hD : D < 70000) (hP : TwoL M x S S) (hG : SG D S) (hkn : k + 4 ≤ 600130 ∧ n + 24 ≤ 7301080) {v8 : Option Value} (K : ∀ (M1 : PH) (v8 : Option Value), TwoL M1 x S S → PW Γ G Z 48 [some (.ref b), some (.ref x), some (.ref (x + 137)), some (.int (nI (f))), some (.int (nI (1))), some (.int (nI (i + 1))), some (.int (nI (v))), some (.int (nI (w))), v8, none] [] M1 (k + 4) (n + 24)) : PW Γ G Z 308 [some (.ref b), some (.ref x), some (.ref (x + 137)), some (.int (nI (f))), some (.int (nI (1))), some (.int (nI (i))), some (.int (nI (v))), some (.int (nI (w))), v8, none] [] M k n := by
  refine pw_iload (q := 310) C dL_law_308 rfl rfl ?_
  refine pw_bipush_n (q := 312) C 9 dL_law_310 (by decide +kernel) rfl ?_
  refine pw_irem_n (q := 313) C dL_law_312 (by omega) (by omega) (by omega) rfl ?_
  refine pw_bipush_n (q := 315) C 8 dL_law_313 (by decide +kernel) rfl ?_
  refine pw_icmp_ne_n (q := 318) 384 C dL_law_315 (by decide) rfl (by omega) (by omega) (fun g315 => ?_) (fun g315 => ?_)
  · refine pw_iinc_n (q := 387) C 1 dL_law_384 rfl (by decide +kernel) rfl (Nat.le_of_ble_eq_true rfl) rfl ?_
    refine pw_goto (q := 0) 48 C dL_law_387 (by decide) ?_
    exact pw_widen (by omega) (by omega) (K _ _ hP)
  · refine pw_iload (q := 320) C dL_law_318 rfl rfl ?_
    refine pw_if_eq_n (q := 323) 384 C dL_law_320 (by decide) rfl (by omega) (fun g320 => absurd g320 (by decide)) (fun g320 => ?_)
    refine pw_iload (q := 325) C dL_law_323 rfl rfl ?_
    refine pw_i2l (q := 326) C dL_law_325 rfl ?_
    refine pw_ldc2 (q := 329) C dL_law_326 cgL_254 rfl ?_
    refine pw_lmul (q := 330) C dL_law_329 rfl ?_
    refine pw_ldc2 (q := 333) C dL_law_330 cgL_256 rfl ?_
    refine pw_lsub (q := 334) C dL_law_333 rfl ?_
    refine pw_lstore (q := 336) C dL_law_334 rfl (Nat.le_of_ble_eq_true rfl) rfl ?_
    refine pw_aload_n (q := 337) (j := 1) C dL_law_336 rfl rfl rfl ?_
    refine pw_lload (q := 339) C dL_law_337 rfl rfl ?_
    refine pw_iconst_n (q := 340) C 1 dL_law_339 (by decide +kernel) rfl ?_
    refine pw_iload (q := 342) C dL_law_340 rfl rfl ?_
    refine pw_bipush_n (q := 344) C 70 dL_law_342 (by decide +kernel) rfl ?_
    refine pw_irem_n (q := 345) C dL_law_344 (by omega) (by omega) (by omega) rfl ?_
    refine pw_iadd_n (q := 346) C dL_law_345 rfl ?_
    refine pw_val (q := 349) (cr_sh (j := iL_trySimulate) C dL_law_346 lL_212 mL_trySimulate (ro_mk (Nat.le_of_ble_eq_true rfl) (Nat.le_of_ble_eq_true rfl))  (a_sim hP.1 hG.1 (by omega) _ _) rfl rfl (Nat.le_of_ble_eq_true rfl) ⟨by omega, by omega⟩) rfl (fun M346 e346 => ?_)
    have hP := hP.o e346
    refine pw_aload_n (q := 350) (j := 2) C dL_law_349 rfl rfl rfl ?_
    refine pw_lload (q := 352) C dL_law_350 rfl rfl ?_
    refine pw_iconst_n (q := 353) C 1 dL_law_352 (by decide +kernel) rfl ?_
    refine pw_iload (q := 355) C dL_law_353 rfl rfl ?_
    refine pw_bipush_n (q := 357) C 70 dL_law_355 (by decide +kernel) rfl ?_
    refine pw_irem_n (q := 358) C dL_law_357 (by omega) (by omega) (by omega) rfl ?_
    refine pw_iadd_n (q := 359) C dL_law_358 rfl ?_
    refine pw_val (q := 362) (cr_sh (j := iL_trySimulate) C dL_law_359 lL_212 mL_trySimulate (ro_mk (Nat.le_of_ble_eq_true rfl) (Nat.le_of_ble_eq_true rfl))  (a_sim hP.2 hG.1 (by omega) _ _) rfl rfl (Nat.le_of_ble_eq_true rfl) ⟨by omega, by omega⟩) rfl (fun M359 e359 => ?_)
    have hP := hP.p e359
    refine pw_icmp_ne (q := 365) 381 C dL_law_362 (by decide) rfl (fun g362 => absurd g362 (fun h => h rfl)) (fun g362 => ?_)
    refine pw_aload_n (q := 366) (j := 1) C dL_law_365 rfl rfl rfl ?_
    refine pw_rd (q := 369) (cr_s (j := iL_sum) C dL_law_366 lL_184 mL_sum (ro_mk (Nat.le_of_ble_eq_true rfl) (Nat.le_of_ble_eq_true rfl))  (v_sum hP.1 hG.1) rfl rfl (Nat.le_of_ble_eq_true rfl) ⟨by omega, by omega⟩) rfl ?_
    refine pw_aload_n (q := 370) (j := 2) C dL_law_369 rfl rfl rfl ?_
    refine pw_rd (q := 373) (cr_s (j := iL_sum) C dL_law_370 lL_184 mL_sum (ro_mk (Nat.le_of_ble_eq_true rfl) (Nat.le_of_ble_eq_true rfl))  (v_sum hP.2 hG.1) rfl rfl (Nat.le_of_ble_eq_true rfl) ⟨by omega, by omega⟩) rfl ?_
    refine pw_lcmp0 (q := 374) C dL_law_373 rfl rfl ?_
    refine pw_if_ne_n (q := 377) 381 C dL_law_374 (by decide) rfl (by omega) (fun g374 => absurd g374 (fun h => h rfl)) (fun g374 => ?_)
    refine pw_iconst_n (q := 378) C 1 dL_law_377 (by decide +kernel) rfl ?_
    refine pw_goto (q := 0) 382 C dL_law_378 (by decide) ?_
    refine pw_istore (q := 384) C dL_law_382 rfl (Nat.le_of_ble_eq_true rfl) rfl ?_
    refine pw_iinc_n (q := 387) C 1 dL_law_384 rfl (by decide +kernel) rfl (Nat.le_of_ble_eq_true rfl) rfl ?_
    refine pw_goto (q := 0) 48 C dL_law_387 (by decide) ?_
    exact pw_widen (by omega) (by omega) (K _ _ hP)
theorem law_loop {Γ : CX} {G : GC} {Z : State → Prop} {T : List ExceptionTableEntry} {nm : String} {b x : Nat} (C : Cx Γ G (iLaw nm) T 600130 7301080) {L f : Nat} {xs : Nat → Int32} (hXs : SC Γ G b L xs) (hL : L ≤ 260) (KE : ∀ (ls : LL) (M : PH) (k n : Nat), lk ls 4 = some (.int (nI 1)) → k ≤ 600130 → n ≤ 7301080 → PW Γ G Z 390 ls [] M k n) : ∀ (d i : Nat), i + d = 28 → ∀ (M : PH) (S : St) (v6 v7 v8 : Option Value), TwoL M x S S → SG i S → PW Γ G Z 48 [some (.ref b), some (.ref x), some (.ref (x + 137)), some (.int (nI (f))), some (.int (nI (1))), some (.int (nI (i))), v6, v7, v8, none] [] M (1000 + 800 * i) (20000 + 9000 * i) := by
  intro d
  induction d with
  | zero =>
    intro i hd M S v6 v7 v8 hP hG
    refine pw_iload (q := 50) C dL_law_48 rfl rfl ?_
    refine pw_bipush_n (q := 52) C 28 dL_law_50 (by decide +kernel) rfl ?_
    refine pw_icmp_ge_n (q := 55) 390 C dL_law_52 (by decide) rfl (by omega) (by omega) (fun g52 => ?_) (fun g52 => absurd g52 (by omega))
    exact KE _ _ _ _ rfl (by omega) (by omega)
  | succ d ih =>
    intro i hd M S v6 v7 v8 hP hG
    refine law_a C hXs hL (by omega) hP hG ⟨by omega, by omega⟩ (fun M1 S1 v w hP1 hG1 hv hw => ?_)
    refine law_b C (by omega) hv hw (by omega) hP1 hG1 ⟨by omega, by omega⟩ (fun M2 S2 hP2 hG2 => ?_)
    refine law_c C (by omega) (by omega) hP2 hG2 ⟨by omega, by omega⟩ (fun M3 S3 hP3 hG3 => ?_)
    refine law_d C (by omega) hv (by omega) hP3 hG3 ⟨by omega, by omega⟩ (fun M4 v8 hP4 => ?_)
    exact pw_widen (by omega) (by omega) (ih (i + 1) (by omega) M4 S3 _ _ _ hP4 hG3)
set_option maxHeartbeats 1000000 in
set_option maxRecDepth 100000 in
theorem law_start {Γ : CX} {G : GC} {Z : State → Prop} {T : List ExceptionTableEntry} {nm : String} {b x : Nat} (C : Cx Γ G (iLaw nm) T 600130 7301080) {L : Nat} {M : PH} {xs : Nat → Int32} (hXs : SC Γ G b L xs) (hL : L ≤ 260) (KE : ∀ (ls : LL) (M : PH) (k n : Nat), lk ls 4 = some (.int (nI 1)) → k ≤ 600130 → n ≤ 7301080 → PW Γ G Z 390 ls [] M k n) (hz : M.1 = x) : PW Γ G Z 0 [some (.ref b), none, none, none, none, none, none, none, none, none] [] M 0 0 := by
  refine pw_new (q := 3) C dL_law_0 nL_8 ⟨by omega, by omega⟩ rfl ?_
  subst hz
  refine pw_heap (fun M9 => M9.1 = M.1 + 1 ∧ M9.2 M.1 = some (.inr (7, [.null, .null, .null, .null, .null, .null]))) ⟨rfl, hnew_at rfl⟩ (fun M9 ⟨hz, h0⟩ => ?_)
  refine pw_dup (q := 4) C dL_law_3 rfl rfl ?_
  refine pw_void (q := 7) (cr_i (j := iX10_init) C dL_law_4 lL_219 mX10_init (ro_mk (Nat.le_of_ble_eq_true rfl) (Nat.le_of_ble_eq_true rfl)) RN.no (x_new hz h0) rfl rfl (Nat.le_of_ble_eq_true rfl) ⟨by omega, by omega⟩) rfl (fun M4 e4 => ?_)
  obtain ⟨hR4, hz4, -⟩ := e4
  refine pw_astore_n (q := 8) (j := 1) C dL_law_7 rfl rfl (Nat.le_of_ble_eq_true rfl) rfl ?_
  refine pw_new (q := 11) C dL_law_8 nL_8 ⟨by omega, by omega⟩ rfl ?_
  rw [hz4]
  refine pw_heap (fun M9 => M9.1 = M.1 + 137 + 1 ∧ M9.2 (M.1 + 137) = some (.inr (7, [.null, .null, .null, .null, .null, .null])) ∧ RepX M9 M.1 S0) ⟨hnew_sz hz4, hnew_at hz4, hR4.keep (by show M4.1 ≤ M4.1 + 1; omega) (fun q g1 g2 => hnew_ne hz4 (by omega))⟩ (fun M9 ⟨hz, h0, hR⟩ => ?_)
  refine pw_dup (q := 12) C dL_law_11 rfl rfl ?_
  refine pw_void (q := 15) (cr_i (j := iX10_init) C dL_law_12 lL_219 mX10_init (ro_mk (Nat.le_of_ble_eq_true rfl) (Nat.le_of_ble_eq_true rfl)) RN.no (x_new hz h0) rfl rfl (Nat.le_of_ble_eq_true rfl) ⟨by omega, by omega⟩) rfl (fun M12 e12 => ?_)
  obtain ⟨hP2, hz12, lo12⟩ := e12
  have hR := hR.keep (by omega) (fun q g1 g2 => lo12 q (by omega))
  refine pw_astore_n (q := 16) (j := 2) C dL_law_15 rfl rfl (Nat.le_of_ble_eq_true rfl) rfl ?_
  obtain ⟨f, hf, hc0⟩ := v_cell (b := b) (xs := xs) (k := 0) (by omega) hL
  rw [← SB_S0 f] at hR hP2
  have hP : TwoL M12 M.1 (SB f 0) (SB f 0) := ⟨hR, hP2⟩
  refine pw_aload_n (q := 17) (j := 0) C dL_law_16 rfl rfl rfl ?_
  refine pw_iconst_n (q := 18) C 0 dL_law_17 (by decide +kernel) rfl ?_
  refine pw_rd (q := 21) (cr_sS (j := iL_cell) C hXs dL_law_18 lL_220 mL_cell (ro_mk (Nat.le_of_ble_eq_true rfl) (Nat.le_of_ble_eq_true rfl)) (hc0 _) rfl rfl (Nat.le_of_ble_eq_true rfl) ⟨by omega, by omega⟩) rfl ?_
  refine pw_istore_n (q := 22) (j := 3) C dL_law_21 rfl rfl (Nat.le_of_ble_eq_true rfl) rfl ?_
  refine pw_aload_n (q := 23) (j := 1) C dL_law_22 rfl rfl rfl ?_
  refine pw_iload_n (q := 24) (j := 3) C dL_law_23 rfl rfl rfl ?_
  refine pw_val (q := 27) (cr_s (j := iL_begin) C dL_law_24 lL_224 mL_begin (ro_mk (Nat.le_of_ble_eq_true rfl) (Nat.le_of_ble_eq_true rfl))  (v_begin hf hP.1) rfl rfl (Nat.le_of_ble_eq_true rfl) ⟨by omega, by omega⟩) rfl (fun M24 e24 => ?_)
  have hP := hP.o e24
  refine pw_if_eq_n (q := 30) 42 C dL_law_27 (by decide) rfl (by omega) (fun g27 => absurd g27 (by decide)) (fun g27 => ?_)
  refine pw_aload_n (q := 31) (j := 2) C dL_law_30 rfl rfl rfl ?_
  refine pw_iload_n (q := 32) (j := 3) C dL_law_31 rfl rfl rfl ?_
  refine pw_val (q := 35) (cr_s (j := iL_begin) C dL_law_32 lL_224 mL_begin (ro_mk (Nat.le_of_ble_eq_true rfl) (Nat.le_of_ble_eq_true rfl))  (v_begin hf hP.2) rfl rfl (Nat.le_of_ble_eq_true rfl) ⟨by omega, by omega⟩) rfl (fun M32 e32 => ?_)
  have hP := hP.p e32
  refine pw_if_eq_n (q := 38) 42 C dL_law_35 (by decide) rfl (by omega) (fun g35 => absurd g35 (by decide)) (fun g35 => ?_)
  refine pw_iconst_n (q := 39) C 1 dL_law_38 (by decide +kernel) rfl ?_
  refine pw_goto (q := 0) 43 C dL_law_39 (by decide) ?_
  refine pw_istore (q := 45) C dL_law_43 rfl (Nat.le_of_ble_eq_true rfl) rfl ?_
  refine pw_iconst_n (q := 46) C 0 dL_law_45 (by decide +kernel) rfl ?_
  refine pw_istore (q := 48) C dL_law_46 rfl (Nat.le_of_ble_eq_true rfl) rfl ?_
  exact pw_widen (by omega) (by omega) (law_loop C hXs hL KE 28 0 (by omega) _ _ none none none hP (begS_g f))
