/-! The law's act. -/
def actS (S : St) (w : Nat) : Nat := if sP S 7 = 0 then 0 else w / 64 % sP S 7
set_option maxHeartbeats 200000 in
set_option maxRecDepth 100000 in
theorem act_pre {Γ : CX} {G : GC} {Z : State → Prop} {mc ms k n : Nat} {M : PH} {x D v w : Nat} {S : St} (hX : RepX M x S) (hG : SG D S) (hD : D < 80000) (hv : v < 2147483648) (hw : w < 2147483648) (C : Cx Γ G iL_act [] mc ms) (hkn : k ≤ mc ∧ n ≤ ms) (K : PW Γ G Z 44 [some (.ref x), some (.int (nI (v))), some (.int (nI (w))), some (.int (nI (w % sP S 6))), some (.int (nI (w / 8 % sP S 5))), some (.int (nI (actS S w)))] [] M k n) : PW Γ G Z 0 [some (.ref x), some (.int (nI (v))), some (.int (nI (w))), none, none, none] [] M k n := by
  have hS := hG.1
  have hI := hS.1.1
  have hb := hI.b
  have h5 := hG.2.1.1
  have h6 := hG.2.1.2.1
  refine pw_iload_n (q := 1) (j := 2) C dL_act_0 rfl rfl rfl ?_
  refine pw_aload_n (q := 2) (j := 0) C dL_act_1 rfl rfl rfl ?_
  refine pw_iconst_n (q := 3) C 1 dL_act_2 (by decide +kernel) rfl ?_
  refine pw_rd (q := 6) (cr_s (j := iL_about) C dL_act_3 lL_176 mL_about (ro_mk (by decide) (by decide))  (v_a1 hX hS) rfl rfl (Nat.le_of_ble_eq_true rfl) ⟨by omega, by omega⟩) rfl ?_
  refine pw_irem_n (q := 7) C dL_act_6 (by omega) (by omega) (by omega) rfl ?_
  refine pw_istore_n (q := 8) (j := 3) C dL_act_7 rfl rfl (by decide) rfl ?_
  refine pw_iload_n (q := 9) (j := 2) C dL_act_8 rfl rfl rfl ?_
  refine pw_bipush_n (q := 11) C 8 dL_act_9 (by decide +kernel) rfl ?_
  refine pw_idiv_n (q := 12) C dL_act_11 (by omega) (by omega) (by omega) rfl ?_
  refine pw_aload_n (q := 13) (j := 0) C dL_act_12 rfl rfl rfl ?_
  refine pw_iconst_n (q := 14) C 0 dL_act_13 (by decide +kernel) rfl ?_
  refine pw_rd (q := 17) (cr_s (j := iL_about) C dL_act_14 lL_176 mL_about (ro_mk (by decide) (by decide))  (v_a0 hX hS) rfl rfl (Nat.le_of_ble_eq_true rfl) ⟨by omega, by omega⟩) rfl ?_
  refine pw_irem_n (q := 18) C dL_act_17 (by omega) (by omega) (by omega) rfl ?_
  refine pw_istore (q := 20) C dL_act_18 rfl (by decide) rfl ?_
  refine pw_aload_n (q := 21) (j := 0) C dL_act_20 rfl rfl rfl ?_
  refine pw_iconst_n (q := 22) C 2 dL_act_21 (by decide +kernel) rfl ?_
  refine pw_rd (q := 25) (cr_s (j := iL_about) C dL_act_22 lL_176 mL_about (ro_mk (by decide) (by decide))  (v_a2 hX hS) rfl rfl (Nat.le_of_ble_eq_true rfl) ⟨by omega, by omega⟩) rfl ?_
  refine pw_if_ne_n (q := 28) 32 C dL_act_25 (by decide) rfl (by omega) (fun g25 => ?_) (fun g25 => ?_)
  · refine pw_iload_n (q := 33) (j := 2) C dL_act_32 rfl rfl rfl ?_
    refine pw_bipush_n (q := 35) C 64 dL_act_33 (by decide +kernel) rfl ?_
    refine pw_idiv_n (q := 36) C dL_act_35 (by omega) (by omega) (by omega) rfl ?_
    refine pw_aload_n (q := 37) (j := 0) C dL_act_36 rfl rfl rfl ?_
    refine pw_iconst_n (q := 38) C 2 dL_act_37 (by decide +kernel) rfl ?_
    refine pw_rd (q := 41) (cr_s (j := iL_about) C dL_act_38 lL_176 mL_about (ro_mk (by decide) (by decide))  (v_a2 hX hS) rfl rfl (Nat.le_of_ble_eq_true rfl) ⟨by omega, by omega⟩) rfl ?_
    refine pw_irem_n (q := 42) C dL_act_41 (by omega) (by omega) (by omega) rfl ?_
    refine pw_istore (q := 44) C dL_act_42 rfl (by decide) rfl ?_
    have z := K
    unfold actS at z
    rw [if_neg (by omega)] at z
    exact z
  · refine pw_iconst_n (q := 29) C 0 dL_act_28 (by decide +kernel) rfl ?_
    refine pw_goto (q := 0) 42 C dL_act_29 (by decide) ?_
    refine pw_istore (q := 44) C dL_act_42 rfl (by decide) rfl ?_
    have z := K
    unfold actS at z
    rw [if_pos (by omega)] at z
    exact z
set_option maxHeartbeats 200000 in
set_option maxRecDepth 100000 in
theorem act_0 {M : PH} {x D v w : Nat} {S : St} (hX : RepX M x S) (hG : SG D S) (hD : D < 80000) (hv : v < 2147483648) (hw : w < 2147483648) (hk : v % 18 = 0) : Run iL_act [.ref x, .int (nI v), .int (nI w)] M 2 12 (RA M x (EX xA xS xS) (spAddCourse S (nI (1 + w % 9)) (nI (1 + w / 16 % 6)) (nI (1 + w / 128 % 3)))) := by
  have hS := hG.1
  have hI := hS.1.1
  have hb := hI.b
  have h5 := hG.2.1.1
  have h6 := hG.2.1.2.1
  refine Run.of (l0 := [some (.ref x), some (.int (nI v)), some (.int (nI w)), none, none, none]) (by decide +kernel) (Nat.le_of_ble_eq_true rfl) (by rfl) (fun Γ G C => ?_)
  refine act_pre hX hG hD hv hw C ⟨Nat.zero_le _, Nat.zero_le _⟩ ?_
  refine pw_iload_n (q := 45) (j := 1) C dL_act_44 rfl rfl rfl ?_
  refine pw_bipush_n (q := 47) C 18 dL_act_45 (by decide +kernel) rfl ?_
  refine pw_irem_n (q := 48) C dL_act_47 (by omega) (by omega) (by omega) rfl ?_
  rw [hk]
  
  · refine pw_tableIn (q := 0) 132 C dL_act_48 (by decide +kernel) (by decide +kernel) (by rfl) (by decide) ?_
    refine pw_aload_n (q := 133) (j := 0) C dL_act_132 rfl rfl rfl ?_
    refine pw_bipush_n (q := 135) C 7 dL_act_133 (by decide +kernel) rfl ?_
    refine pw_iconst_n (q := 136) C 1 dL_act_135 (by decide +kernel) rfl ?_
    refine pw_iload_n (q := 137) (j := 2) C dL_act_136 rfl rfl rfl ?_
    refine pw_bipush_n (q := 139) C 9 dL_act_137 (by decide +kernel) rfl ?_
    refine pw_irem_n (q := 140) C dL_act_139 (by omega) (by omega) (by omega) rfl ?_
    refine pw_iadd_n (q := 141) C dL_act_140 rfl ?_
    refine pw_iconst_n (q := 142) C 1 dL_act_141 (by decide +kernel) rfl ?_
    refine pw_iload_n (q := 143) (j := 2) C dL_act_142 rfl rfl rfl ?_
    refine pw_bipush_n (q := 145) C 16 dL_act_143 (by decide +kernel) rfl ?_
    refine pw_idiv_n (q := 146) C dL_act_145 (by omega) (by omega) (by omega) rfl ?_
    refine pw_bipush_n (q := 148) C 6 dL_act_146 (by decide +kernel) rfl ?_
    refine pw_irem_n (q := 149) C dL_act_148 (by omega) (by omega) (by omega) rfl ?_
    refine pw_iadd_n (q := 150) C dL_act_149 rfl ?_
    refine pw_iconst_n (q := 151) C 1 dL_act_150 (by decide +kernel) rfl ?_
    refine pw_iload_n (q := 152) (j := 2) C dL_act_151 rfl rfl rfl ?_
    refine pw_sipush_n (q := 155) C 128 dL_act_152 (by decide +kernel) rfl ?_
    refine pw_idiv_n (q := 156) C dL_act_155 (by omega) (by omega) (by omega) rfl ?_
    refine pw_iconst_n (q := 157) C 3 dL_act_156 (by decide +kernel) rfl ?_
    refine pw_irem_n (q := 158) C dL_act_157 (by omega) (by omega) (by omega) rfl ?_
    refine pw_iadd_n (q := 159) C dL_act_158 rfl ?_
    refine pw_iconst_n (q := 160) C 0 dL_act_159 (by decide +kernel) rfl ?_
    refine pw_val (q := 163) (cr_s (j := iL_call) C dL_act_160 lL_170 mL_call (ro_mk (by decide) (by decide))  (g_build hX hS) rfl rfl (Nat.le_of_ble_eq_true rfl) ⟨by omega, by omega⟩) rfl (fun M160 e160 => ?_)
    exact pw_iret C dL_act_163 rfl ⟨by omega, by omega⟩ (RV.mk rfl (by assumption))
set_option maxHeartbeats 200000 in
set_option maxRecDepth 100000 in
theorem act_1 {M : PH} {x D v w : Nat} {S : St} (hX : RepX M x S) (hG : SG D S) (hD : D < 80000) (hv : v < 2147483648) (hw : w < 2147483648) (hk : v % 18 = 1) : Run iL_act [.ref x, .int (nI v), .int (nI w)] M 2 12 (RA M x (EX xA xS xS) (spAddMason S (nI (1 + w % 9)) (nI (1 + w / 16 % 12)))) := by
  have hS := hG.1
  have hI := hS.1.1
  have hb := hI.b
  have h5 := hG.2.1.1
  have h6 := hG.2.1.2.1
  refine Run.of (l0 := [some (.ref x), some (.int (nI v)), some (.int (nI w)), none, none, none]) (by decide +kernel) (Nat.le_of_ble_eq_true rfl) (by rfl) (fun Γ G C => ?_)
  refine act_pre hX hG hD hv hw C ⟨Nat.zero_le _, Nat.zero_le _⟩ ?_
  refine pw_iload_n (q := 45) (j := 1) C dL_act_44 rfl rfl rfl ?_
  refine pw_bipush_n (q := 47) C 18 dL_act_45 (by decide +kernel) rfl ?_
  refine pw_irem_n (q := 48) C dL_act_47 (by omega) (by omega) (by omega) rfl ?_
  rw [hk]
  
  · refine pw_tableIn (q := 0) 164 C dL_act_48 (by decide +kernel) (by decide +kernel) (by rfl) (by decide) ?_
    refine pw_aload_n (q := 165) (j := 0) C dL_act_164 rfl rfl rfl ?_
    refine pw_bipush_n (q := 167) C 8 dL_act_165 (by decide +kernel) rfl ?_
    refine pw_iconst_n (q := 168) C 1 dL_act_167 (by decide +kernel) rfl ?_
    refine pw_iload_n (q := 169) (j := 2) C dL_act_168 rfl rfl rfl ?_
    refine pw_bipush_n (q := 171) C 9 dL_act_169 (by decide +kernel) rfl ?_
    refine pw_irem_n (q := 172) C dL_act_171 (by omega) (by omega) (by omega) rfl ?_
    refine pw_iadd_n (q := 173) C dL_act_172 rfl ?_
    refine pw_iconst_n (q := 174) C 1 dL_act_173 (by decide +kernel) rfl ?_
    refine pw_iload_n (q := 175) (j := 2) C dL_act_174 rfl rfl rfl ?_
    refine pw_bipush_n (q := 177) C 16 dL_act_175 (by decide +kernel) rfl ?_
    refine pw_idiv_n (q := 178) C dL_act_177 (by omega) (by omega) (by omega) rfl ?_
    refine pw_bipush_n (q := 180) C 12 dL_act_178 (by decide +kernel) rfl ?_
    refine pw_irem_n (q := 181) C dL_act_180 (by omega) (by omega) (by omega) rfl ?_
    refine pw_iadd_n (q := 182) C dL_act_181 rfl ?_
    refine pw_iconst_n (q := 183) C 0 dL_act_182 (by decide +kernel) rfl ?_
    refine pw_iconst_n (q := 184) C 0 dL_act_183 (by decide +kernel) rfl ?_
    refine pw_val (q := 187) (cr_s (j := iL_call) C dL_act_184 lL_170 mL_call (ro_mk (by decide) (by decide))  (g_hire hX hS) rfl rfl (Nat.le_of_ble_eq_true rfl) ⟨by omega, by omega⟩) rfl (fun M184 e184 => ?_)
    exact pw_iret C dL_act_187 rfl ⟨by omega, by omega⟩ (RV.mk rfl (by assumption))
set_option maxHeartbeats 200000 in
set_option maxRecDepth 100000 in
theorem act_2 {M : PH} {x D v w : Nat} {S : St} (hX : RepX M x S) (hG : SG D S) (hD : D < 80000) (hv : v < 2147483648) (hw : w < 2147483648) (hk : v % 18 = 2) : Run iL_act [.ref x, .int (nI v), .int (nI w)] M 2 12 (RA M x (EX xB xA xA) (spSetRate S (nI (w % sP S 6)) (nI (1 + w / 16 % 9)))) := by
  have hS := hG.1
  have hI := hS.1.1
  have hb := hI.b
  have h5 := hG.2.1.1
  have h6 := hG.2.1.2.1
  refine Run.of (l0 := [some (.ref x), some (.int (nI v)), some (.int (nI w)), none, none, none]) (by decide +kernel) (Nat.le_of_ble_eq_true rfl) (by rfl) (fun Γ G C => ?_)
  refine act_pre hX hG hD hv hw C ⟨Nat.zero_le _, Nat.zero_le _⟩ ?_
  refine pw_iload_n (q := 45) (j := 1) C dL_act_44 rfl rfl rfl ?_
  refine pw_bipush_n (q := 47) C 18 dL_act_45 (by decide +kernel) rfl ?_
  refine pw_irem_n (q := 48) C dL_act_47 (by omega) (by omega) (by omega) rfl ?_
  rw [hk]
  
  · refine pw_tableIn (q := 0) 188 C dL_act_48 (by decide +kernel) (by decide +kernel) (by rfl) (by decide) ?_
    refine pw_aload_n (q := 189) (j := 0) C dL_act_188 rfl rfl rfl ?_
    refine pw_bipush_n (q := 191) C 9 dL_act_189 (by decide +kernel) rfl ?_
    refine pw_iload_n (q := 192) (j := 3) C dL_act_191 rfl rfl rfl ?_
    refine pw_iconst_n (q := 193) C 1 dL_act_192 (by decide +kernel) rfl ?_
    refine pw_iload_n (q := 194) (j := 2) C dL_act_193 rfl rfl rfl ?_
    refine pw_bipush_n (q := 196) C 16 dL_act_194 (by decide +kernel) rfl ?_
    refine pw_idiv_n (q := 197) C dL_act_196 (by omega) (by omega) (by omega) rfl ?_
    refine pw_bipush_n (q := 199) C 9 dL_act_197 (by decide +kernel) rfl ?_
    refine pw_irem_n (q := 200) C dL_act_199 (by omega) (by omega) (by omega) rfl ?_
    refine pw_iadd_n (q := 201) C dL_act_200 rfl ?_
    refine pw_iconst_n (q := 202) C 0 dL_act_201 (by decide +kernel) rfl ?_
    refine pw_iconst_n (q := 203) C 0 dL_act_202 (by decide +kernel) rfl ?_
    refine pw_val (q := 206) (cr_s (j := iL_call) C dL_act_203 lL_170 mL_call (ro_mk (by decide) (by decide))  (g_rate hX hS) rfl rfl (Nat.le_of_ble_eq_true rfl) ⟨by omega, by omega⟩) rfl (fun M203 e203 => ?_)
    exact pw_iret C dL_act_206 rfl ⟨by omega, by omega⟩ (RV.mk rfl (by assumption))
set_option maxHeartbeats 200000 in
set_option maxRecDepth 100000 in
theorem act_3 {M : PH} {x D v w : Nat} {S : St} (hX : RepX M x S) (hG : SG D S) (hD : D < 80000) (hv : v < 2147483648) (hw : w < 2147483648) (hk : v % 18 = 3) : Run iL_act [.ref x, .int (nI v), .int (nI w)] M 2 12 (RA M x (EX xA xA xA) (spSetBound S (nI (w % 10)))) := by
  have hS := hG.1
  have hI := hS.1.1
  have hb := hI.b
  have h5 := hG.2.1.1
  have h6 := hG.2.1.2.1
  refine Run.of (l0 := [some (.ref x), some (.int (nI v)), some (.int (nI w)), none, none, none]) (by decide +kernel) (Nat.le_of_ble_eq_true rfl) (by rfl) (fun Γ G C => ?_)
  refine act_pre hX hG hD hv hw C ⟨Nat.zero_le _, Nat.zero_le _⟩ ?_
  refine pw_iload_n (q := 45) (j := 1) C dL_act_44 rfl rfl rfl ?_
  refine pw_bipush_n (q := 47) C 18 dL_act_45 (by decide +kernel) rfl ?_
  refine pw_irem_n (q := 48) C dL_act_47 (by omega) (by omega) (by omega) rfl ?_
  rw [hk]
  
  · refine pw_tableIn (q := 0) 207 C dL_act_48 (by decide +kernel) (by decide +kernel) (by rfl) (by decide) ?_
    refine pw_aload_n (q := 208) (j := 0) C dL_act_207 rfl rfl rfl ?_
    refine pw_bipush_n (q := 210) C 10 dL_act_208 (by decide +kernel) rfl ?_
    refine pw_iload_n (q := 211) (j := 2) C dL_act_210 rfl rfl rfl ?_
    refine pw_bipush_n (q := 213) C 10 dL_act_211 (by decide +kernel) rfl ?_
    refine pw_irem_n (q := 214) C dL_act_213 (by omega) (by omega) (by omega) rfl ?_
    refine pw_iconst_n (q := 215) C 0 dL_act_214 (by decide +kernel) rfl ?_
    refine pw_iconst_n (q := 216) C 0 dL_act_215 (by decide +kernel) rfl ?_
    refine pw_iconst_n (q := 217) C 0 dL_act_216 (by decide +kernel) rfl ?_
    refine pw_val (q := 220) (cr_s (j := iL_call) C dL_act_217 lL_170 mL_call (ro_mk (by decide) (by decide))  (g_bound hX hS) rfl rfl (Nat.le_of_ble_eq_true rfl) ⟨by omega, by omega⟩) rfl (fun M217 e217 => ?_)
    exact pw_iret C dL_act_220 rfl ⟨by omega, by omega⟩ (RV.mk rfl (by assumption))
set_option maxHeartbeats 200000 in
set_option maxRecDepth 100000 in
theorem act_4 {M : PH} {x D v w : Nat} {S : St} (hX : RepX M x S) (hG : SG D S) (hD : D < 80000) (hv : v < 2147483648) (hw : w < 2147483648) (hk : v % 18 = 4) : Run iL_act [.ref x, .int (nI v), .int (nI w)] M 2 12 (RA M x (EX xB xA xS) (spCut S (nI (w % sP S 6)) (nI (w / 8 % sP S 5)) (nI (w / 64 % 8)))) := by
  have hS := hG.1
  have hI := hS.1.1
  have hb := hI.b
  have h5 := hG.2.1.1
  have h6 := hG.2.1.2.1
  refine Run.of (l0 := [some (.ref x), some (.int (nI v)), some (.int (nI w)), none, none, none]) (by decide +kernel) (Nat.le_of_ble_eq_true rfl) (by rfl) (fun Γ G C => ?_)
  refine act_pre hX hG hD hv hw C ⟨Nat.zero_le _, Nat.zero_le _⟩ ?_
  refine pw_iload_n (q := 45) (j := 1) C dL_act_44 rfl rfl rfl ?_
  refine pw_bipush_n (q := 47) C 18 dL_act_45 (by decide +kernel) rfl ?_
  refine pw_irem_n (q := 48) C dL_act_47 (by omega) (by omega) (by omega) rfl ?_
  rw [hk]
  
  · refine pw_tableIn (q := 0) 221 C dL_act_48 (by decide +kernel) (by decide +kernel) (by rfl) (by decide) ?_
    refine pw_aload_n (q := 222) (j := 0) C dL_act_221 rfl rfl rfl ?_
    refine pw_bipush_n (q := 224) C 11 dL_act_222 (by decide +kernel) rfl ?_
    refine pw_iload_n (q := 225) (j := 3) C dL_act_224 rfl rfl rfl ?_
    refine pw_iload (q := 227) C dL_act_225 rfl rfl ?_
    refine pw_iload_n (q := 228) (j := 2) C dL_act_227 rfl rfl rfl ?_
    refine pw_bipush_n (q := 230) C 64 dL_act_228 (by decide +kernel) rfl ?_
    refine pw_idiv_n (q := 231) C dL_act_230 (by omega) (by omega) (by omega) rfl ?_
    refine pw_bipush_n (q := 233) C 8 dL_act_231 (by decide +kernel) rfl ?_
    refine pw_irem_n (q := 234) C dL_act_233 (by omega) (by omega) (by omega) rfl ?_
    refine pw_iconst_n (q := 235) C 0 dL_act_234 (by decide +kernel) rfl ?_
    refine pw_val (q := 238) (cr_s (j := iL_call) C dL_act_235 lL_170 mL_call (ro_mk (by decide) (by decide))  (g_cut hX hS) rfl rfl (Nat.le_of_ble_eq_true rfl) ⟨by omega, by omega⟩) rfl (fun M235 e235 => ?_)
    exact pw_iret C dL_act_238 rfl ⟨by omega, by omega⟩ (RV.mk rfl (by assumption))
set_option maxHeartbeats 200000 in
set_option maxRecDepth 100000 in
theorem act_5 {M : PH} {x D v w : Nat} {S : St} (hX : RepX M x S) (hG : SG D S) (hD : D < 80000) (hv : v < 2147483648) (hw : w < 2147483648) (hk : v % 18 = 5) : Run iL_act [.ref x, .int (nI v), .int (nI w)] M 2 12 (RA M x (EX xB xA xS) (spCut S (nI (w % sP S 6)) (nI (w / 8 % sP S 5)) (nI (w / 64 % 8)))) := by
  have hS := hG.1
  have hI := hS.1.1
  have hb := hI.b
  have h5 := hG.2.1.1
  have h6 := hG.2.1.2.1
  refine Run.of (l0 := [some (.ref x), some (.int (nI v)), some (.int (nI w)), none, none, none]) (by decide +kernel) (Nat.le_of_ble_eq_true rfl) (by rfl) (fun Γ G C => ?_)
  refine act_pre hX hG hD hv hw C ⟨Nat.zero_le _, Nat.zero_le _⟩ ?_
  refine pw_iload_n (q := 45) (j := 1) C dL_act_44 rfl rfl rfl ?_
  refine pw_bipush_n (q := 47) C 18 dL_act_45 (by decide +kernel) rfl ?_
  refine pw_irem_n (q := 48) C dL_act_47 (by omega) (by omega) (by omega) rfl ?_
  rw [hk]
  
  · refine pw_tableIn (q := 0) 221 C dL_act_48 (by decide +kernel) (by decide +kernel) (by rfl) (by decide) ?_
    refine pw_aload_n (q := 222) (j := 0) C dL_act_221 rfl rfl rfl ?_
    refine pw_bipush_n (q := 224) C 11 dL_act_222 (by decide +kernel) rfl ?_
    refine pw_iload_n (q := 225) (j := 3) C dL_act_224 rfl rfl rfl ?_
    refine pw_iload (q := 227) C dL_act_225 rfl rfl ?_
    refine pw_iload_n (q := 228) (j := 2) C dL_act_227 rfl rfl rfl ?_
    refine pw_bipush_n (q := 230) C 64 dL_act_228 (by decide +kernel) rfl ?_
    refine pw_idiv_n (q := 231) C dL_act_230 (by omega) (by omega) (by omega) rfl ?_
    refine pw_bipush_n (q := 233) C 8 dL_act_231 (by decide +kernel) rfl ?_
    refine pw_irem_n (q := 234) C dL_act_233 (by omega) (by omega) (by omega) rfl ?_
    refine pw_iconst_n (q := 235) C 0 dL_act_234 (by decide +kernel) rfl ?_
    refine pw_val (q := 238) (cr_s (j := iL_call) C dL_act_235 lL_170 mL_call (ro_mk (by decide) (by decide))  (g_cut hX hS) rfl rfl (Nat.le_of_ble_eq_true rfl) ⟨by omega, by omega⟩) rfl (fun M235 e235 => ?_)
    exact pw_iret C dL_act_238 rfl ⟨by omega, by omega⟩ (RV.mk rfl (by assumption))
set_option maxHeartbeats 200000 in
set_option maxRecDepth 100000 in
theorem act_6 {M : PH} {x D v w : Nat} {S : St} (hX : RepX M x S) (hG : SG D S) (hD : D < 80000) (hv : v < 2147483648) (hw : w < 2147483648) (hk : v % 18 = 6) : Run iL_act [.ref x, .int (nI v), .int (nI w)] M 2 12 (RA M x (EX xB xA xS) (spCut S (nI (w % sP S 6)) (nI (w / 8 % sP S 5)) (nI (w / 64 % 8)))) := by
  have hS := hG.1
  have hI := hS.1.1
  have hb := hI.b
  have h5 := hG.2.1.1
  have h6 := hG.2.1.2.1
  refine Run.of (l0 := [some (.ref x), some (.int (nI v)), some (.int (nI w)), none, none, none]) (by decide +kernel) (Nat.le_of_ble_eq_true rfl) (by rfl) (fun Γ G C => ?_)
  refine act_pre hX hG hD hv hw C ⟨Nat.zero_le _, Nat.zero_le _⟩ ?_
  refine pw_iload_n (q := 45) (j := 1) C dL_act_44 rfl rfl rfl ?_
  refine pw_bipush_n (q := 47) C 18 dL_act_45 (by decide +kernel) rfl ?_
  refine pw_irem_n (q := 48) C dL_act_47 (by omega) (by omega) (by omega) rfl ?_
  rw [hk]
  
  · refine pw_tableIn (q := 0) 221 C dL_act_48 (by decide +kernel) (by decide +kernel) (by rfl) (by decide) ?_
    refine pw_aload_n (q := 222) (j := 0) C dL_act_221 rfl rfl rfl ?_
    refine pw_bipush_n (q := 224) C 11 dL_act_222 (by decide +kernel) rfl ?_
    refine pw_iload_n (q := 225) (j := 3) C dL_act_224 rfl rfl rfl ?_
    refine pw_iload (q := 227) C dL_act_225 rfl rfl ?_
    refine pw_iload_n (q := 228) (j := 2) C dL_act_227 rfl rfl rfl ?_
    refine pw_bipush_n (q := 230) C 64 dL_act_228 (by decide +kernel) rfl ?_
    refine pw_idiv_n (q := 231) C dL_act_230 (by omega) (by omega) (by omega) rfl ?_
    refine pw_bipush_n (q := 233) C 8 dL_act_231 (by decide +kernel) rfl ?_
    refine pw_irem_n (q := 234) C dL_act_233 (by omega) (by omega) (by omega) rfl ?_
    refine pw_iconst_n (q := 235) C 0 dL_act_234 (by decide +kernel) rfl ?_
    refine pw_val (q := 238) (cr_s (j := iL_call) C dL_act_235 lL_170 mL_call (ro_mk (by decide) (by decide))  (g_cut hX hS) rfl rfl (Nat.le_of_ble_eq_true rfl) ⟨by omega, by omega⟩) rfl (fun M235 e235 => ?_)
    exact pw_iret C dL_act_238 rfl ⟨by omega, by omega⟩ (RV.mk rfl (by assumption))
set_option maxHeartbeats 200000 in
set_option maxRecDepth 100000 in
theorem act_7 {M : PH} {x D v w : Nat} {S : St} (hX : RepX M x S) (hG : SG D S) (hD : D < 80000) (hv : v < 2147483648) (hw : w < 2147483648) (hk : v % 18 = 7) : Run iL_act [.ref x, .int (nI v), .int (nI w)] M 2 12 (RA M x (EX xB xA xS) (spCut S (nI (w % sP S 6)) (nI (w / 8 % sP S 5)) (nI (w / 64 % 8)))) := by
  have hS := hG.1
  have hI := hS.1.1
  have hb := hI.b
  have h5 := hG.2.1.1
  have h6 := hG.2.1.2.1
  refine Run.of (l0 := [some (.ref x), some (.int (nI v)), some (.int (nI w)), none, none, none]) (by decide +kernel) (Nat.le_of_ble_eq_true rfl) (by rfl) (fun Γ G C => ?_)
  refine act_pre hX hG hD hv hw C ⟨Nat.zero_le _, Nat.zero_le _⟩ ?_
  refine pw_iload_n (q := 45) (j := 1) C dL_act_44 rfl rfl rfl ?_
  refine pw_bipush_n (q := 47) C 18 dL_act_45 (by decide +kernel) rfl ?_
  refine pw_irem_n (q := 48) C dL_act_47 (by omega) (by omega) (by omega) rfl ?_
  rw [hk]
  
  · refine pw_tableIn (q := 0) 221 C dL_act_48 (by decide +kernel) (by decide +kernel) (by rfl) (by decide) ?_
    refine pw_aload_n (q := 222) (j := 0) C dL_act_221 rfl rfl rfl ?_
    refine pw_bipush_n (q := 224) C 11 dL_act_222 (by decide +kernel) rfl ?_
    refine pw_iload_n (q := 225) (j := 3) C dL_act_224 rfl rfl rfl ?_
    refine pw_iload (q := 227) C dL_act_225 rfl rfl ?_
    refine pw_iload_n (q := 228) (j := 2) C dL_act_227 rfl rfl rfl ?_
    refine pw_bipush_n (q := 230) C 64 dL_act_228 (by decide +kernel) rfl ?_
    refine pw_idiv_n (q := 231) C dL_act_230 (by omega) (by omega) (by omega) rfl ?_
    refine pw_bipush_n (q := 233) C 8 dL_act_231 (by decide +kernel) rfl ?_
    refine pw_irem_n (q := 234) C dL_act_233 (by omega) (by omega) (by omega) rfl ?_
    refine pw_iconst_n (q := 235) C 0 dL_act_234 (by decide +kernel) rfl ?_
    refine pw_val (q := 238) (cr_s (j := iL_call) C dL_act_235 lL_170 mL_call (ro_mk (by decide) (by decide))  (g_cut hX hS) rfl rfl (Nat.le_of_ble_eq_true rfl) ⟨by omega, by omega⟩) rfl (fun M235 e235 => ?_)
    exact pw_iret C dL_act_238 rfl ⟨by omega, by omega⟩ (RV.mk rfl (by assumption))
set_option maxHeartbeats 200000 in
set_option maxRecDepth 100000 in
theorem act_8 {M : PH} {x D v w : Nat} {S : St} (hX : RepX M x S) (hG : SG D S) (hD : D < 80000) (hv : v < 2147483648) (hw : w < 2147483648) (hk : v % 18 = 8) : Run iL_act [.ref x, .int (nI v), .int (nI w)] M 2 12 (RA M x (EX xB xS xS) (spInspect S (nI (actS S w)))) := by
  have hS := hG.1
  have hI := hS.1.1
  have hb := hI.b
  have h5 := hG.2.1.1
  have h6 := hG.2.1.2.1
  refine Run.of (l0 := [some (.ref x), some (.int (nI v)), some (.int (nI w)), none, none, none]) (by decide +kernel) (Nat.le_of_ble_eq_true rfl) (by rfl) (fun Γ G C => ?_)
  refine act_pre hX hG hD hv hw C ⟨Nat.zero_le _, Nat.zero_le _⟩ ?_
  refine pw_iload_n (q := 45) (j := 1) C dL_act_44 rfl rfl rfl ?_
  refine pw_bipush_n (q := 47) C 18 dL_act_45 (by decide +kernel) rfl ?_
  refine pw_irem_n (q := 48) C dL_act_47 (by omega) (by omega) (by omega) rfl ?_
  rw [hk]
  
  · refine pw_tableIn (q := 0) 239 C dL_act_48 (by decide +kernel) (by decide +kernel) (by rfl) (by decide) ?_
    refine pw_aload_n (q := 240) (j := 0) C dL_act_239 rfl rfl rfl ?_
    refine pw_bipush_n (q := 242) C 12 dL_act_240 (by decide +kernel) rfl ?_
    refine pw_iload (q := 244) C dL_act_242 rfl rfl ?_
    refine pw_iconst_n (q := 245) C 0 dL_act_244 (by decide +kernel) rfl ?_
    refine pw_iconst_n (q := 246) C 0 dL_act_245 (by decide +kernel) rfl ?_
    refine pw_iconst_n (q := 247) C 0 dL_act_246 (by decide +kernel) rfl ?_
    refine pw_val (q := 250) (cr_s (j := iL_call) C dL_act_247 lL_170 mL_call (ro_mk (by decide) (by decide))  (g_inspect hX hS) rfl rfl (Nat.le_of_ble_eq_true rfl) ⟨by omega, by omega⟩) rfl (fun M247 e247 => ?_)
    exact pw_iret C dL_act_250 rfl ⟨by omega, by omega⟩ (RV.mk rfl (by assumption))
set_option maxHeartbeats 200000 in
set_option maxRecDepth 100000 in
theorem act_9 {M : PH} {x D v w : Nat} {S : St} (hX : RepX M x S) (hG : SG D S) (hD : D < 80000) (hv : v < 2147483648) (hw : w < 2147483648) (hk : v % 18 = 9) : Run iL_act [.ref x, .int (nI v), .int (nI w)] M 2 12 (RA M x (EX xB xS xS) (spInspect S (nI (actS S w)))) := by
  have hS := hG.1
  have hI := hS.1.1
  have hb := hI.b
  have h5 := hG.2.1.1
  have h6 := hG.2.1.2.1
  refine Run.of (l0 := [some (.ref x), some (.int (nI v)), some (.int (nI w)), none, none, none]) (by decide +kernel) (Nat.le_of_ble_eq_true rfl) (by rfl) (fun Γ G C => ?_)
  refine act_pre hX hG hD hv hw C ⟨Nat.zero_le _, Nat.zero_le _⟩ ?_
  refine pw_iload_n (q := 45) (j := 1) C dL_act_44 rfl rfl rfl ?_
  refine pw_bipush_n (q := 47) C 18 dL_act_45 (by decide +kernel) rfl ?_
  refine pw_irem_n (q := 48) C dL_act_47 (by omega) (by omega) (by omega) rfl ?_
  rw [hk]
  
  · refine pw_tableIn (q := 0) 239 C dL_act_48 (by decide +kernel) (by decide +kernel) (by rfl) (by decide) ?_
    refine pw_aload_n (q := 240) (j := 0) C dL_act_239 rfl rfl rfl ?_
    refine pw_bipush_n (q := 242) C 12 dL_act_240 (by decide +kernel) rfl ?_
    refine pw_iload (q := 244) C dL_act_242 rfl rfl ?_
    refine pw_iconst_n (q := 245) C 0 dL_act_244 (by decide +kernel) rfl ?_
    refine pw_iconst_n (q := 246) C 0 dL_act_245 (by decide +kernel) rfl ?_
    refine pw_iconst_n (q := 247) C 0 dL_act_246 (by decide +kernel) rfl ?_
    refine pw_val (q := 250) (cr_s (j := iL_call) C dL_act_247 lL_170 mL_call (ro_mk (by decide) (by decide))  (g_inspect hX hS) rfl rfl (Nat.le_of_ble_eq_true rfl) ⟨by omega, by omega⟩) rfl (fun M247 e247 => ?_)
    exact pw_iret C dL_act_250 rfl ⟨by omega, by omega⟩ (RV.mk rfl (by assumption))
set_option maxHeartbeats 200000 in
set_option maxRecDepth 100000 in
theorem act_10 {M : PH} {x D v w : Nat} {S : St} (hX : RepX M x S) (hG : SG D S) (hD : D < 80000) (hv : v < 2147483648) (hw : w < 2147483648) (hk : v % 18 = 10) : Run iL_act [.ref x, .int (nI v), .int (nI w)] M 2 12 (RA M x (EX xB xS xS) (spRecut S (nI (w % sP S 6)) (nI (actS S w)) (nI (w / 8 % sP S 5)))) := by
  have hS := hG.1
  have hI := hS.1.1
  have hb := hI.b
  have h5 := hG.2.1.1
  have h6 := hG.2.1.2.1
  refine Run.of (l0 := [some (.ref x), some (.int (nI v)), some (.int (nI w)), none, none, none]) (by decide +kernel) (Nat.le_of_ble_eq_true rfl) (by rfl) (fun Γ G C => ?_)
  refine act_pre hX hG hD hv hw C ⟨Nat.zero_le _, Nat.zero_le _⟩ ?_
  refine pw_iload_n (q := 45) (j := 1) C dL_act_44 rfl rfl rfl ?_
  refine pw_bipush_n (q := 47) C 18 dL_act_45 (by decide +kernel) rfl ?_
  refine pw_irem_n (q := 48) C dL_act_47 (by omega) (by omega) (by omega) rfl ?_
  rw [hk]
  
  · refine pw_tableIn (q := 0) 251 C dL_act_48 (by decide +kernel) (by decide +kernel) (by rfl) (by decide) ?_
    refine pw_aload_n (q := 252) (j := 0) C dL_act_251 rfl rfl rfl ?_
    refine pw_bipush_n (q := 254) C 13 dL_act_252 (by decide +kernel) rfl ?_
    refine pw_iload_n (q := 255) (j := 3) C dL_act_254 rfl rfl rfl ?_
    refine pw_iload (q := 257) C dL_act_255 rfl rfl ?_
    refine pw_iload (q := 259) C dL_act_257 rfl rfl ?_
    refine pw_iconst_n (q := 260) C 0 dL_act_259 (by decide +kernel) rfl ?_
    refine pw_val (q := 263) (cr_s (j := iL_call) C dL_act_260 lL_170 mL_call (ro_mk (by decide) (by decide))  (g_recut hX hS) rfl rfl (Nat.le_of_ble_eq_true rfl) ⟨by omega, by omega⟩) rfl (fun M260 e260 => ?_)
    exact pw_iret C dL_act_263 rfl ⟨by omega, by omega⟩ (RV.mk rfl (by assumption))
set_option maxHeartbeats 200000 in
set_option maxRecDepth 100000 in
theorem act_11 {M : PH} {x D v w : Nat} {S : St} (hX : RepX M x S) (hG : SG D S) (hD : D < 80000) (hv : v < 2147483648) (hw : w < 2147483648) (hk : v % 18 = 11) : Run iL_act [.ref x, .int (nI v), .int (nI w)] M 2 12 (RA M x (EX xB xS xS) (spScrap S (nI (actS S w)))) := by
  have hS := hG.1
  have hI := hS.1.1
  have hb := hI.b
  have h5 := hG.2.1.1
  have h6 := hG.2.1.2.1
  refine Run.of (l0 := [some (.ref x), some (.int (nI v)), some (.int (nI w)), none, none, none]) (by decide +kernel) (Nat.le_of_ble_eq_true rfl) (by rfl) (fun Γ G C => ?_)
  refine act_pre hX hG hD hv hw C ⟨Nat.zero_le _, Nat.zero_le _⟩ ?_
  refine pw_iload_n (q := 45) (j := 1) C dL_act_44 rfl rfl rfl ?_
  refine pw_bipush_n (q := 47) C 18 dL_act_45 (by decide +kernel) rfl ?_
  refine pw_irem_n (q := 48) C dL_act_47 (by omega) (by omega) (by omega) rfl ?_
  rw [hk]
  
  · refine pw_tableIn (q := 0) 264 C dL_act_48 (by decide +kernel) (by decide +kernel) (by rfl) (by decide) ?_
    refine pw_aload_n (q := 265) (j := 0) C dL_act_264 rfl rfl rfl ?_
    refine pw_bipush_n (q := 267) C 14 dL_act_265 (by decide +kernel) rfl ?_
    refine pw_iload (q := 269) C dL_act_267 rfl rfl ?_
    refine pw_iconst_n (q := 270) C 0 dL_act_269 (by decide +kernel) rfl ?_
    refine pw_iconst_n (q := 271) C 0 dL_act_270 (by decide +kernel) rfl ?_
    refine pw_iconst_n (q := 272) C 0 dL_act_271 (by decide +kernel) rfl ?_
    refine pw_val (q := 275) (cr_s (j := iL_call) C dL_act_272 lL_170 mL_call (ro_mk (by decide) (by decide))  (g_scrap hX hS) rfl rfl (Nat.le_of_ble_eq_true rfl) ⟨by omega, by omega⟩) rfl (fun M272 e272 => ?_)
    exact pw_iret C dL_act_275 rfl ⟨by omega, by omega⟩ (RV.mk rfl (by assumption))
set_option maxHeartbeats 200000 in
set_option maxRecDepth 100000 in
theorem act_12 {M : PH} {x D v w : Nat} {S : St} (hX : RepX M x S) (hG : SG D S) (hD : D < 80000) (hv : v < 2147483648) (hw : w < 2147483648) (hk : v % 18 = 12) : Run iL_act [.ref x, .int (nI v), .int (nI w)] M 2 12 (RA M x (EX xB xS xS) (spSet S (nI (actS S w)))) := by
  have hS := hG.1
  have hI := hS.1.1
  have hb := hI.b
  have h5 := hG.2.1.1
  have h6 := hG.2.1.2.1
  refine Run.of (l0 := [some (.ref x), some (.int (nI v)), some (.int (nI w)), none, none, none]) (by decide +kernel) (Nat.le_of_ble_eq_true rfl) (by rfl) (fun Γ G C => ?_)
  refine act_pre hX hG hD hv hw C ⟨Nat.zero_le _, Nat.zero_le _⟩ ?_
  refine pw_iload_n (q := 45) (j := 1) C dL_act_44 rfl rfl rfl ?_
  refine pw_bipush_n (q := 47) C 18 dL_act_45 (by decide +kernel) rfl ?_
  refine pw_irem_n (q := 48) C dL_act_47 (by omega) (by omega) (by omega) rfl ?_
  rw [hk]
  
  · refine pw_tableIn (q := 0) 276 C dL_act_48 (by decide +kernel) (by decide +kernel) (by rfl) (by decide) ?_
    refine pw_aload_n (q := 277) (j := 0) C dL_act_276 rfl rfl rfl ?_
    refine pw_bipush_n (q := 279) C 15 dL_act_277 (by decide +kernel) rfl ?_
    refine pw_iload (q := 281) C dL_act_279 rfl rfl ?_
    refine pw_iconst_n (q := 282) C 0 dL_act_281 (by decide +kernel) rfl ?_
    refine pw_iconst_n (q := 283) C 0 dL_act_282 (by decide +kernel) rfl ?_
    refine pw_iconst_n (q := 284) C 0 dL_act_283 (by decide +kernel) rfl ?_
    refine pw_val (q := 287) (cr_s (j := iL_call) C dL_act_284 lL_170 mL_call (ro_mk (by decide) (by decide))  (g_place hX hS) rfl rfl (Nat.le_of_ble_eq_true rfl) ⟨by omega, by omega⟩) rfl (fun M284 e284 => ?_)
    exact pw_iret C dL_act_287 rfl ⟨by omega, by omega⟩ (RV.mk rfl (by assumption))
set_option maxHeartbeats 200000 in
set_option maxRecDepth 100000 in
theorem act_13 {M : PH} {x D v w : Nat} {S : St} (hX : RepX M x S) (hG : SG D S) (hD : D < 80000) (hv : v < 2147483648) (hw : w < 2147483648) (hk : v % 18 = 13) : Run iL_act [.ref x, .int (nI v), .int (nI w)] M 2 12 (RA M x (EX xB xS xS) (spSet S (nI (actS S w)))) := by
  have hS := hG.1
  have hI := hS.1.1
  have hb := hI.b
  have h5 := hG.2.1.1
  have h6 := hG.2.1.2.1
  refine Run.of (l0 := [some (.ref x), some (.int (nI v)), some (.int (nI w)), none, none, none]) (by decide +kernel) (Nat.le_of_ble_eq_true rfl) (by rfl) (fun Γ G C => ?_)
  refine act_pre hX hG hD hv hw C ⟨Nat.zero_le _, Nat.zero_le _⟩ ?_
  refine pw_iload_n (q := 45) (j := 1) C dL_act_44 rfl rfl rfl ?_
  refine pw_bipush_n (q := 47) C 18 dL_act_45 (by decide +kernel) rfl ?_
  refine pw_irem_n (q := 48) C dL_act_47 (by omega) (by omega) (by omega) rfl ?_
  rw [hk]
  
  · refine pw_tableIn (q := 0) 276 C dL_act_48 (by decide +kernel) (by decide +kernel) (by rfl) (by decide) ?_
    refine pw_aload_n (q := 277) (j := 0) C dL_act_276 rfl rfl rfl ?_
    refine pw_bipush_n (q := 279) C 15 dL_act_277 (by decide +kernel) rfl ?_
    refine pw_iload (q := 281) C dL_act_279 rfl rfl ?_
    refine pw_iconst_n (q := 282) C 0 dL_act_281 (by decide +kernel) rfl ?_
    refine pw_iconst_n (q := 283) C 0 dL_act_282 (by decide +kernel) rfl ?_
    refine pw_iconst_n (q := 284) C 0 dL_act_283 (by decide +kernel) rfl ?_
    refine pw_val (q := 287) (cr_s (j := iL_call) C dL_act_284 lL_170 mL_call (ro_mk (by decide) (by decide))  (g_place hX hS) rfl rfl (Nat.le_of_ble_eq_true rfl) ⟨by omega, by omega⟩) rfl (fun M284 e284 => ?_)
    exact pw_iret C dL_act_287 rfl ⟨by omega, by omega⟩ (RV.mk rfl (by assumption))
set_option maxHeartbeats 200000 in
set_option maxRecDepth 100000 in
theorem act_16 {M : PH} {x D v w : Nat} {S : St} (hX : RepX M x S) (hG : SG D S) (hD : D < 80000) (hv : v < 2147483648) (hw : w < 2147483648) (hk : v % 18 = 16) : Run iL_act [.ref x, .int (nI v), .int (nI w)] M 2 12 (RA M x (EX xS xS xS) (spUndo S)) := by
  have hS := hG.1
  have hI := hS.1.1
  have hb := hI.b
  have h5 := hG.2.1.1
  have h6 := hG.2.1.2.1
  refine Run.of (l0 := [some (.ref x), some (.int (nI v)), some (.int (nI w)), none, none, none]) (by decide +kernel) (Nat.le_of_ble_eq_true rfl) (by rfl) (fun Γ G C => ?_)
  refine act_pre hX hG hD hv hw C ⟨Nat.zero_le _, Nat.zero_le _⟩ ?_
  refine pw_iload_n (q := 45) (j := 1) C dL_act_44 rfl rfl rfl ?_
  refine pw_bipush_n (q := 47) C 18 dL_act_45 (by decide +kernel) rfl ?_
  refine pw_irem_n (q := 48) C dL_act_47 (by omega) (by omega) (by omega) rfl ?_
  rw [hk]
  
  · refine pw_tableIn (q := 0) 309 C dL_act_48 (by decide +kernel) (by decide +kernel) (by rfl) (by decide) ?_
    refine pw_aload_n (q := 310) (j := 0) C dL_act_309 rfl rfl rfl ?_
    refine pw_bipush_n (q := 312) C 16 dL_act_310 (by decide +kernel) rfl ?_
    refine pw_iconst_n (q := 313) C 0 dL_act_312 (by decide +kernel) rfl ?_
    refine pw_iconst_n (q := 314) C 0 dL_act_313 (by decide +kernel) rfl ?_
    refine pw_iconst_n (q := 315) C 0 dL_act_314 (by decide +kernel) rfl ?_
    refine pw_iconst_n (q := 316) C 0 dL_act_315 (by decide +kernel) rfl ?_
    refine pw_val (q := 319) (cr_s (j := iL_call) C dL_act_316 lL_170 mL_call (ro_mk (by decide) (by decide))  (g_undo hX hS) rfl rfl (Nat.le_of_ble_eq_true rfl) ⟨by omega, by omega⟩) rfl (fun M316 e316 => ?_)
    exact pw_iret C dL_act_319 rfl ⟨by omega, by omega⟩ (RV.mk rfl (by assumption))
set_option maxHeartbeats 200000 in
set_option maxRecDepth 100000 in
theorem act_14 {M : PH} {x D v w : Nat} {S : St} (hX : RepX M x S) (hG : SG D S) (hD : D < 80000) (hv : v < 2147483648) (hw : w < 2147483648) (hk : v % 18 = 14) : Run iL_act [.ref x, .int (nI v), .int (nI w)] M 2 12 (AQ M x (nI (owedAll (sP S))) (wA S (payP (sP S)))) := by
  have hS := hG.1
  have hI := hS.1.1
  have hb := hI.b
  have h5 := hG.2.1.1
  have h6 := hG.2.1.2.1
  refine Run.of (l0 := [some (.ref x), some (.int (nI v)), some (.int (nI w)), none, none, none]) (by decide +kernel) (Nat.le_of_ble_eq_true rfl) (by rfl) (fun Γ G C => ?_)
  refine act_pre hX hG hD hv hw C ⟨Nat.zero_le _, Nat.zero_le _⟩ ?_
  refine pw_iload_n (q := 45) (j := 1) C dL_act_44 rfl rfl rfl ?_
  refine pw_bipush_n (q := 47) C 18 dL_act_45 (by decide +kernel) rfl ?_
  refine pw_irem_n (q := 48) C dL_act_47 (by omega) (by omega) (by omega) rfl ?_
  rw [hk]
  
  · refine pw_tableIn (q := 0) 288 C dL_act_48 (by decide +kernel) (by decide +kernel) (by rfl) (by decide) ?_
    refine pw_aload_n (q := 289) (j := 0) C dL_act_288 rfl rfl rfl ?_
    refine pw_val (q := 292) (cr_v (j := iX10_pay) C dL_act_289 lL_201 mX10_pay (ro_mk (by decide) (by decide)) hX.1 rfl (a_pay hX hS) rfl rfl (Nat.le_of_ble_eq_true rfl) ⟨by omega, by omega⟩) rfl (fun M289 e289 => ?_)
    exact pw_iret C dL_act_292 rfl ⟨by omega, by omega⟩ (RV.mk rfl (by assumption))
set_option maxHeartbeats 200000 in
set_option maxRecDepth 100000 in
theorem act_15a {M : PH} {x D v w : Nat} {S : St} (hX : RepX M x S) (hG : SG D S) (hD : D < 80000) (hv : v < 2147483648) (hw : w < 2147483648) (hk : v % 18 = 15) (h4 : w % 4 = 0) : Run iL_act [.ref x, .int (nI v), .int (nI w)] M 2 12 (AQ M x (nI (sP S 1 + 1)) (wA S (dayP (sP S) 1))) := by
  have hS := hG.1
  have hI := hS.1.1
  have hb := hI.b
  have h5 := hG.2.1.1
  have h6 := hG.2.1.2.1
  refine Run.of (l0 := [some (.ref x), some (.int (nI v)), some (.int (nI w)), none, none, none]) (by decide +kernel) (Nat.le_of_ble_eq_true rfl) (by rfl) (fun Γ G C => ?_)
  refine act_pre hX hG hD hv hw C ⟨Nat.zero_le _, Nat.zero_le _⟩ ?_
  refine pw_iload_n (q := 45) (j := 1) C dL_act_44 rfl rfl rfl ?_
  refine pw_bipush_n (q := 47) C 18 dL_act_45 (by decide +kernel) rfl ?_
  refine pw_irem_n (q := 48) C dL_act_47 (by omega) (by omega) (by omega) rfl ?_
  rw [hk]
  
  · refine pw_tableIn (q := 0) 293 C dL_act_48 (by decide +kernel) (by decide +kernel) (by rfl) (by decide) ?_
    refine pw_aload_n (q := 294) (j := 0) C dL_act_293 rfl rfl rfl ?_
    refine pw_iload_n (q := 295) (j := 2) C dL_act_294 rfl rfl rfl ?_
    refine pw_iconst_n (q := 296) C 4 dL_act_295 (by decide +kernel) rfl ?_
    refine pw_irem_n (q := 297) C dL_act_296 (by omega) (by omega) (by omega) rfl ?_
    refine pw_if_ne_n (q := 300) 304 C dL_act_297 (by decide) rfl (by omega) (fun g297 => absurd g297 (by omega)) (fun g297 => ?_)
    refine pw_iconst_n (q := 301) C 1 dL_act_300 (by decide +kernel) rfl ?_
    refine pw_goto (q := 0) 305 C dL_act_301 (by decide) ?_
    refine pw_val (q := 308) (cr_v (j := iX10_nextDay) C dL_act_305 lL_197 mX10_nextDay (ro_mk (by decide) (by decide)) hX.1 rfl (a_day hX hS (Nat.le_refl 1)) rfl rfl (Nat.le_of_ble_eq_true rfl) ⟨by omega, by omega⟩) rfl (fun M305 e305 => ?_)
    exact pw_iret C dL_act_308 rfl ⟨by omega, by omega⟩ (RV.mk rfl (by assumption))
set_option maxHeartbeats 200000 in
set_option maxRecDepth 100000 in
theorem act_15b {M : PH} {x D v w : Nat} {S : St} (hX : RepX M x S) (hG : SG D S) (hD : D < 80000) (hv : v < 2147483648) (hw : w < 2147483648) (hk : v % 18 = 15) (h4 : ¬ w % 4 = 0) : Run iL_act [.ref x, .int (nI v), .int (nI w)] M 2 12 (AQ M x (nI (sP S 1 + 1)) (wA S (dayP (sP S) 0))) := by
  have hS := hG.1
  have hI := hS.1.1
  have hb := hI.b
  have h5 := hG.2.1.1
  have h6 := hG.2.1.2.1
  refine Run.of (l0 := [some (.ref x), some (.int (nI v)), some (.int (nI w)), none, none, none]) (by decide +kernel) (Nat.le_of_ble_eq_true rfl) (by rfl) (fun Γ G C => ?_)
  refine act_pre hX hG hD hv hw C ⟨Nat.zero_le _, Nat.zero_le _⟩ ?_
  refine pw_iload_n (q := 45) (j := 1) C dL_act_44 rfl rfl rfl ?_
  refine pw_bipush_n (q := 47) C 18 dL_act_45 (by decide +kernel) rfl ?_
  refine pw_irem_n (q := 48) C dL_act_47 (by omega) (by omega) (by omega) rfl ?_
  rw [hk]
  
  · refine pw_tableIn (q := 0) 293 C dL_act_48 (by decide +kernel) (by decide +kernel) (by rfl) (by decide) ?_
    refine pw_aload_n (q := 294) (j := 0) C dL_act_293 rfl rfl rfl ?_
    refine pw_iload_n (q := 295) (j := 2) C dL_act_294 rfl rfl rfl ?_
    refine pw_iconst_n (q := 296) C 4 dL_act_295 (by decide +kernel) rfl ?_
    refine pw_irem_n (q := 297) C dL_act_296 (by omega) (by omega) (by omega) rfl ?_
    refine pw_if_ne_n (q := 300) 304 C dL_act_297 (by decide) rfl (by omega) (fun g297 => ?_) (fun g297 => absurd g297 (by omega))
    refine pw_iconst_n (q := 305) C 0 dL_act_304 (by decide +kernel) rfl ?_
    refine pw_val (q := 308) (cr_v (j := iX10_nextDay) C dL_act_305 lL_197 mX10_nextDay (ro_mk (by decide) (by decide)) hX.1 rfl (a_day hX hS (Nat.zero_le 1)) rfl rfl (Nat.le_of_ble_eq_true rfl) ⟨by omega, by omega⟩) rfl (fun M305 e305 => ?_)
    exact pw_iret C dL_act_308 rfl ⟨by omega, by omega⟩ (RV.mk rfl (by assumption))
set_option maxHeartbeats 200000 in
set_option maxRecDepth 100000 in
theorem act_17a {M : PH} {x D v w : Nat} {S : St} (hX : RepX M x S) (hG : SG D S) (hD : D < 80000) (hv : v < 2147483648) (hw : w < 2147483648) (hk : v % 18 = 17) (h4 : w % 2 = 0) : Run iL_act [.ref x, .int (nI v), .int (nI w)] M 2 12 (RA M x (EX xB xB xB) (spSave S (nI 1))) := by
  have hS := hG.1
  have hI := hS.1.1
  have hb := hI.b
  have h5 := hG.2.1.1
  have h6 := hG.2.1.2.1
  refine Run.of (l0 := [some (.ref x), some (.int (nI v)), some (.int (nI w)), none, none, none]) (by decide +kernel) (Nat.le_of_ble_eq_true rfl) (by rfl) (fun Γ G C => ?_)
  refine act_pre hX hG hD hv hw C ⟨Nat.zero_le _, Nat.zero_le _⟩ ?_
  refine pw_iload_n (q := 45) (j := 1) C dL_act_44 rfl rfl rfl ?_
  refine pw_bipush_n (q := 47) C 18 dL_act_45 (by decide +kernel) rfl ?_
  refine pw_irem_n (q := 48) C dL_act_47 (by omega) (by omega) (by omega) rfl ?_
  rw [hk]
  
  · refine pw_tableOut (q := 0) 320 C dL_act_48 (Or.inr (by decide +kernel)) (by decide) ?_
    refine pw_iload_n (q := 321) (j := 2) C dL_act_320 rfl rfl rfl ?_
    refine pw_iconst_n (q := 322) C 2 dL_act_321 (by decide +kernel) rfl ?_
    refine pw_irem_n (q := 323) C dL_act_322 (by omega) (by omega) (by omega) rfl ?_
    refine pw_if_ne_n (q := 326) 339 C dL_act_323 (by decide) rfl (by omega) (fun g323 => absurd g323 (by omega)) (fun g323 => ?_)
    refine pw_aload_n (q := 327) (j := 0) C dL_act_326 rfl rfl rfl ?_
    refine pw_bipush_n (q := 329) C 20 dL_act_327 (by decide +kernel) rfl ?_
    refine pw_iconst_n (q := 330) C 1 dL_act_329 (by decide +kernel) rfl ?_
    refine pw_iconst_n (q := 331) C 0 dL_act_330 (by decide +kernel) rfl ?_
    refine pw_iconst_n (q := 332) C 0 dL_act_331 (by decide +kernel) rfl ?_
    refine pw_iconst_n (q := 333) C 0 dL_act_332 (by decide +kernel) rfl ?_
    refine pw_val (q := 336) (cr_s (j := iL_call) C dL_act_333 lL_170 mL_call (ro_mk (by decide) (by decide))  (g_save hX hS) rfl rfl (Nat.le_of_ble_eq_true rfl) ⟨by omega, by omega⟩) rfl (fun M333 e333 => ?_)
    refine pw_goto (q := 0) 349 C dL_act_336 (by decide) ?_
    exact pw_iret C dL_act_349 rfl ⟨by omega, by omega⟩ (RV.mk rfl (by assumption))
set_option maxHeartbeats 200000 in
set_option maxRecDepth 100000 in
theorem act_17b {M : PH} {x D v w : Nat} {S : St} (hX : RepX M x S) (hG : SG D S) (hD : D < 80000) (hv : v < 2147483648) (hw : w < 2147483648) (hk : v % 18 = 17) (h4 : ¬ w % 2 = 0) : Run iL_act [.ref x, .int (nI v), .int (nI w)] M 2 12 (RA M x (EX xB xS xS) (spRestore S (nI 1))) := by
  have hS := hG.1
  have hI := hS.1.1
  have hb := hI.b
  have h5 := hG.2.1.1
  have h6 := hG.2.1.2.1
  refine Run.of (l0 := [some (.ref x), some (.int (nI v)), some (.int (nI w)), none, none, none]) (by decide +kernel) (Nat.le_of_ble_eq_true rfl) (by rfl) (fun Γ G C => ?_)
  refine act_pre hX hG hD hv hw C ⟨Nat.zero_le _, Nat.zero_le _⟩ ?_
  refine pw_iload_n (q := 45) (j := 1) C dL_act_44 rfl rfl rfl ?_
  refine pw_bipush_n (q := 47) C 18 dL_act_45 (by decide +kernel) rfl ?_
  refine pw_irem_n (q := 48) C dL_act_47 (by omega) (by omega) (by omega) rfl ?_
  rw [hk]
  
  · refine pw_tableOut (q := 0) 320 C dL_act_48 (Or.inr (by decide +kernel)) (by decide) ?_
    refine pw_iload_n (q := 321) (j := 2) C dL_act_320 rfl rfl rfl ?_
    refine pw_iconst_n (q := 322) C 2 dL_act_321 (by decide +kernel) rfl ?_
    refine pw_irem_n (q := 323) C dL_act_322 (by omega) (by omega) (by omega) rfl ?_
    refine pw_if_ne_n (q := 326) 339 C dL_act_323 (by decide) rfl (by omega) (fun g323 => ?_) (fun g323 => absurd g323 (by omega))
    refine pw_aload_n (q := 340) (j := 0) C dL_act_339 rfl rfl rfl ?_
    refine pw_bipush_n (q := 342) C 21 dL_act_340 (by decide +kernel) rfl ?_
    refine pw_iconst_n (q := 343) C 1 dL_act_342 (by decide +kernel) rfl ?_
    refine pw_iconst_n (q := 344) C 0 dL_act_343 (by decide +kernel) rfl ?_
    refine pw_iconst_n (q := 345) C 0 dL_act_344 (by decide +kernel) rfl ?_
    refine pw_iconst_n (q := 346) C 0 dL_act_345 (by decide +kernel) rfl ?_
    refine pw_val (q := 349) (cr_s (j := iL_call) C dL_act_346 lL_170 mL_call (ro_mk (by decide) (by decide))  (g_restore hX hS) rfl rfl (Nat.le_of_ble_eq_true rfl) ⟨by omega, by omega⟩) rfl (fun M346 e346 => ?_)
    exact pw_iret C dL_act_349 rfl ⟨by omega, by omega⟩ (RV.mk rfl (by assumption))
theorem v_act {D v w : Nat} {S : St} (hG : SG D S) (hD : D < 80000) (hv : v < 2147483648) (hw : w < 2147483648) : ∃ (a : Int32) (S1 : St), SG (D + 1) S1 ∧ ∀ (M : PH) (x : Nat), RepX M x S → Run iL_act [.ref x, .int (nI v), .int (nI w)] M 2 12 (AQ M x a S1) := by
  rcases (show v % 18 = 0 ∨ v % 18 = 1 ∨ v % 18 = 2 ∨ v % 18 = 3 ∨ v % 18 = 4 ∨ v % 18 = 5 ∨ v % 18 = 6 ∨ v % 18 = 7 ∨ v % 18 = 8 ∨ v % 18 = 9 ∨ v % 18 = 10 ∨ v % 18 = 11 ∨ v % 18 = 12 ∨ v % 18 = 13 ∨ v % 18 = 14 ∨ v % 18 = 15 ∨ v % 18 = 16 ∨ v % 18 = 17 by omega) with hk | hk | hk | hk | hk | hk | hk | hk | hk | hk | hk | hk | hk | hk | hk | hk | hk | hk
  · exact ⟨_, _, sg_addCourse hG _ _ _, fun M x hX => act_0 hX hG hD hv hw hk⟩
  · exact ⟨_, _, sg_addMason hG _ _, fun M x hX => act_1 hX hG hD hv hw hk⟩
  · exact ⟨_, _, sg_setRate hG _ _, fun M x hX => act_2 hX hG hD hv hw hk⟩
  · exact ⟨_, _, sg_setBound hG _, fun M x hX => act_3 hX hG hD hv hw hk⟩
  · exact ⟨_, _, sg_cut hG _ _ _, fun M x hX => act_4 hX hG hD hv hw hk⟩
  · exact ⟨_, _, sg_cut hG _ _ _, fun M x hX => act_5 hX hG hD hv hw hk⟩
  · exact ⟨_, _, sg_cut hG _ _ _, fun M x hX => act_6 hX hG hD hv hw hk⟩
  · exact ⟨_, _, sg_cut hG _ _ _, fun M x hX => act_7 hX hG hD hv hw hk⟩
  · exact ⟨_, _, sg_inspect hG _, fun M x hX => act_8 hX hG hD hv hw hk⟩
  · exact ⟨_, _, sg_inspect hG _, fun M x hX => act_9 hX hG hD hv hw hk⟩
  · exact ⟨_, _, sg_recut hG _ _ _, fun M x hX => act_10 hX hG hD hv hw hk⟩
  · exact ⟨_, _, sg_scrap hG _, fun M x hX => act_11 hX hG hD hv hw hk⟩
  · exact ⟨_, _, sg_set hG _, fun M x hX => act_12 hX hG hD hv hw hk⟩
  · exact ⟨_, _, sg_set hG _, fun M x hX => act_13 hX hG hD hv hw hk⟩
  · exact ⟨_, _, sg_pay hG, fun M x hX => act_14 hX hG hD hv hw hk⟩
  · by_cases h4 : w % 4 = 0
    · exact ⟨_, _, sg_day hG (by omega) (Nat.le_refl 1), fun M x hX => act_15a hX hG hD hv hw hk h4⟩
    · exact ⟨_, _, sg_day hG (by omega) (Nat.zero_le 1), fun M x hX => act_15b hX hG hD hv hw hk h4⟩
  · exact ⟨_, _, (sg_undo hG).up, fun M x hX => act_16 hX hG hD hv hw hk⟩
  · by_cases h4 : w % 2 = 0
    · exact ⟨_, _, sg_save hG _, fun M x hX => act_17a hX hG hD hv hw hk h4⟩
    · exact ⟨_, _, sg_restore hG _, fun M x hX => act_17b hX hG hD hv hw hk h4⟩
