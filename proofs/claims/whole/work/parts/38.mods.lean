/-! The reference: scripts and simulations. -/
theorem bN_cong {p q : Prop} [Decidable p] [Decidable q] (h : p ↔ q) : bN p = bN q := by
  unfold bN
  by_cases hp : p
  · rw [if_pos hp, if_pos (h.mp hp)]
  · rw [if_neg hp, if_neg (mt h.mpr hp)]
theorem inI_iff {a R : Nat} (ha : a < 1000) (hR : R < 2147483648) : inI (nI a) R ↔ a < R := ⟨fun h => (nI_ltI (by omega) hR).mp h.2, fun h => inI_i h hR⟩
theorem m_isCoursen {M : PH} {r : Nat} {P : Nat → Nat} (hM : PgAt M r P) (h9 : P 5 < 2147483648) {a : Nat} (ha : a < 1000) : Run iX11_isCourse [.ref r, .int (nI a)] M 0 0 (RV (.int (nI (bN (a < P 5)))) (fun M1 => M1 = M)) := by
  have t := m_isCourse hM h9 (nI a)
  rw [bN_cong (inI_iff ha h9)] at t
  exact t
theorem m_isMasonn {M : PH} {r : Nat} {P : Nat → Nat} (hM : PgAt M r P) (h9 : P 6 < 2147483648) {a : Nat} (ha : a < 1000) : Run iX11_isMason [.ref r, .int (nI a)] M 0 0 (RV (.int (nI (bN (a < P 6)))) (fun M1 => M1 = M)) := by
  have t := m_isMason hM h9 (nI a)
  rw [bN_cong (inI_iff ha h9)] at t
  exact t
theorem m_isStonen {M : PH} {r : Nat} {P : Nat → Nat} (hM : PgAt M r P) (h9 : P 7 < 2147483648) {a : Nat} (ha : a < 1000) : Run iX11_isStone [.ref r, .int (nI a)] M 0 0 (RV (.int (nI (bN (a < P 7)))) (fun M1 => M1 = M)) := by
  have t := m_isStone hM h9 (nI a)
  rw [bN_cong (inI_iff ha h9)] at t
  exact t
set_option maxHeartbeats 200000 in
set_option maxRecDepth 100000 in
theorem m_does {M : PH} {m rf n sp ft ac : Nat} {T R P Q D K B L : Nat → Nat} (hI : Inv Q) {g : Nat} (hg : g < 100000) : Run iX11_does [.ref m, .int (nI (g / 10000)), .int (nI (g / 1000 % 10)), .int (nI (g / 100 % 10)), .int (nI (g / 10 % 10)), .int (nI (g % 10))] (mh M m rf n sp ft ac T R P Q D K B L) 0 0 (RV (.int (nI (bN ((cmd Q g).isSome = true)))) (fun M1 => M1 = mh M m rf n sp ft ac T R P (((cmd Q g).getD Q)) D K B L)) := by
  have hb := hI.b
  refine Run.of (l0 := [some (.ref m), some (.int (nI (g / 10000))), some (.int (nI (g / 1000 % 10))), some (.int (nI (g / 100 % 10))), some (.int (nI (g / 10 % 10))), some (.int (nI (g % 10))), none, none]) (by decide +kernel) (Nat.le_of_ble_eq_true rfl) (by rfl) (fun Γ G C => ?_)
  refine pw_bipush_n (q := 2) C 10 dX11_does_0 (by decide +kernel) rfl ?_
  refine pw_iload (q := 4) C dX11_does_2 rfl rfl ?_
  refine pw_imul_n (q := 5) C dX11_does_4 rfl ?_
  refine pw_iload (q := 7) C dX11_does_5 rfl rfl ?_
  refine pw_iadd_n (q := 8) C dX11_does_7 rfl ?_
  rw [show 10 * (g / 10 % 10) + (g % 10) = (g % 100) by omega]
  refine pw_istore (q := 10) C dX11_does_8 rfl (by decide) rfl ?_
  refine pw_aload_n (q := 11) (j := 0) C dX11_does_10 rfl rfl rfl ?_
  refine pw_getf (q := 14) C dX11_does_11 fX11_19 mh_o (by rfl) rfl ?_
  refine pw_iload (q := 16) C dX11_does_14 rfl rfl ?_
  refine pw_rd (q := 19) (cr_s (j := iX11_isStone) C dX11_does_16 lX11_139 mX11_isStone (ro_mk (by decide) (by decide))  (m_isStonen mh_Q (by omega) (by omega)) rfl rfl (Nat.le_of_ble_eq_true rfl) ⟨by omega, by omega⟩) rfl ?_
  refine pw_istore (q := 21) C dX11_does_19 rfl (by decide) rfl ?_
  refine pw_iload_n (q := 22) (j := 1) C dX11_does_21 rfl rfl rfl ?_
  rcases (show g / 10000 = 0 ∨ g / 10000 = 1 ∨ g / 10000 = 2 ∨ g / 10000 = 3 ∨ g / 10000 = 4 ∨ g / 10000 = 5 ∨ g / 10000 = 6 ∨ g / 10000 = 7 ∨ g / 10000 = 8 ∨ g / 10000 = 9 by omega) with he | he | he | he | he | he | he | he | he | he
  · rw [he]
    refine pw_tableOut (q := 0) 447 C dX11_does_22 (Or.inl (by decide +kernel)) (by decide) ?_
    refine pw_iconst_n (q := 448) C 0 dX11_does_447 (by decide +kernel) rfl ?_
    exact pw_zret C dX11_does_448 rfl (by first | decide +kernel | exact nar_bN _ | exact nar_01 (by omega)) ⟨by omega, by omega⟩ (by
        rw [cmd_0 he]
        exact RV.mk (v0 (fun q => by cases q)) rfl)
  · rw [he]
    refine pw_tableIn (q := 0) 72 C dX11_does_22 (by decide +kernel) (by decide +kernel) (by rfl) (by decide) ?_
    refine pw_iload (q := 74) C dX11_does_72 rfl rfl ?_
    refine pw_if_ne_n (q := 77) 111 C dX11_does_74 (by decide) rfl (by omega) (fun g74 => ?_) (fun g74 => ?_)
    · refine pw_iconst_n (q := 112) C 0 dX11_does_111 (by decide +kernel) rfl ?_
      exact pw_zret C dX11_does_112 rfl (by first | decide +kernel | exact nar_bN _ | exact nar_01 (by omega)) ⟨by omega, by omega⟩ (by
          have hc : cmd Q g = none := by rw [cmd_1 he, cmd1, if_neg (fun q => g74 q.1)]
          rw [hc]
          exact RV.mk (v0 (fun q => by cases q)) rfl)
    · refine pw_aload_n (q := 78) (j := 0) C dX11_does_77 rfl rfl rfl ?_
      refine pw_getf (q := 81) C dX11_does_78 fX11_19 mh_o (by rfl) rfl ?_
      refine pw_iload_n (q := 82) (j := 2) C dX11_does_81 rfl rfl rfl ?_
      refine pw_rd (q := 85) (cr_s (j := iX11_isMason) C dX11_does_82 lX11_131 mX11_isMason (ro_mk (by decide) (by decide))  (m_isMasonn mh_Q (by omega) (by omega)) rfl rfl (Nat.le_of_ble_eq_true rfl) ⟨by omega, by omega⟩) rfl ?_
      refine pw_if_eq_b (q := 88) 111 C dX11_does_85 (by decide) rfl (fun g85 => ?_) (fun g85 => ?_)
      · refine pw_iconst_n (q := 112) C 0 dX11_does_111 (by decide +kernel) rfl ?_
        exact pw_zret C dX11_does_112 rfl (by first | decide +kernel | exact nar_bN _ | exact nar_01 (by omega)) ⟨by omega, by omega⟩ (by
            have hc : cmd Q g = none := by rw [cmd_1 he, cmd1, if_neg (fun q => g85 q.2.1)]
            rw [hc]
            exact RV.mk (v0 (fun q => by cases q)) rfl)
      · refine pw_aload_n (q := 89) (j := 0) C dX11_does_88 rfl rfl rfl ?_
        refine pw_getf (q := 92) C dX11_does_89 fX11_19 mh_o (by rfl) rfl ?_
        refine pw_iload_n (q := 93) (j := 3) C dX11_does_92 rfl rfl rfl ?_
        refine pw_rd (q := 96) (cr_s (j := iX11_isCourse) C dX11_does_93 lX11_126 mX11_isCourse (ro_mk (by decide) (by decide))  (m_isCoursen mh_Q (by omega) (by omega)) rfl rfl (Nat.le_of_ble_eq_true rfl) ⟨by omega, by omega⟩) rfl ?_
        refine pw_if_eq_b (q := 99) 111 C dX11_does_96 (by decide) rfl (fun g96 => ?_) (fun g96 => ?_)
        · refine pw_iconst_n (q := 112) C 0 dX11_does_111 (by decide +kernel) rfl ?_
          exact pw_zret C dX11_does_112 rfl (by first | decide +kernel | exact nar_bN _ | exact nar_01 (by omega)) ⟨by omega, by omega⟩ (by
              have hc : cmd Q g = none := by rw [cmd_1 he, cmd1, if_neg (fun q => g96 q.2.2.1)]
              rw [hc]
              exact RV.mk (v0 (fun q => by cases q)) rfl)
        · refine pw_aload_n (q := 100) (j := 0) C dX11_does_99 rfl rfl rfl ?_
          refine pw_getf (q := 103) C dX11_does_100 fX11_19 mh_o (by rfl) rfl ?_
          refine pw_iload_n (q := 104) (j := 2) C dX11_does_103 rfl rfl rfl ?_
          refine pw_iload_n (q := 105) (j := 3) C dX11_does_104 rfl rfl rfl ?_
          refine pw_rd (q := 108) (cr_s (j := iX11_canCut) C dX11_does_105 lX11_152 mX11_canCut (ro_mk (by decide) (by decide))  (m_canCut mh_Q hI g85 g96) rfl rfl (Nat.le_of_ble_eq_true rfl) ⟨by omega, by omega⟩) rfl ?_
          refine pw_if_ne_b (q := 111) 113 C dX11_does_108 (by decide) rfl (fun g108 => ?_) (fun g108 => ?_)
          · refine pw_aload_n (q := 114) (j := 0) C dX11_does_113 rfl rfl rfl ?_
            refine pw_getf (q := 117) C dX11_does_114 fX11_19 mh_o (by rfl) rfl ?_
            refine pw_iload_n (q := 118) (j := 2) C dX11_does_117 rfl rfl rfl ?_
            refine pw_iload_n (q := 119) (j := 3) C dX11_does_118 rfl rfl rfl ?_
            refine pw_iload (q := 121) C dX11_does_119 rfl rfl ?_
            refine pw_val (q := 124) (cr_s (j := iX11_cutOn) C dX11_does_121 lX11_156 mX11_cutOn (ro_mk (by decide) (by decide))  (m_cutOn mh_Q hI g85 g96 g108) rfl rfl (Nat.le_of_ble_eq_true rfl) ⟨by omega, by omega⟩) rfl (fun M121 e121 => ?_)
            rw [mh_s_Q] at e121
            subst e121
            refine pw_if_lt (q := 127) 131 C dX11_does_124 (by decide) rfl (fun g124 => absurd g124 (nI_pos (by omega))) (fun g124 => ?_)
            refine pw_iconst_n (q := 128) C 1 dX11_does_127 (by decide +kernel) rfl ?_
            refine pw_goto (q := 0) 132 C dX11_does_128 (by decide) ?_
            exact pw_zret C dX11_does_132 rfl (by first | decide +kernel | exact nar_bN _ | exact nar_01 (by omega)) ⟨by omega, by omega⟩ (by
                have hc : cmd Q g = some (cutP Q (g / 1000 % 10) (g / 100 % 10) (g / 10 % 10)) := by rw [cmd_1 he, cmd1, if_pos ⟨g74, g85, g96, g108⟩]
                rw [hc]
                exact RV.mk (v1 rfl) rfl)
          · refine pw_iconst_n (q := 112) C 0 dX11_does_111 (by decide +kernel) rfl ?_
            exact pw_zret C dX11_does_112 rfl (by first | decide +kernel | exact nar_bN _ | exact nar_01 (by omega)) ⟨by omega, by omega⟩ (by
                have hc : cmd Q g = none := by rw [cmd_1 he, cmd1, if_neg (fun q => g108 q.2.2.2)]
                rw [hc]
                exact RV.mk (v0 (fun q => by cases q)) rfl)
  · rw [he]
    refine pw_tableIn (q := 0) 133 C dX11_does_22 (by decide +kernel) (by decide +kernel) (by rfl) (by decide) ?_
    refine pw_iload_n (q := 134) (j := 2) C dX11_does_133 rfl rfl rfl ?_
    refine pw_iload_n (q := 135) (j := 3) C dX11_does_134 rfl rfl rfl ?_
    refine pw_iadd_n (q := 136) C dX11_does_135 rfl ?_
    refine pw_if_gt_n (q := 139) 162 C dX11_does_136 (by decide) rfl (by omega) (fun g136 => ?_) (fun g136 => ?_)
    · refine pw_iconst_n (q := 163) C 0 dX11_does_162 (by decide +kernel) rfl ?_
      exact pw_zret C dX11_does_163 rfl (by first | decide +kernel | exact nar_bN _ | exact nar_01 (by omega)) ⟨by omega, by omega⟩ (by
          have hc : cmd Q g = none := by rw [cmd_2 he, cmd2, if_neg (fun q => by omega)]
          rw [hc]
          exact RV.mk (v0 (fun q => by cases q)) rfl)
    · refine pw_iload (q := 141) C dX11_does_139 rfl rfl ?_
      refine pw_if_eq_b (q := 144) 162 C dX11_does_141 (by decide) rfl (fun g141 => ?_) (fun g141 => ?_)
      · refine pw_iconst_n (q := 163) C 0 dX11_does_162 (by decide +kernel) rfl ?_
        exact pw_zret C dX11_does_163 rfl (by first | decide +kernel | exact nar_bN _ | exact nar_01 (by omega)) ⟨by omega, by omega⟩ (by
            have hc : cmd Q g = none := by rw [cmd_2 he, cmd2, if_neg (fun q => g141 q.2.2.1)]
            rw [hc]
            exact RV.mk (v0 (fun q => by cases q)) rfl)
      · have s9 := hI.s g141
        refine pw_aload_n (q := 145) (j := 0) C dX11_does_144 rfl rfl rfl ?_
        refine pw_getf (q := 148) C dX11_does_145 fX11_19 mh_o (by rfl) rfl ?_
        refine pw_bipush_n (q := 150) C 50 dX11_does_148 (by decide +kernel) rfl ?_
        refine pw_bipush_n (q := 152) C 6 dX11_does_150 (by decide +kernel) rfl ?_
        refine pw_iload (q := 154) C dX11_does_152 rfl rfl ?_
        refine pw_imul_n (q := 155) C dX11_does_154 rfl ?_
        refine pw_iadd_n (q := 156) C dX11_does_155 rfl ?_
        refine pw_iconst_n (q := 157) C 3 dX11_does_156 (by decide +kernel) rfl ?_
        refine pw_iadd_n (q := 158) C dX11_does_157 rfl ?_
        refine pw_ipg (q := 159) C dX11_does_158 mh_Q (by omega) (by omega) rfl ?_
        refine pw_if_eq_n (q := 162) 164 C dX11_does_159 (by decide) rfl (by omega) (fun g159 => ?_) (fun g159 => ?_)
        · refine pw_aload_n (q := 165) (j := 0) C dX11_does_164 rfl rfl rfl ?_
          refine pw_getf (q := 168) C dX11_does_165 fX11_19 mh_o (by rfl) rfl ?_
          refine pw_iload (q := 170) C dX11_does_168 rfl rfl ?_
          refine pw_val (q := 173) (cr_s (j := iX11_inspectOn) C dX11_does_170 lX11_159 mX11_inspectOn (ro_mk (by decide) (by decide))  (m_inspectOn mh_Q hI g141) rfl rfl (Nat.le_of_ble_eq_true rfl) ⟨by omega, by omega⟩) rfl (fun M170 e170 => ?_)
          rw [mh_s_Q] at e170
          subst e170
          refine pw_pop (q := 174) C dX11_does_173 rfl rfl ?_
          refine pw_iconst_n (q := 175) C 1 dX11_does_174 (by decide +kernel) rfl ?_
          exact pw_zret C dX11_does_175 rfl (by first | decide +kernel | exact nar_bN _ | exact nar_01 (by omega)) ⟨by omega, by omega⟩ (by
              have hc : cmd Q g = some (inspectP Q (g % 100)) := by rw [cmd_2 he, cmd2, if_pos ⟨by omega, by omega, g141, g159⟩]
              rw [hc]
              exact RV.mk (v1 rfl) rfl)
        · refine pw_iconst_n (q := 163) C 0 dX11_does_162 (by decide +kernel) rfl ?_
          exact pw_zret C dX11_does_163 rfl (by first | decide +kernel | exact nar_bN _ | exact nar_01 (by omega)) ⟨by omega, by omega⟩ (by
              have hc : cmd Q g = none := by rw [cmd_2 he, cmd2, if_neg (fun q => g159 q.2.2.2)]
              rw [hc]
              exact RV.mk (v0 (fun q => by cases q)) rfl)
  · rw [he]
    refine pw_tableIn (q := 0) 176 C dX11_does_22 (by decide +kernel) (by decide +kernel) (by rfl) (by decide) ?_
    refine pw_iload (q := 178) C dX11_does_176 rfl rfl ?_
    refine pw_if_eq_b (q := 181) 217 C dX11_does_178 (by decide) rfl (fun g178 => ?_) (fun g178 => ?_)
    · refine pw_iconst_n (q := 218) C 0 dX11_does_217 (by decide +kernel) rfl ?_
      exact pw_zret C dX11_does_218 rfl (by first | decide +kernel | exact nar_bN _ | exact nar_01 (by omega)) ⟨by omega, by omega⟩ (by
          have hc : cmd Q g = none := by rw [cmd_3 he, cmd3, if_neg (fun q => g178 q.2.1)]
          rw [hc]
          exact RV.mk (v0 (fun q => by cases q)) rfl)
    · refine pw_aload_n (q := 182) (j := 0) C dX11_does_181 rfl rfl rfl ?_
      refine pw_getf (q := 185) C dX11_does_182 fX11_19 mh_o (by rfl) rfl ?_
      refine pw_iload_n (q := 186) (j := 2) C dX11_does_185 rfl rfl rfl ?_
      refine pw_rd (q := 189) (cr_s (j := iX11_isMason) C dX11_does_186 lX11_131 mX11_isMason (ro_mk (by decide) (by decide))  (m_isMasonn mh_Q (by omega) (by omega)) rfl rfl (Nat.le_of_ble_eq_true rfl) ⟨by omega, by omega⟩) rfl ?_
      refine pw_if_eq_b (q := 192) 217 C dX11_does_189 (by decide) rfl (fun g189 => ?_) (fun g189 => ?_)
      · refine pw_iconst_n (q := 218) C 0 dX11_does_217 (by decide +kernel) rfl ?_
        exact pw_zret C dX11_does_218 rfl (by first | decide +kernel | exact nar_bN _ | exact nar_01 (by omega)) ⟨by omega, by omega⟩ (by
            have hc : cmd Q g = none := by rw [cmd_3 he, cmd3, if_neg (fun q => g189 q.1)]
            rw [hc]
            exact RV.mk (v0 (fun q => by cases q)) rfl)
      · refine pw_aload_n (q := 193) (j := 0) C dX11_does_192 rfl rfl rfl ?_
        refine pw_getf (q := 196) C dX11_does_193 fX11_19 mh_o (by rfl) rfl ?_
        refine pw_iload_n (q := 197) (j := 3) C dX11_does_196 rfl rfl rfl ?_
        refine pw_rd (q := 200) (cr_s (j := iX11_isCourse) C dX11_does_197 lX11_126 mX11_isCourse (ro_mk (by decide) (by decide))  (m_isCoursen mh_Q (by omega) (by omega)) rfl rfl (Nat.le_of_ble_eq_true rfl) ⟨by omega, by omega⟩) rfl ?_
        refine pw_if_eq_b (q := 203) 217 C dX11_does_200 (by decide) rfl (fun g200 => ?_) (fun g200 => ?_)
        · refine pw_iconst_n (q := 218) C 0 dX11_does_217 (by decide +kernel) rfl ?_
          exact pw_zret C dX11_does_218 rfl (by first | decide +kernel | exact nar_bN _ | exact nar_01 (by omega)) ⟨by omega, by omega⟩ (by
              have hc : cmd Q g = none := by rw [cmd_3 he, cmd3, if_neg (fun q => g200 q.2.2.1)]
              rw [hc]
              exact RV.mk (v0 (fun q => by cases q)) rfl)
        · refine pw_aload_n (q := 204) (j := 0) C dX11_does_203 rfl rfl rfl ?_
          refine pw_getf (q := 207) C dX11_does_204 fX11_19 mh_o (by rfl) rfl ?_
          refine pw_iload_n (q := 208) (j := 2) C dX11_does_207 rfl rfl rfl ?_
          refine pw_iload (q := 210) C dX11_does_208 rfl rfl ?_
          refine pw_iload_n (q := 211) (j := 3) C dX11_does_210 rfl rfl rfl ?_
          refine pw_rd (q := 214) (cr_s (j := iX11_canRecut) C dX11_does_211 lX11_162 mX11_canRecut (ro_mk (by decide) (by decide))  (m_canRecut mh_Q hI g189 g178 g200) rfl rfl (Nat.le_of_ble_eq_true rfl) ⟨by omega, by omega⟩) rfl ?_
          refine pw_if_ne_b (q := 217) 219 C dX11_does_214 (by decide) rfl (fun g214 => ?_) (fun g214 => ?_)
          · refine pw_aload_n (q := 220) (j := 0) C dX11_does_219 rfl rfl rfl ?_
            refine pw_getf (q := 223) C dX11_does_220 fX11_19 mh_o (by rfl) rfl ?_
            refine pw_iload_n (q := 224) (j := 2) C dX11_does_223 rfl rfl rfl ?_
            refine pw_iload (q := 226) C dX11_does_224 rfl rfl ?_
            refine pw_iload_n (q := 227) (j := 3) C dX11_does_226 rfl rfl rfl ?_
            refine pw_val (q := 230) (cr_s (j := iX11_recutOn) C dX11_does_227 lX11_166 mX11_recutOn (ro_mk (by decide) (by decide))  (m_recutOn mh_Q hI g189 g178 g200 g214) rfl rfl (Nat.le_of_ble_eq_true rfl) ⟨by omega, by omega⟩) rfl (fun M227 e227 => ?_)
            rw [mh_s_Q] at e227
            subst e227
            refine pw_pop (q := 231) C dX11_does_230 rfl rfl ?_
            refine pw_iconst_n (q := 232) C 1 dX11_does_231 (by decide +kernel) rfl ?_
            exact pw_zret C dX11_does_232 rfl (by first | decide +kernel | exact nar_bN _ | exact nar_01 (by omega)) ⟨by omega, by omega⟩ (by
                have hc : cmd Q g = some (recutP Q (g / 1000 % 10) (g % 100) (g / 100 % 10)) := by rw [cmd_3 he, cmd3, if_pos ⟨g189, g178, g200, g214⟩]
                rw [hc]
                exact RV.mk (v1 rfl) rfl)
          · refine pw_iconst_n (q := 218) C 0 dX11_does_217 (by decide +kernel) rfl ?_
            exact pw_zret C dX11_does_218 rfl (by first | decide +kernel | exact nar_bN _ | exact nar_01 (by omega)) ⟨by omega, by omega⟩ (by
                have hc : cmd Q g = none := by rw [cmd_3 he, cmd3, if_neg (fun q => g214 q.2.2.2)]
                rw [hc]
                exact RV.mk (v0 (fun q => by cases q)) rfl)
  · rw [he]
    refine pw_tableIn (q := 0) 233 C dX11_does_22 (by decide +kernel) (by decide +kernel) (by rfl) (by decide) ?_
    refine pw_iload_n (q := 234) (j := 2) C dX11_does_233 rfl rfl rfl ?_
    refine pw_iload_n (q := 235) (j := 3) C dX11_does_234 rfl rfl rfl ?_
    refine pw_iadd_n (q := 236) C dX11_does_235 rfl ?_
    refine pw_if_gt_n (q := 239) 256 C dX11_does_236 (by decide) rfl (by omega) (fun g236 => ?_) (fun g236 => ?_)
    · refine pw_iconst_n (q := 257) C 0 dX11_does_256 (by decide +kernel) rfl ?_
      exact pw_zret C dX11_does_257 rfl (by first | decide +kernel | exact nar_bN _ | exact nar_01 (by omega)) ⟨by omega, by omega⟩ (by
          have hc : cmd Q g = none := by rw [cmd_4 he, cmd4, if_neg (fun q => by omega)]
          rw [hc]
          exact RV.mk (v0 (fun q => by cases q)) rfl)
    · refine pw_iload (q := 241) C dX11_does_239 rfl rfl ?_
      refine pw_if_eq_b (q := 244) 256 C dX11_does_241 (by decide) rfl (fun g241 => ?_) (fun g241 => ?_)
      · refine pw_iconst_n (q := 257) C 0 dX11_does_256 (by decide +kernel) rfl ?_
        exact pw_zret C dX11_does_257 rfl (by first | decide +kernel | exact nar_bN _ | exact nar_01 (by omega)) ⟨by omega, by omega⟩ (by
            have hc : cmd Q g = none := by rw [cmd_4 he, cmd4, if_neg (fun q => g241 q.2.2.1)]
            rw [hc]
            exact RV.mk (v0 (fun q => by cases q)) rfl)
      · refine pw_aload_n (q := 245) (j := 0) C dX11_does_244 rfl rfl rfl ?_
        refine pw_getf (q := 248) C dX11_does_245 fX11_19 mh_o (by rfl) rfl ?_
        refine pw_iload (q := 250) C dX11_does_248 rfl rfl ?_
        refine pw_rd (q := 253) (cr_s (j := iX11_why) C dX11_does_250 lX11_142 mX11_why (ro_mk (by decide) (by decide))  (m_why mh_Q hI g241) rfl rfl (Nat.le_of_ble_eq_true rfl) ⟨by omega, by omega⟩) rfl ?_
        have w9 := why_le Q (g % 100)
        refine pw_if_eq_n (q := 256) 258 C dX11_does_253 (by decide) rfl (by omega) (fun g253 => ?_) (fun g253 => ?_)
        · refine pw_aload_n (q := 259) (j := 0) C dX11_does_258 rfl rfl rfl ?_
          refine pw_getf (q := 262) C dX11_does_259 fX11_19 mh_o (by rfl) rfl ?_
          refine pw_bipush_n (q := 264) C 50 dX11_does_262 (by decide +kernel) rfl ?_
          refine pw_bipush_n (q := 266) C 6 dX11_does_264 (by decide +kernel) rfl ?_
          refine pw_iload (q := 268) C dX11_does_266 rfl rfl ?_
          refine pw_imul_n (q := 269) C dX11_does_268 rfl ?_
          refine pw_iadd_n (q := 270) C dX11_does_269 rfl ?_
          refine pw_iconst_n (q := 271) C 3 dX11_does_270 (by decide +kernel) rfl ?_
          refine pw_iadd_n (q := 272) C dX11_does_271 rfl ?_
          refine pw_iconst_n (q := 273) C 3 dX11_does_272 (by decide +kernel) rfl ?_
          refine pw_ipgst (q := 274) C dX11_does_273 mh_Q (by omega) (by omega) rfl ?_
          rw [mh_s_Q]
          refine pw_iconst_n (q := 275) C 1 dX11_does_274 (by decide +kernel) rfl ?_
          exact pw_zret C dX11_does_275 rfl (by first | decide +kernel | exact nar_bN _ | exact nar_01 (by omega)) ⟨by omega, by omega⟩ (by
              have hc : cmd Q g = some (stateP Q (g % 100) 3) := by rw [cmd_4 he, cmd4, if_pos ⟨by omega, by omega, g241, g253⟩]
              rw [hc]
              exact RV.mk (v1 rfl) rfl)
        · refine pw_iconst_n (q := 257) C 0 dX11_does_256 (by decide +kernel) rfl ?_
          exact pw_zret C dX11_does_257 rfl (by first | decide +kernel | exact nar_bN _ | exact nar_01 (by omega)) ⟨by omega, by omega⟩ (by
              have hc : cmd Q g = none := by rw [cmd_4 he, cmd4, if_neg (fun q => g253 q.2.2.2)]
              rw [hc]
              exact RV.mk (v0 (fun q => by cases q)) rfl)
  · rw [he]
    refine pw_tableIn (q := 0) 276 C dX11_does_22 (by decide +kernel) (by decide +kernel) (by rfl) (by decide) ?_
    refine pw_iload_n (q := 277) (j := 2) C dX11_does_276 rfl rfl rfl ?_
    refine pw_iload_n (q := 278) (j := 3) C dX11_does_277 rfl rfl rfl ?_
    refine pw_iadd_n (q := 279) C dX11_does_278 rfl ?_
    refine pw_iload (q := 281) C dX11_does_279 rfl rfl ?_
    refine pw_iadd_n (q := 282) C dX11_does_281 rfl ?_
    refine pw_if_ne_n (q := 285) 307 C dX11_does_282 (by decide) rfl (by omega) (fun g282 => ?_) (fun g282 => ?_)
    · refine pw_iconst_n (q := 308) C 0 dX11_does_307 (by decide +kernel) rfl ?_
      exact pw_zret C dX11_does_308 rfl (by first | decide +kernel | exact nar_bN _ | exact nar_01 (by omega)) ⟨by omega, by omega⟩ (by
          have hc : cmd Q g = none := by rw [cmd_5 he, cmd5, if_neg (fun q => by omega)]
          rw [hc]
          exact RV.mk (v0 (fun q => by cases q)) rfl)
    · refine pw_iload (q := 287) C dX11_does_285 rfl rfl ?_
      refine pw_iconst_n (q := 288) C 2 dX11_does_287 (by decide +kernel) rfl ?_
      refine pw_icmp_ge_n (q := 291) 307 C dX11_does_288 (by decide) rfl (by omega) (by omega) (fun g288 => ?_) (fun g288 => ?_)
      · refine pw_iconst_n (q := 308) C 0 dX11_does_307 (by decide +kernel) rfl ?_
        exact pw_zret C dX11_does_308 rfl (by first | decide +kernel | exact nar_bN _ | exact nar_01 (by omega)) ⟨by omega, by omega⟩ (by
            have hc : cmd Q g = none := by rw [cmd_5 he, cmd5, if_neg (fun q => by omega)]
            rw [hc]
            exact RV.mk (v0 (fun q => by cases q)) rfl)
      · refine pw_aload_n (q := 292) (j := 0) C dX11_does_291 rfl rfl rfl ?_
        refine pw_getf (q := 295) C dX11_does_292 fX11_19 mh_o (by rfl) rfl ?_
        refine pw_iload (q := 297) C dX11_does_295 rfl rfl ?_
        refine pw_val (q := 300) (cr_s (j := iX11_dayOn) C dX11_does_297 lX11_169 mX11_dayOn (ro_mk (by decide) (by decide))  (m_dayOn mh_Q hI (by omega)) rfl rfl (Nat.le_of_ble_eq_true rfl) ⟨by omega, by omega⟩) rfl (fun M297 e297 => ?_)
        rw [mh_s_Q] at e297
        subst e297
        refine pw_if_le_n (q := 303) 307 C dX11_does_300 (by decide) rfl (by omega) (fun g300 => absurd g300 (by omega)) (fun g300 => ?_)
        refine pw_iconst_n (q := 304) C 1 dX11_does_303 (by decide +kernel) rfl ?_
        refine pw_goto (q := 0) 308 C dX11_does_304 (by decide) ?_
        exact pw_zret C dX11_does_308 rfl (by first | decide +kernel | exact nar_bN _ | exact nar_01 (by omega)) ⟨by omega, by omega⟩ (by
            have hc : cmd Q g = some (dayP Q (g % 10)) := by rw [cmd_5 he, cmd5, if_pos ⟨by omega, by omega, by omega, by omega⟩]
            rw [hc]
            exact RV.mk (v1 rfl) rfl)
  · rw [he]
    refine pw_tableIn (q := 0) 309 C dX11_does_22 (by decide +kernel) (by decide +kernel) (by rfl) (by decide) ?_
    refine pw_iload_n (q := 310) (j := 2) C dX11_does_309 rfl rfl rfl ?_
    refine pw_iload_n (q := 311) (j := 3) C dX11_does_310 rfl rfl rfl ?_
    refine pw_iadd_n (q := 312) C dX11_does_311 rfl ?_
    refine pw_iload (q := 314) C dX11_does_312 rfl rfl ?_
    refine pw_iadd_n (q := 315) C dX11_does_314 rfl ?_
    refine pw_if_le_n (q := 318) 320 C dX11_does_315 (by decide) rfl (by omega) (fun g315 => ?_) (fun g315 => ?_)
    · refine pw_aload_n (q := 321) (j := 0) C dX11_does_320 rfl rfl rfl ?_
      refine pw_getf (q := 324) C dX11_does_321 fX11_19 mh_o (by rfl) rfl ?_
      refine pw_iconst_n (q := 325) C 0 dX11_does_324 (by decide +kernel) rfl ?_
      refine pw_iload (q := 327) C dX11_does_325 rfl rfl ?_
      refine pw_ipgst (q := 328) C dX11_does_327 mh_Q (by omega) (by omega) rfl ?_
      rw [mh_s_Q]
      refine pw_iconst_n (q := 329) C 1 dX11_does_328 (by decide +kernel) rfl ?_
      exact pw_zret C dX11_does_329 rfl (by first | decide +kernel | exact nar_bN _ | exact nar_01 (by omega)) ⟨by omega, by omega⟩ (by
          have hc : cmd Q g = some (updN Q 0 (g % 10)) := by rw [cmd_6 he, cmd6, if_pos ⟨by omega, by omega, by omega⟩]
          rw [hc]
          exact RV.mk (v1 rfl) rfl)
    · refine pw_iconst_n (q := 319) C 0 dX11_does_318 (by decide +kernel) rfl ?_
      exact pw_zret C dX11_does_319 rfl (by first | decide +kernel | exact nar_bN _ | exact nar_01 (by omega)) ⟨by omega, by omega⟩ (by
          have hc : cmd Q g = none := by rw [cmd_6 he, cmd6, if_neg (fun q => by omega)]
          rw [hc]
          exact RV.mk (v0 (fun q => by cases q)) rfl)
  · rw [he]
    refine pw_tableIn (q := 0) 330 C dX11_does_22 (by decide +kernel) (by decide +kernel) (by rfl) (by decide) ?_
    refine pw_iload_n (q := 331) (j := 2) C dX11_does_330 rfl rfl rfl ?_
    refine pw_iload_n (q := 332) (j := 3) C dX11_does_331 rfl rfl rfl ?_
    refine pw_iadd_n (q := 333) C dX11_does_332 rfl ?_
    refine pw_if_gt_n (q := 336) 360 C dX11_does_333 (by decide) rfl (by omega) (fun g333 => ?_) (fun g333 => ?_)
    · refine pw_iconst_n (q := 361) C 0 dX11_does_360 (by decide +kernel) rfl ?_
      exact pw_zret C dX11_does_361 rfl (by first | decide +kernel | exact nar_bN _ | exact nar_01 (by omega)) ⟨by omega, by omega⟩ (by
          have hc : cmd Q g = none := by rw [cmd_7 he, cmd7, if_neg (fun q => by omega)]
          rw [hc]
          exact RV.mk (v0 (fun q => by cases q)) rfl)
    · refine pw_iload (q := 338) C dX11_does_336 rfl rfl ?_
      refine pw_if_eq_b (q := 341) 360 C dX11_does_338 (by decide) rfl (fun g338 => ?_) (fun g338 => ?_)
      · refine pw_iconst_n (q := 361) C 0 dX11_does_360 (by decide +kernel) rfl ?_
        exact pw_zret C dX11_does_361 rfl (by first | decide +kernel | exact nar_bN _ | exact nar_01 (by omega)) ⟨by omega, by omega⟩ (by
            have hc : cmd Q g = none := by rw [cmd_7 he, cmd7, if_neg (fun q => g338 q.2.2.1)]
            rw [hc]
            exact RV.mk (v0 (fun q => by cases q)) rfl)
      · have s9 := hI.s g338
        refine pw_aload_n (q := 342) (j := 0) C dX11_does_341 rfl rfl rfl ?_
        refine pw_getf (q := 345) C dX11_does_342 fX11_19 mh_o (by rfl) rfl ?_
        refine pw_bipush_n (q := 347) C 50 dX11_does_345 (by decide +kernel) rfl ?_
        refine pw_bipush_n (q := 349) C 6 dX11_does_347 (by decide +kernel) rfl ?_
        refine pw_iload (q := 351) C dX11_does_349 rfl rfl ?_
        refine pw_imul_n (q := 352) C dX11_does_351 rfl ?_
        refine pw_iadd_n (q := 353) C dX11_does_352 rfl ?_
        refine pw_iconst_n (q := 354) C 3 dX11_does_353 (by decide +kernel) rfl ?_
        refine pw_iadd_n (q := 355) C dX11_does_354 rfl ?_
        refine pw_ipg (q := 356) C dX11_does_355 mh_Q (by omega) (by omega) rfl ?_
        refine pw_iconst_n (q := 357) C 2 dX11_does_356 (by decide +kernel) rfl ?_
        refine pw_icmp_eq_n (q := 360) 362 C dX11_does_357 (by decide) rfl (by omega) (by omega) (fun g357 => ?_) (fun g357 => ?_)
        · refine pw_aload_n (q := 363) (j := 0) C dX11_does_362 rfl rfl rfl ?_
          refine pw_getf (q := 366) C dX11_does_363 fX11_19 mh_o (by rfl) rfl ?_
          refine pw_bipush_n (q := 368) C 50 dX11_does_366 (by decide +kernel) rfl ?_
          refine pw_bipush_n (q := 370) C 6 dX11_does_368 (by decide +kernel) rfl ?_
          refine pw_iload (q := 372) C dX11_does_370 rfl rfl ?_
          refine pw_imul_n (q := 373) C dX11_does_372 rfl ?_
          refine pw_iadd_n (q := 374) C dX11_does_373 rfl ?_
          refine pw_iconst_n (q := 375) C 3 dX11_does_374 (by decide +kernel) rfl ?_
          refine pw_iadd_n (q := 376) C dX11_does_375 rfl ?_
          refine pw_iconst_n (q := 377) C 4 dX11_does_376 (by decide +kernel) rfl ?_
          refine pw_ipgst (q := 378) C dX11_does_377 mh_Q (by omega) (by omega) rfl ?_
          rw [mh_s_Q]
          refine pw_iconst_n (q := 379) C 1 dX11_does_378 (by decide +kernel) rfl ?_
          exact pw_zret C dX11_does_379 rfl (by first | decide +kernel | exact nar_bN _ | exact nar_01 (by omega)) ⟨by omega, by omega⟩ (by
              have hc : cmd Q g = some (stateP Q (g % 100) 4) := by rw [cmd_7 he, cmd7, if_pos ⟨by omega, by omega, g338, g357⟩]
              rw [hc]
              exact RV.mk (v1 rfl) rfl)
        · refine pw_iconst_n (q := 361) C 0 dX11_does_360 (by decide +kernel) rfl ?_
          exact pw_zret C dX11_does_361 rfl (by first | decide +kernel | exact nar_bN _ | exact nar_01 (by omega)) ⟨by omega, by omega⟩ (by
              have hc : cmd Q g = none := by rw [cmd_7 he, cmd7, if_neg (fun q => g357 q.2.2.2)]
              rw [hc]
              exact RV.mk (v0 (fun q => by cases q)) rfl)
  · rw [he]
    refine pw_tableIn (q := 0) 380 C dX11_does_22 (by decide +kernel) (by decide +kernel) (by rfl) (by decide) ?_
    refine pw_aload_n (q := 381) (j := 0) C dX11_does_380 rfl rfl rfl ?_
    refine pw_getf (q := 384) C dX11_does_381 fX11_19 mh_o (by rfl) rfl ?_
    refine pw_rd (q := 387) (cr_s (j := iX11_owedToAll) C dX11_does_384 lX11_122 mX11_owedToAll (ro_mk (by decide) (by decide))  (m_owed mh_Q hI) rfl rfl (Nat.le_of_ble_eq_true rfl) ⟨by omega, by omega⟩) rfl ?_
    refine pw_sipush_n (q := 390) C 1000 dX11_does_387 (by decide +kernel) rfl ?_
    refine pw_iload_n (q := 391) (j := 2) C dX11_does_390 rfl rfl rfl ?_
    refine pw_imul_n (q := 392) C dX11_does_391 rfl ?_
    refine pw_bipush_n (q := 394) C 100 dX11_does_392 (by decide +kernel) rfl ?_
    refine pw_iload_n (q := 395) (j := 3) C dX11_does_394 rfl rfl rfl ?_
    refine pw_imul_n (q := 396) C dX11_does_395 rfl ?_
    refine pw_iadd_n (q := 397) C dX11_does_396 rfl ?_
    refine pw_iload (q := 399) C dX11_does_397 rfl rfl ?_
    refine pw_iadd_n (q := 400) C dX11_does_399 rfl ?_
    rw [show 1000 * (g / 1000 % 10) + 100 * (g / 100 % 10) + (g % 100) = g % 10000 by omega]
    refine pw_icmp_lt (q := 403) 407 C dX11_does_400 (by decide) rfl (fun g400 => ?_) (fun g400 => ?_)
    · refine pw_iconst_n (q := 408) C 0 dX11_does_407 (by decide +kernel) rfl ?_
      exact pw_zret C dX11_does_408 rfl (by first | decide +kernel | exact nar_bN _ | exact nar_01 (by omega)) ⟨by omega, by omega⟩ (by
          have hc : cmd Q g = none := by rw [cmd_8 he, cmd8, if_neg (fun q => absurd g400 (Int32.not_lt.mpr q))]
          rw [hc]
          exact RV.mk (v0 (fun q => by cases q)) rfl)
    · refine pw_iconst_n (q := 404) C 1 dX11_does_403 (by decide +kernel) rfl ?_
      refine pw_goto (q := 0) 408 C dX11_does_404 (by decide) ?_
      exact pw_zret C dX11_does_408 rfl (by first | decide +kernel | exact nar_bN _ | exact nar_01 (by omega)) ⟨by omega, by omega⟩ (by
          have hc : cmd Q g = some (Q) := by rw [cmd_8 he, cmd8, if_pos (Int32.not_lt.mp g400)]
          rw [hc]
          exact RV.mk (v1 rfl) rfl)
  · rw [he]
    refine pw_tableIn (q := 0) 409 C dX11_does_22 (by decide +kernel) (by decide +kernel) (by rfl) (by decide) ?_
    refine pw_iload_n (q := 410) (j := 3) C dX11_does_409 rfl rfl rfl ?_
    refine pw_iload (q := 412) C dX11_does_410 rfl rfl ?_
    refine pw_iadd_n (q := 413) C dX11_does_412 rfl ?_
    refine pw_if_ne_n (q := 416) 445 C dX11_does_413 (by decide) rfl (by omega) (fun g413 => ?_) (fun g413 => ?_)
    · refine pw_iconst_n (q := 446) C 0 dX11_does_445 (by decide +kernel) rfl ?_
      exact pw_zret C dX11_does_446 rfl (by first | decide +kernel | exact nar_bN _ | exact nar_01 (by omega)) ⟨by omega, by omega⟩ (by
          have hc : cmd Q g = none := by rw [cmd_9 he, cmd9, if_neg (fun q => by omega)]
          rw [hc]
          exact RV.mk (v0 (fun q => by cases q)) rfl)
    · refine pw_aload_n (q := 417) (j := 0) C dX11_does_416 rfl rfl rfl ?_
      refine pw_getf (q := 420) C dX11_does_417 fX11_19 mh_o (by rfl) rfl ?_
      refine pw_iload_n (q := 421) (j := 2) C dX11_does_420 rfl rfl rfl ?_
      refine pw_rd (q := 424) (cr_s (j := iX11_isCourse) C dX11_does_421 lX11_126 mX11_isCourse (ro_mk (by decide) (by decide))  (m_isCoursen mh_Q (by omega) (by omega)) rfl rfl (Nat.le_of_ble_eq_true rfl) ⟨by omega, by omega⟩) rfl ?_
      refine pw_if_eq_b (q := 427) 445 C dX11_does_424 (by decide) rfl (fun g424 => ?_) (fun g424 => ?_)
      · refine pw_iconst_n (q := 446) C 0 dX11_does_445 (by decide +kernel) rfl ?_
        exact pw_zret C dX11_does_446 rfl (by first | decide +kernel | exact nar_bN _ | exact nar_01 (by omega)) ⟨by omega, by omega⟩ (by
            have hc : cmd Q g = none := by rw [cmd_9 he, cmd9, if_neg (fun q => g424 q.2.2.1)]
            rw [hc]
            exact RV.mk (v0 (fun q => by cases q)) rfl)
      · have q9 := cntC_le hI (g / 1000 % 10) 3
        refine pw_aload_n (q := 428) (j := 0) C dX11_does_427 rfl rfl rfl ?_
        refine pw_getf (q := 431) C dX11_does_428 fX11_19 mh_o (by rfl) rfl ?_
        refine pw_iload_n (q := 432) (j := 2) C dX11_does_431 rfl rfl rfl ?_
        refine pw_iconst_n (q := 433) C 3 dX11_does_432 (by decide +kernel) rfl ?_
        refine pw_rd (q := 436) (cr_s (j := iX11_stonesOf) C dX11_does_433 lX11_43 mX11_stonesOf (ro_mk (by decide) (by decide))  (m_stonesOf mh_Q hI (by omega) (by omega)) rfl rfl (Nat.le_of_ble_eq_true rfl) ⟨by omega, by omega⟩) rfl ?_
        refine pw_iload (q := 438) C dX11_does_436 rfl rfl ?_
        refine pw_icmp_ne_n (q := 441) 445 C dX11_does_438 (by decide) rfl (by omega) (by omega) (fun g438 => ?_) (fun g438 => ?_)
        · refine pw_iconst_n (q := 446) C 0 dX11_does_445 (by decide +kernel) rfl ?_
          exact pw_zret C dX11_does_446 rfl (by first | decide +kernel | exact nar_bN _ | exact nar_01 (by omega)) ⟨by omega, by omega⟩ (by
              have hc : cmd Q g = none := by rw [cmd_9 he, cmd9, if_neg (fun q => g438 q.2.2.2)]
              rw [hc]
              exact RV.mk (v0 (fun q => by cases q)) rfl)
        · refine pw_iconst_n (q := 442) C 1 dX11_does_441 (by decide +kernel) rfl ?_
          refine pw_goto (q := 0) 446 C dX11_does_442 (by decide) ?_
          exact pw_zret C dX11_does_446 rfl (by first | decide +kernel | exact nar_bN _ | exact nar_01 (by omega)) ⟨by omega, by omega⟩ (by
              have hc : cmd Q g = some (Q) := by rw [cmd_9 he, cmd9, if_pos ⟨by omega, by omega, g424, g438⟩]
              rw [hc]
              exact RV.mk (v1 rfl) rfl)
theorem nL_ne0 {a : Nat} (h : 0 < a) (ha : a < 2 ^ 63) : ¬ nL a = 0 := by
  intro q
  have h1 := congrArg Int64.toInt q
  rw [nL_toInt ha] at h1
  have h0 : (0 : Int64).toInt = 0 := by decide +kernel
  omega
theorem pw3 {k : Nat} (h : k ≤ 3) : 0 < 100000 ^ k ∧ 100000 ^ k < 2 ^ 63 := by
  rcases (show k = 0 ∨ k = 1 ∨ k = 2 ∨ k = 3 by omega) with rfl | rfl | rfl | rfl <;> decide
theorem nL_le {a b : Nat} (ha : a < 2 ^ 63) (hb : b < 2 ^ 63) : nL a ≤ nL b ↔ a ≤ b := by
  rw [Int64.le_iff_toInt_le, nL_toInt ha, nL_toInt hb]
  omega
theorem sc_in {w : Int64} {k : Nat} (hk : k ≤ 3) : ((0 : Int64) ≤ w ∧ w ≤ nL (100000 ^ k) - 1) ↔ (0 ≤ w ∧ grp (idxL w) k = 0) := by
  obtain ⟨h1, h2⟩ := pw3 hk
  have e1 : nL (100000 ^ k) - 1 = nL (100000 ^ k - 1) := by
    rw [← nL_sub h1]
    rfl
  rw [e1]
  refine and_congr_right (fun h0 => ?_)
  obtain ⟨v, hv, rfl⟩ := nL_of h0
  rw [idxL_n hv, nL_le hv (by omega), grp, Nat.div_eq_zero_iff]
  omega
theorem grp_mod {v j : Nat} : v % 100000 ^ (j + 1) / 100000 ^ j = grp v j % 100000 := by
  rw [grp, Nat.pow_succ]
  exact Nat.mod_mul_right_div_self v _ _
theorem mod_mod {v j : Nat} : v % 100000 ^ (j + 1) % 100000 ^ j = v % 100000 ^ j := Nat.mod_mod_of_dvd v ⟨100000, Nat.pow_succ ..⟩
theorem pow_div {j : Nat} : 100000 ^ (j + 1) / 100000 = 100000 ^ j := by
  rw [Nat.pow_succ]
  exact Nat.mul_div_cancel _ (by decide)
set_option maxHeartbeats 200000 in
set_option maxRecDepth 100000 in
theorem c_runScript {M : PH} {m rf D0 : Nat} {S : St} (hM : RepM M m rf S) (hB : MB S) (hS : SInv D0 S) (hD9 : D0 < 90000) (c1 : Int32) (w : Int64) : Run iX11_runScript [.ref m, .int c1, .long w] M 0 0 (QM M m (spScript S c1 w)) := by
  obtain ⟨M0, sp, ft, R, Q, D, K, L, rfl, hD, hK, hF⟩ := hM
  have hI := hS.1.1
  have hb := hI.b
  obtain ⟨hB1, hB2, hB3, hB4⟩ := id hB
  refine Run.of (l0 := [some (.ref m), some (.int c1), some (.long w), none, none, none, none, none, none, none]) (by decide +kernel) (Nat.le_of_ble_eq_true rfl) (by rfl) (fun Γ G C => ?_)
  have loop84 : ∀ (v n9 : Nat), v < 2 ^ 63 → (inW (nI n9) 1 3 ∧ 0 ≤ nL v ∧ grp (idxL (nL v)) (idx (nI n9)) = 0) → ∀ (d i : Nat), i + d = n9 → ∀ (Q9 : Nat → Nat) (x9 : Option Value), n9 ≤ 3 → Inv Q9 → Q9 1 ≤ D0 + i → runS v n9 d i Q9 = runS v n9 n9 0 (sP S) → PW Γ G (ZJ Γ G 0 0 (QM (mh M0 m rf (sN S) sp ft (sM S) (sT S) R (sP S) Q D K (sB S) L) m (spScript S (nI n9) (nL v)))) 84 [some (.ref m), some (.int (nI n9)), some (.long (nL v)), none, some (.long (nL (100000 ^ (n9 - i)))), none, some (.long (nL (v % 100000 ^ (n9 - i)))), none, some (.int (nI i)), x9] [] (mh M0 m 0 (sN S) sp ft (sM S) (sT S) R (sP S) Q9 D K (sB S) L) 0 0 := by
    intro v n9 hv hsp
    intro d
    induction d with
    | zero =>
      intro i hd
      intro Q9 x9 hn hJ hd9 hr
      refine pw_iload (q := 86) C dX11_runScript_84 rfl rfl ?_
      refine pw_iload_n (q := 87) (j := 1) C dX11_runScript_86 rfl rfl rfl ?_
      refine pw_icmp_ge_n (q := 90) 165 C dX11_runScript_87 (by decide) rfl (by omega) (by omega) (fun g87 => ?_) (fun g87 => absurd g87 (by omega))
      refine pw_bipush (q := 167) (v := (-9)) C dX11_runScript_165 (by decide +kernel) rfl ?_
      exact pw_iret C dX11_runScript_167 rfl ⟨by omega, by omega⟩ ((QM.ok (by rw [spScript, if_pos hsp, idxL_n hv, idx_n (by omega), ← hr]; rfl) (RepM.mk hD hK hF) same_mh))
    | succ d ih =>
      intro i hd
      intro Q9 x9 hn hJ hd9 hr
      refine pw_iload (q := 86) C dX11_runScript_84 rfl rfl ?_
      refine pw_iload_n (q := 87) (j := 1) C dX11_runScript_86 rfl rfl rfl ?_
      refine pw_icmp_ge_n (q := 90) 165 C dX11_runScript_87 (by decide) rfl (by omega) (by omega) (fun g87 => absurd g87 (by omega)) (fun g87 => ?_)
      rw [show n9 - i = (n9 - 1 - i) + 1 by omega]
      have w1 := pw3 (k := (n9 - 1 - i)) (by omega)
      have w2 := pw3 (k := (n9 - 1 - i) + 1) (by omega)
      have w3 : v % 100000 ^ ((n9 - 1 - i) + 1) < 100000 ^ ((n9 - 1 - i) + 1) := Nat.mod_lt _ w2.1
      have hg : grp v (n9 - 1 - i) % 100000 < 100000 := Nat.mod_lt _ (by decide)
      refine pw_lload (q := 92) C dX11_runScript_90 rfl rfl ?_
      refine pw_ldc2 (q := 95) C dX11_runScript_92 cgX11_183 rfl ?_
      refine pw_ldiv (q := 96) C dX11_runScript_95 (by decide) rfl ?_
      rw [nL_1, nL_div w2.2 (by decide), pow_div]
      refine pw_lstore (q := 98) C dX11_runScript_96 rfl (by decide) rfl ?_
      refine pw_lload (q := 100) C dX11_runScript_98 rfl rfl ?_
      refine pw_lload (q := 102) C dX11_runScript_100 rfl rfl ?_
      refine pw_ldiv (q := 103) C dX11_runScript_102 (nL_ne0 (pw3 (by omega)).1 (pw3 (by omega)).2) rfl ?_
      rw [nL_div (by omega) w1.2, grp_mod]
      refine pw_l2i (q := 104) C dX11_runScript_103 rfl ?_
      rw [nL_I]
      refine pw_istore (q := 106) C dX11_runScript_104 rfl (by decide) rfl ?_
      refine pw_lload (q := 108) C dX11_runScript_106 rfl rfl ?_
      refine pw_lload (q := 110) C dX11_runScript_108 rfl rfl ?_
      refine pw_lrem (q := 111) C dX11_runScript_110 (nL_ne0 (pw3 (by omega)).1 (pw3 (by omega)).2) rfl ?_
      rw [nL_rem (by omega) w1.2, mod_mod]
      refine pw_lstore (q := 113) C dX11_runScript_111 rfl (by decide) rfl ?_
      refine pw_aload_n (q := 114) (j := 0) C dX11_runScript_113 rfl rfl rfl ?_
      refine pw_iload (q := 116) C dX11_runScript_114 rfl rfl ?_
      refine pw_sipush_n (q := 119) C 10000 dX11_runScript_116 (by decide +kernel) rfl ?_
      refine pw_idiv_n (q := 120) C dX11_runScript_119 (by omega) (by omega) (by omega) rfl ?_
      refine pw_iload (q := 122) C dX11_runScript_120 rfl rfl ?_
      refine pw_sipush_n (q := 125) C 1000 dX11_runScript_122 (by decide +kernel) rfl ?_
      refine pw_idiv_n (q := 126) C dX11_runScript_125 (by omega) (by omega) (by omega) rfl ?_
      refine pw_bipush_n (q := 128) C 10 dX11_runScript_126 (by decide +kernel) rfl ?_
      refine pw_irem_n (q := 129) C dX11_runScript_128 (by omega) (by omega) (by omega) rfl ?_
      refine pw_iload (q := 131) C dX11_runScript_129 rfl rfl ?_
      refine pw_bipush_n (q := 133) C 100 dX11_runScript_131 (by decide +kernel) rfl ?_
      refine pw_idiv_n (q := 134) C dX11_runScript_133 (by omega) (by omega) (by omega) rfl ?_
      refine pw_bipush_n (q := 136) C 10 dX11_runScript_134 (by decide +kernel) rfl ?_
      refine pw_irem_n (q := 137) C dX11_runScript_136 (by omega) (by omega) (by omega) rfl ?_
      refine pw_iload (q := 139) C dX11_runScript_137 rfl rfl ?_
      refine pw_bipush_n (q := 141) C 10 dX11_runScript_139 (by decide +kernel) rfl ?_
      refine pw_idiv_n (q := 142) C dX11_runScript_141 (by omega) (by omega) (by omega) rfl ?_
      refine pw_bipush_n (q := 144) C 10 dX11_runScript_142 (by decide +kernel) rfl ?_
      refine pw_irem_n (q := 145) C dX11_runScript_144 (by omega) (by omega) (by omega) rfl ?_
      refine pw_iload (q := 147) C dX11_runScript_145 rfl rfl ?_
      refine pw_bipush_n (q := 149) C 10 dX11_runScript_147 (by decide +kernel) rfl ?_
      refine pw_irem_n (q := 150) C dX11_runScript_149 (by omega) (by omega) (by omega) rfl ?_
      refine pw_val (q := 153) (cr_v (j := iX11_does) C dX11_runScript_150 lX11_191 mX11_does (ro_mk (by decide) (by decide)) mh_o rfl (m_does hJ hg) rfl rfl (Nat.le_of_ble_eq_true rfl) ⟨by omega, by omega⟩) rfl (fun M150 e150 => ?_)
      subst e150
      refine pw_if_ne_b (q := 156) 159 C dX11_runScript_153 (by decide) rfl (fun g153 => ?_) (fun g153 => ?_)
      · refine pw_iinc_n (q := 162) C 1 dX11_runScript_159 rfl (by decide +kernel) rfl (by decide) rfl ?_
        refine pw_goto (q := 0) 84 C dX11_runScript_162 (by decide) ?_
        have z9 := ih (i + 1) (by omega) _ (some (.int (nI (grp v (n9 - 1 - i) % 100000)))) hn (cmd_inv2 hJ (by omega) g153).1 (Nat.le_trans (cmd_inv2 hJ (by omega) g153).2 (by omega)) (by rw [← hr, runS, if_pos g153])
        rw [show n9 - (i + 1) = (n9 - 1 - i) by omega] at z9
        exact z9
      · refine pw_iload (q := 158) C dX11_runScript_156 rfl rfl ?_
        exact pw_iret C dX11_runScript_158 rfl ⟨by omega, by omega⟩ ((QM.ok (by rw [spScript, if_pos hsp, idxL_n hv, idx_n (show n9 < 2147483648 by omega), ← hr, runS, if_neg g153]) (RepM.mk hD hK hF) same_mh))
  by_cases h1 : inW c1 1 3
  · obtain ⟨n9, hl1, hk1, rfl⟩ := inW_n h1 (by omega) (by omega)
    rcases (show n9 = 1 ∨ n9 = 2 ∨ n9 = 3 by omega) with rfl | rfl | rfl
    · skip
      refine pw_iload_n (q := 1) (j := 1) C dX11_runScript_0 rfl rfl rfl ?_
      refine pw_iconst_n (q := 2) C 1 dX11_runScript_1 (by decide +kernel) rfl ?_
      refine pw_icmp_ne_n (q := 5) 11 C dX11_runScript_2 (by decide) rfl (by omega) (by omega) (fun g2 => absurd g2 (fun q => q rfl)) (fun g2 => ?_)
      refine pw_ldc2 (q := 8) C dX11_runScript_5 cgX11_183 rfl ?_
      refine pw_goto (q := 0) 25 C dX11_runScript_8 (by decide) ?_
      rw [show (100000 : Int64) = nL (100000 ^ 1) by decide +kernel]
      refine pw_lstore (q := 27) C dX11_runScript_25 rfl (by decide) rfl ?_
      refine pw_aload_n (q := 28) (j := 0) C dX11_runScript_27 rfl rfl rfl ?_
      refine pw_iload_n (q := 29) (j := 1) C dX11_runScript_28 rfl rfl rfl ?_
      refine pw_i2l (q := 30) C dX11_runScript_29 rfl ?_
      refine pw_lconst (q := 31) (v := 1) C dX11_runScript_30 (by decide +kernel) rfl ?_
      refine pw_ldc2 (q := 34) C dX11_runScript_31 cgX11_189 rfl ?_
      refine pw_rd (q := 37) (cr_s (j := iX11_in) C dX11_runScript_34 lX11_39 mX11_in (ro_mk (by decide) (by decide))  (rv_t ((inW_l (lo := 1) (hi := 3) (by decide +kernel) (by decide +kernel)).mpr h1) m_in) rfl rfl (Nat.le_of_ble_eq_true rfl) ⟨by omega, by omega⟩) rfl ?_
      refine pw_if_eq_n (q := 40) 56 C dX11_runScript_37 (by decide) rfl (by omega) (fun g37 => absurd g37 (by decide)) (fun g37 => ?_)
      by_cases hv9 : 0 ≤ w ∧ grp (idxL w) 1 = 0
      · refine pw_lload_n (q := 41) (j := 2) C dX11_runScript_40 rfl rfl rfl ?_
        refine pw_lconst (q := 42) (v := 0) C dX11_runScript_41 (by decide +kernel) rfl ?_
        refine pw_lload (q := 44) C dX11_runScript_42 rfl rfl ?_
        refine pw_lconst (q := 45) (v := 1) C dX11_runScript_44 (by decide +kernel) rfl ?_
        refine pw_lsub (q := 46) C dX11_runScript_45 rfl ?_
        refine pw_rd (q := 49) (cr_s (j := iX11_in) C dX11_runScript_46 lX11_39 mX11_in (ro_mk (by decide) (by decide))  (rv_t ((sc_in (by omega)).mpr hv9) m_in) rfl rfl (Nat.le_of_ble_eq_true rfl) ⟨by omega, by omega⟩) rfl ?_
        refine pw_if_eq_n (q := 52) 56 C dX11_runScript_49 (by decide) rfl (by omega) (fun g49 => absurd g49 (by decide)) (fun g49 => ?_)
        refine pw_iconst_n (q := 53) C 0 dX11_runScript_52 (by decide +kernel) rfl ?_
        refine pw_goto (q := 0) 57 C dX11_runScript_53 (by decide) ?_
        refine pw_val (q := 60) (cr_v (j := iX11_refused) C dX11_runScript_57 lX11_76 mX11_refused (ro_mk (by decide) (by decide)) mh_o rfl (rv_f (by decide) (m_refused 0 (by decide))) rfl rfl (Nat.le_of_ble_eq_true rfl) ⟨by omega, by omega⟩) rfl (fun M57 e57 => ?_)
        subst e57
        refine pw_if_eq_n (q := 63) 65 C dX11_runScript_60 (by decide) rfl (by omega) (fun g60 => ?_) (fun g60 => absurd g60 (fun q => q rfl))
        refine pw_aload_n (q := 66) (j := 0) C dX11_runScript_65 rfl rfl rfl ?_
        refine pw_getf (q := 69) C dX11_runScript_66 fX11_16 mh_o (by rfl) rfl ?_
        refine pw_iconst_n (q := 70) C 0 dX11_runScript_69 (by decide +kernel) rfl ?_
        refine pw_aload_n (q := 71) (j := 0) C dX11_runScript_70 rfl rfl rfl ?_
        refine pw_getf (q := 74) C dX11_runScript_71 fX11_19 mh_o (by rfl) rfl ?_
        refine pw_iconst_n (q := 75) C 0 dX11_runScript_74 (by decide +kernel) rfl ?_
        refine pw_void (q := 78) (cr_s (j := iX11_copyPage) C dX11_runScript_75 lX11_110 mX11_copyPage (ro_mk (by decide) (by decide))  (m_copy mh_P mh_Q (by omega) (by decide) (by decide) (by decide) (by decide)) rfl rfl (Nat.le_of_ble_eq_true rfl) ⟨by omega, by omega⟩) rfl (fun M75 e75 => ?_)
        rw [mh_s_Q] at e75
        subst e75
        refine pw_norm (mh_Q) (g := pg (sP S)) (fun k hk => by show nI (cpy (sP S) 0 Q 0 194 k) = nI (sP S k); rw [cpy, if_pos (by omega), Nat.sub_zero, Nat.zero_add]) ?_
        rw [mh_s_Q]
        refine pw_lload_n (q := 79) (j := 2) C dX11_runScript_78 rfl rfl rfl ?_
        refine pw_lstore (q := 81) C dX11_runScript_79 rfl (by decide) rfl ?_
        refine pw_iconst_n (q := 82) C 0 dX11_runScript_81 (by decide +kernel) rfl ?_
        refine pw_istore (q := 84) C dX11_runScript_82 rfl (by decide) rfl ?_
        obtain ⟨v, hv, rfl⟩ := nL_of hv9.1
        have hv2 := hv9.2
        rw [idxL_n hv] at hv2
        have hsp : inW (nI 1) 1 3 ∧ 0 ≤ nL v ∧ grp (idxL (nL v)) (idx (nI 1)) = 0 := ⟨h1, hv9.1, by rw [idx_n (by decide)]; exact hv9.2⟩
        have z9 := loop84 v 1 hv hsp 1 0 (by omega) (sP S) none (by omega) hI hS.1.2 rfl
        rw [show 1 - 0 = 1 from rfl, Nat.mod_eq_of_lt (show v < 100000 ^ 1 from Nat.lt_of_not_le (fun q => by rw [grp] at hv2; exact absurd (Nat.div_pos q (by decide)) (by rw [hv2]; exact Nat.lt_irrefl 0)))] at z9
        exact z9
      · refine pw_lload_n (q := 41) (j := 2) C dX11_runScript_40 rfl rfl rfl ?_
        refine pw_lconst (q := 42) (v := 0) C dX11_runScript_41 (by decide +kernel) rfl ?_
        refine pw_lload (q := 44) C dX11_runScript_42 rfl rfl ?_
        refine pw_lconst (q := 45) (v := 1) C dX11_runScript_44 (by decide +kernel) rfl ?_
        refine pw_lsub (q := 46) C dX11_runScript_45 rfl ?_
        refine pw_rd (q := 49) (cr_s (j := iX11_in) C dX11_runScript_46 lX11_39 mX11_in (ro_mk (by decide) (by decide))  (rv_f (fun q => hv9 ((sc_in (by omega)).mp q)) m_in) rfl rfl (Nat.le_of_ble_eq_true rfl) ⟨by omega, by omega⟩) rfl ?_
        refine pw_if_eq_n (q := 52) 56 C dX11_runScript_49 (by decide) rfl (by omega) (fun g49 => ?_) (fun g49 => absurd g49 (fun q => q rfl))
        refine pw_iconst_n (q := 57) C 1 dX11_runScript_56 (by decide +kernel) rfl ?_
        refine pw_val (q := 60) (cr_v (j := iX11_refused) C dX11_runScript_57 lX11_76 mX11_refused (ro_mk (by decide) (by decide)) mh_o rfl (rv_t (by decide) (m_refused 1 (by decide))) rfl rfl (Nat.le_of_ble_eq_true rfl) ⟨by omega, by omega⟩) rfl (fun M57 e57 => ?_)
        subst e57
        refine pw_if_eq_n (q := 63) 65 C dX11_runScript_60 (by decide) rfl (by omega) (fun g60 => absurd g60 (by decide)) (fun g60 => ?_)
        refine pw_iconst_n (q := 64) C 0 dX11_runScript_63 (by decide +kernel) rfl ?_
        exact pw_iret C dX11_runScript_64 rfl ⟨by omega, by omega⟩ ((QM.no 0 (by rw [spScript, if_neg (fun q => hv9 q.2)]) (RepM.mk hD hK hF) same_mh))
    · skip
      refine pw_iload_n (q := 1) (j := 1) C dX11_runScript_0 rfl rfl rfl ?_
      refine pw_iconst_n (q := 2) C 1 dX11_runScript_1 (by decide +kernel) rfl ?_
      refine pw_icmp_ne_n (q := 5) 11 C dX11_runScript_2 (by decide) rfl (by omega) (by omega) (fun g2 => ?_) (fun g2 => absurd g2 (by decide))
      refine pw_iload_n (q := 12) (j := 1) C dX11_runScript_11 rfl rfl rfl ?_
      refine pw_iconst_n (q := 13) C 2 dX11_runScript_12 (by decide +kernel) rfl ?_
      refine pw_icmp_ne_n (q := 16) 22 C dX11_runScript_13 (by decide) rfl (by omega) (by omega) (fun g13 => absurd g13 (fun q => q rfl)) (fun g13 => ?_)
      refine pw_ldc2 (q := 19) C dX11_runScript_16 cgX11_185 rfl ?_
      refine pw_goto (q := 0) 25 C dX11_runScript_19 (by decide) ?_
      rw [show (10000000000 : Int64) = nL (100000 ^ 2) by decide +kernel]
      refine pw_lstore (q := 27) C dX11_runScript_25 rfl (by decide) rfl ?_
      refine pw_aload_n (q := 28) (j := 0) C dX11_runScript_27 rfl rfl rfl ?_
      refine pw_iload_n (q := 29) (j := 1) C dX11_runScript_28 rfl rfl rfl ?_
      refine pw_i2l (q := 30) C dX11_runScript_29 rfl ?_
      refine pw_lconst (q := 31) (v := 1) C dX11_runScript_30 (by decide +kernel) rfl ?_
      refine pw_ldc2 (q := 34) C dX11_runScript_31 cgX11_189 rfl ?_
      refine pw_rd (q := 37) (cr_s (j := iX11_in) C dX11_runScript_34 lX11_39 mX11_in (ro_mk (by decide) (by decide))  (rv_t ((inW_l (lo := 1) (hi := 3) (by decide +kernel) (by decide +kernel)).mpr h1) m_in) rfl rfl (Nat.le_of_ble_eq_true rfl) ⟨by omega, by omega⟩) rfl ?_
      refine pw_if_eq_n (q := 40) 56 C dX11_runScript_37 (by decide) rfl (by omega) (fun g37 => absurd g37 (by decide)) (fun g37 => ?_)
      by_cases hv9 : 0 ≤ w ∧ grp (idxL w) 2 = 0
      · refine pw_lload_n (q := 41) (j := 2) C dX11_runScript_40 rfl rfl rfl ?_
        refine pw_lconst (q := 42) (v := 0) C dX11_runScript_41 (by decide +kernel) rfl ?_
        refine pw_lload (q := 44) C dX11_runScript_42 rfl rfl ?_
        refine pw_lconst (q := 45) (v := 1) C dX11_runScript_44 (by decide +kernel) rfl ?_
        refine pw_lsub (q := 46) C dX11_runScript_45 rfl ?_
        refine pw_rd (q := 49) (cr_s (j := iX11_in) C dX11_runScript_46 lX11_39 mX11_in (ro_mk (by decide) (by decide))  (rv_t ((sc_in (by omega)).mpr hv9) m_in) rfl rfl (Nat.le_of_ble_eq_true rfl) ⟨by omega, by omega⟩) rfl ?_
        refine pw_if_eq_n (q := 52) 56 C dX11_runScript_49 (by decide) rfl (by omega) (fun g49 => absurd g49 (by decide)) (fun g49 => ?_)
        refine pw_iconst_n (q := 53) C 0 dX11_runScript_52 (by decide +kernel) rfl ?_
        refine pw_goto (q := 0) 57 C dX11_runScript_53 (by decide) ?_
        refine pw_val (q := 60) (cr_v (j := iX11_refused) C dX11_runScript_57 lX11_76 mX11_refused (ro_mk (by decide) (by decide)) mh_o rfl (rv_f (by decide) (m_refused 0 (by decide))) rfl rfl (Nat.le_of_ble_eq_true rfl) ⟨by omega, by omega⟩) rfl (fun M57 e57 => ?_)
        subst e57
        refine pw_if_eq_n (q := 63) 65 C dX11_runScript_60 (by decide) rfl (by omega) (fun g60 => ?_) (fun g60 => absurd g60 (fun q => q rfl))
        refine pw_aload_n (q := 66) (j := 0) C dX11_runScript_65 rfl rfl rfl ?_
        refine pw_getf (q := 69) C dX11_runScript_66 fX11_16 mh_o (by rfl) rfl ?_
        refine pw_iconst_n (q := 70) C 0 dX11_runScript_69 (by decide +kernel) rfl ?_
        refine pw_aload_n (q := 71) (j := 0) C dX11_runScript_70 rfl rfl rfl ?_
        refine pw_getf (q := 74) C dX11_runScript_71 fX11_19 mh_o (by rfl) rfl ?_
        refine pw_iconst_n (q := 75) C 0 dX11_runScript_74 (by decide +kernel) rfl ?_
        refine pw_void (q := 78) (cr_s (j := iX11_copyPage) C dX11_runScript_75 lX11_110 mX11_copyPage (ro_mk (by decide) (by decide))  (m_copy mh_P mh_Q (by omega) (by decide) (by decide) (by decide) (by decide)) rfl rfl (Nat.le_of_ble_eq_true rfl) ⟨by omega, by omega⟩) rfl (fun M75 e75 => ?_)
        rw [mh_s_Q] at e75
        subst e75
        refine pw_norm (mh_Q) (g := pg (sP S)) (fun k hk => by show nI (cpy (sP S) 0 Q 0 194 k) = nI (sP S k); rw [cpy, if_pos (by omega), Nat.sub_zero, Nat.zero_add]) ?_
        rw [mh_s_Q]
        refine pw_lload_n (q := 79) (j := 2) C dX11_runScript_78 rfl rfl rfl ?_
        refine pw_lstore (q := 81) C dX11_runScript_79 rfl (by decide) rfl ?_
        refine pw_iconst_n (q := 82) C 0 dX11_runScript_81 (by decide +kernel) rfl ?_
        refine pw_istore (q := 84) C dX11_runScript_82 rfl (by decide) rfl ?_
        obtain ⟨v, hv, rfl⟩ := nL_of hv9.1
        have hv2 := hv9.2
        rw [idxL_n hv] at hv2
        have hsp : inW (nI 2) 1 3 ∧ 0 ≤ nL v ∧ grp (idxL (nL v)) (idx (nI 2)) = 0 := ⟨h1, hv9.1, by rw [idx_n (by decide)]; exact hv9.2⟩
        have z9 := loop84 v 2 hv hsp 2 0 (by omega) (sP S) none (by omega) hI hS.1.2 rfl
        rw [show 2 - 0 = 2 from rfl, Nat.mod_eq_of_lt (show v < 100000 ^ 2 from Nat.lt_of_not_le (fun q => by rw [grp] at hv2; exact absurd (Nat.div_pos q (by decide)) (by rw [hv2]; exact Nat.lt_irrefl 0)))] at z9
        exact z9
      · refine pw_lload_n (q := 41) (j := 2) C dX11_runScript_40 rfl rfl rfl ?_
        refine pw_lconst (q := 42) (v := 0) C dX11_runScript_41 (by decide +kernel) rfl ?_
        refine pw_lload (q := 44) C dX11_runScript_42 rfl rfl ?_
        refine pw_lconst (q := 45) (v := 1) C dX11_runScript_44 (by decide +kernel) rfl ?_
        refine pw_lsub (q := 46) C dX11_runScript_45 rfl ?_
        refine pw_rd (q := 49) (cr_s (j := iX11_in) C dX11_runScript_46 lX11_39 mX11_in (ro_mk (by decide) (by decide))  (rv_f (fun q => hv9 ((sc_in (by omega)).mp q)) m_in) rfl rfl (Nat.le_of_ble_eq_true rfl) ⟨by omega, by omega⟩) rfl ?_
        refine pw_if_eq_n (q := 52) 56 C dX11_runScript_49 (by decide) rfl (by omega) (fun g49 => ?_) (fun g49 => absurd g49 (fun q => q rfl))
        refine pw_iconst_n (q := 57) C 1 dX11_runScript_56 (by decide +kernel) rfl ?_
        refine pw_val (q := 60) (cr_v (j := iX11_refused) C dX11_runScript_57 lX11_76 mX11_refused (ro_mk (by decide) (by decide)) mh_o rfl (rv_t (by decide) (m_refused 1 (by decide))) rfl rfl (Nat.le_of_ble_eq_true rfl) ⟨by omega, by omega⟩) rfl (fun M57 e57 => ?_)
        subst e57
        refine pw_if_eq_n (q := 63) 65 C dX11_runScript_60 (by decide) rfl (by omega) (fun g60 => absurd g60 (by decide)) (fun g60 => ?_)
        refine pw_iconst_n (q := 64) C 0 dX11_runScript_63 (by decide +kernel) rfl ?_
        exact pw_iret C dX11_runScript_64 rfl ⟨by omega, by omega⟩ ((QM.no 0 (by rw [spScript, if_neg (fun q => hv9 q.2)]) (RepM.mk hD hK hF) same_mh))
    · skip
      refine pw_iload_n (q := 1) (j := 1) C dX11_runScript_0 rfl rfl rfl ?_
      refine pw_iconst_n (q := 2) C 1 dX11_runScript_1 (by decide +kernel) rfl ?_
      refine pw_icmp_ne_n (q := 5) 11 C dX11_runScript_2 (by decide) rfl (by omega) (by omega) (fun g2 => ?_) (fun g2 => absurd g2 (by decide))
      refine pw_iload_n (q := 12) (j := 1) C dX11_runScript_11 rfl rfl rfl ?_
      refine pw_iconst_n (q := 13) C 2 dX11_runScript_12 (by decide +kernel) rfl ?_
      refine pw_icmp_ne_n (q := 16) 22 C dX11_runScript_13 (by decide) rfl (by omega) (by omega) (fun g13 => ?_) (fun g13 => absurd g13 (by decide))
      refine pw_ldc2 (q := 25) C dX11_runScript_22 cgX11_187 rfl ?_
      rw [show (1000000000000000 : Int64) = nL (100000 ^ 3) by decide +kernel]
      refine pw_lstore (q := 27) C dX11_runScript_25 rfl (by decide) rfl ?_
      refine pw_aload_n (q := 28) (j := 0) C dX11_runScript_27 rfl rfl rfl ?_
      refine pw_iload_n (q := 29) (j := 1) C dX11_runScript_28 rfl rfl rfl ?_
      refine pw_i2l (q := 30) C dX11_runScript_29 rfl ?_
      refine pw_lconst (q := 31) (v := 1) C dX11_runScript_30 (by decide +kernel) rfl ?_
      refine pw_ldc2 (q := 34) C dX11_runScript_31 cgX11_189 rfl ?_
      refine pw_rd (q := 37) (cr_s (j := iX11_in) C dX11_runScript_34 lX11_39 mX11_in (ro_mk (by decide) (by decide))  (rv_t ((inW_l (lo := 1) (hi := 3) (by decide +kernel) (by decide +kernel)).mpr h1) m_in) rfl rfl (Nat.le_of_ble_eq_true rfl) ⟨by omega, by omega⟩) rfl ?_
      refine pw_if_eq_n (q := 40) 56 C dX11_runScript_37 (by decide) rfl (by omega) (fun g37 => absurd g37 (by decide)) (fun g37 => ?_)
      by_cases hv9 : 0 ≤ w ∧ grp (idxL w) 3 = 0
      · refine pw_lload_n (q := 41) (j := 2) C dX11_runScript_40 rfl rfl rfl ?_
        refine pw_lconst (q := 42) (v := 0) C dX11_runScript_41 (by decide +kernel) rfl ?_
        refine pw_lload (q := 44) C dX11_runScript_42 rfl rfl ?_
        refine pw_lconst (q := 45) (v := 1) C dX11_runScript_44 (by decide +kernel) rfl ?_
        refine pw_lsub (q := 46) C dX11_runScript_45 rfl ?_
        refine pw_rd (q := 49) (cr_s (j := iX11_in) C dX11_runScript_46 lX11_39 mX11_in (ro_mk (by decide) (by decide))  (rv_t ((sc_in (by omega)).mpr hv9) m_in) rfl rfl (Nat.le_of_ble_eq_true rfl) ⟨by omega, by omega⟩) rfl ?_
        refine pw_if_eq_n (q := 52) 56 C dX11_runScript_49 (by decide) rfl (by omega) (fun g49 => absurd g49 (by decide)) (fun g49 => ?_)
        refine pw_iconst_n (q := 53) C 0 dX11_runScript_52 (by decide +kernel) rfl ?_
        refine pw_goto (q := 0) 57 C dX11_runScript_53 (by decide) ?_
        refine pw_val (q := 60) (cr_v (j := iX11_refused) C dX11_runScript_57 lX11_76 mX11_refused (ro_mk (by decide) (by decide)) mh_o rfl (rv_f (by decide) (m_refused 0 (by decide))) rfl rfl (Nat.le_of_ble_eq_true rfl) ⟨by omega, by omega⟩) rfl (fun M57 e57 => ?_)
        subst e57
        refine pw_if_eq_n (q := 63) 65 C dX11_runScript_60 (by decide) rfl (by omega) (fun g60 => ?_) (fun g60 => absurd g60 (fun q => q rfl))
        refine pw_aload_n (q := 66) (j := 0) C dX11_runScript_65 rfl rfl rfl ?_
        refine pw_getf (q := 69) C dX11_runScript_66 fX11_16 mh_o (by rfl) rfl ?_
        refine pw_iconst_n (q := 70) C 0 dX11_runScript_69 (by decide +kernel) rfl ?_
        refine pw_aload_n (q := 71) (j := 0) C dX11_runScript_70 rfl rfl rfl ?_
        refine pw_getf (q := 74) C dX11_runScript_71 fX11_19 mh_o (by rfl) rfl ?_
        refine pw_iconst_n (q := 75) C 0 dX11_runScript_74 (by decide +kernel) rfl ?_
        refine pw_void (q := 78) (cr_s (j := iX11_copyPage) C dX11_runScript_75 lX11_110 mX11_copyPage (ro_mk (by decide) (by decide))  (m_copy mh_P mh_Q (by omega) (by decide) (by decide) (by decide) (by decide)) rfl rfl (Nat.le_of_ble_eq_true rfl) ⟨by omega, by omega⟩) rfl (fun M75 e75 => ?_)
        rw [mh_s_Q] at e75
        subst e75
        refine pw_norm (mh_Q) (g := pg (sP S)) (fun k hk => by show nI (cpy (sP S) 0 Q 0 194 k) = nI (sP S k); rw [cpy, if_pos (by omega), Nat.sub_zero, Nat.zero_add]) ?_
        rw [mh_s_Q]
        refine pw_lload_n (q := 79) (j := 2) C dX11_runScript_78 rfl rfl rfl ?_
        refine pw_lstore (q := 81) C dX11_runScript_79 rfl (by decide) rfl ?_
        refine pw_iconst_n (q := 82) C 0 dX11_runScript_81 (by decide +kernel) rfl ?_
        refine pw_istore (q := 84) C dX11_runScript_82 rfl (by decide) rfl ?_
        obtain ⟨v, hv, rfl⟩ := nL_of hv9.1
        have hv2 := hv9.2
        rw [idxL_n hv] at hv2
        have hsp : inW (nI 3) 1 3 ∧ 0 ≤ nL v ∧ grp (idxL (nL v)) (idx (nI 3)) = 0 := ⟨h1, hv9.1, by rw [idx_n (by decide)]; exact hv9.2⟩
        have z9 := loop84 v 3 hv hsp 3 0 (by omega) (sP S) none (by omega) hI hS.1.2 rfl
        rw [show 3 - 0 = 3 from rfl, Nat.mod_eq_of_lt (show v < 100000 ^ 3 from Nat.lt_of_not_le (fun q => by rw [grp] at hv2; exact absurd (Nat.div_pos q (by decide)) (by rw [hv2]; exact Nat.lt_irrefl 0)))] at z9
        exact z9
      · refine pw_lload_n (q := 41) (j := 2) C dX11_runScript_40 rfl rfl rfl ?_
        refine pw_lconst (q := 42) (v := 0) C dX11_runScript_41 (by decide +kernel) rfl ?_
        refine pw_lload (q := 44) C dX11_runScript_42 rfl rfl ?_
        refine pw_lconst (q := 45) (v := 1) C dX11_runScript_44 (by decide +kernel) rfl ?_
        refine pw_lsub (q := 46) C dX11_runScript_45 rfl ?_
        refine pw_rd (q := 49) (cr_s (j := iX11_in) C dX11_runScript_46 lX11_39 mX11_in (ro_mk (by decide) (by decide))  (rv_f (fun q => hv9 ((sc_in (by omega)).mp q)) m_in) rfl rfl (Nat.le_of_ble_eq_true rfl) ⟨by omega, by omega⟩) rfl ?_
        refine pw_if_eq_n (q := 52) 56 C dX11_runScript_49 (by decide) rfl (by omega) (fun g49 => ?_) (fun g49 => absurd g49 (fun q => q rfl))
        refine pw_iconst_n (q := 57) C 1 dX11_runScript_56 (by decide +kernel) rfl ?_
        refine pw_val (q := 60) (cr_v (j := iX11_refused) C dX11_runScript_57 lX11_76 mX11_refused (ro_mk (by decide) (by decide)) mh_o rfl (rv_t (by decide) (m_refused 1 (by decide))) rfl rfl (Nat.le_of_ble_eq_true rfl) ⟨by omega, by omega⟩) rfl (fun M57 e57 => ?_)
        subst e57
        refine pw_if_eq_n (q := 63) 65 C dX11_runScript_60 (by decide) rfl (by omega) (fun g60 => absurd g60 (by decide)) (fun g60 => ?_)
        refine pw_iconst_n (q := 64) C 0 dX11_runScript_63 (by decide +kernel) rfl ?_
        exact pw_iret C dX11_runScript_64 rfl ⟨by omega, by omega⟩ ((QM.no 0 (by rw [spScript, if_neg (fun q => hv9 q.2)]) (RepM.mk hD hK hF) same_mh))
  · refine pw_iload_n (q := 1) (j := 1) C dX11_runScript_0 rfl rfl rfl ?_
    refine pw_iconst_n (q := 2) C 1 dX11_runScript_1 (by decide +kernel) rfl ?_
    refine pw_icmp_ne (q := 5) 11 C dX11_runScript_2 (by decide) rfl (fun g2 => ?_) (fun g2 => ?_)
    · refine pw_iload_n (q := 12) (j := 1) C dX11_runScript_11 rfl rfl rfl ?_
      refine pw_iconst_n (q := 13) C 2 dX11_runScript_12 (by decide +kernel) rfl ?_
      refine pw_icmp_ne (q := 16) 22 C dX11_runScript_13 (by decide) rfl (fun g13 => ?_) (fun g13 => ?_)
      · refine pw_ldc2 (q := 25) C dX11_runScript_22 cgX11_187 rfl ?_
        refine pw_lstore (q := 27) C dX11_runScript_25 rfl (by decide) rfl ?_
        refine pw_aload_n (q := 28) (j := 0) C dX11_runScript_27 rfl rfl rfl ?_
        refine pw_iload_n (q := 29) (j := 1) C dX11_runScript_28 rfl rfl rfl ?_
        refine pw_i2l (q := 30) C dX11_runScript_29 rfl ?_
        refine pw_lconst (q := 31) (v := 1) C dX11_runScript_30 (by decide +kernel) rfl ?_
        refine pw_ldc2 (q := 34) C dX11_runScript_31 cgX11_189 rfl ?_
        refine pw_rd (q := 37) (cr_s (j := iX11_in) C dX11_runScript_34 lX11_39 mX11_in (ro_mk (by decide) (by decide))  (rv_f (fun q => h1 ((inW_l (lo := 1) (hi := 3) (by decide +kernel) (by decide +kernel)).mp q)) m_in) rfl rfl (Nat.le_of_ble_eq_true rfl) ⟨by omega, by omega⟩) rfl ?_
        refine pw_if_eq_n (q := 40) 56 C dX11_runScript_37 (by decide) rfl (by omega) (fun g37 => ?_) (fun g37 => absurd g37 (fun q => q rfl))
        refine pw_iconst_n (q := 57) C 1 dX11_runScript_56 (by decide +kernel) rfl ?_
        refine pw_val (q := 60) (cr_v (j := iX11_refused) C dX11_runScript_57 lX11_76 mX11_refused (ro_mk (by decide) (by decide)) mh_o rfl (rv_t (by decide) (m_refused 1 (by decide))) rfl rfl (Nat.le_of_ble_eq_true rfl) ⟨by omega, by omega⟩) rfl (fun M57 e57 => ?_)
        subst e57
        refine pw_if_eq_n (q := 63) 65 C dX11_runScript_60 (by decide) rfl (by omega) (fun g60 => absurd g60 (by decide)) (fun g60 => ?_)
        refine pw_iconst_n (q := 64) C 0 dX11_runScript_63 (by decide +kernel) rfl ?_
        exact pw_iret C dX11_runScript_64 rfl ⟨by omega, by omega⟩ ((QM.no 0 (by rw [spScript, if_neg (fun q => h1 q.1)]) (RepM.mk hD hK hF) same_mh))
      · refine pw_ldc2 (q := 19) C dX11_runScript_16 cgX11_185 rfl ?_
        refine pw_goto (q := 0) 25 C dX11_runScript_19 (by decide) ?_
        refine pw_lstore (q := 27) C dX11_runScript_25 rfl (by decide) rfl ?_
        refine pw_aload_n (q := 28) (j := 0) C dX11_runScript_27 rfl rfl rfl ?_
        refine pw_iload_n (q := 29) (j := 1) C dX11_runScript_28 rfl rfl rfl ?_
        refine pw_i2l (q := 30) C dX11_runScript_29 rfl ?_
        refine pw_lconst (q := 31) (v := 1) C dX11_runScript_30 (by decide +kernel) rfl ?_
        refine pw_ldc2 (q := 34) C dX11_runScript_31 cgX11_189 rfl ?_
        refine pw_rd (q := 37) (cr_s (j := iX11_in) C dX11_runScript_34 lX11_39 mX11_in (ro_mk (by decide) (by decide))  (rv_f (fun q => h1 ((inW_l (lo := 1) (hi := 3) (by decide +kernel) (by decide +kernel)).mp q)) m_in) rfl rfl (Nat.le_of_ble_eq_true rfl) ⟨by omega, by omega⟩) rfl ?_
        refine pw_if_eq_n (q := 40) 56 C dX11_runScript_37 (by decide) rfl (by omega) (fun g37 => ?_) (fun g37 => absurd g37 (fun q => q rfl))
        refine pw_iconst_n (q := 57) C 1 dX11_runScript_56 (by decide +kernel) rfl ?_
        refine pw_val (q := 60) (cr_v (j := iX11_refused) C dX11_runScript_57 lX11_76 mX11_refused (ro_mk (by decide) (by decide)) mh_o rfl (rv_t (by decide) (m_refused 1 (by decide))) rfl rfl (Nat.le_of_ble_eq_true rfl) ⟨by omega, by omega⟩) rfl (fun M57 e57 => ?_)
        subst e57
        refine pw_if_eq_n (q := 63) 65 C dX11_runScript_60 (by decide) rfl (by omega) (fun g60 => absurd g60 (by decide)) (fun g60 => ?_)
        refine pw_iconst_n (q := 64) C 0 dX11_runScript_63 (by decide +kernel) rfl ?_
        exact pw_iret C dX11_runScript_64 rfl ⟨by omega, by omega⟩ ((QM.no 0 (by rw [spScript, if_neg (fun q => h1 q.1)]) (RepM.mk hD hK hF) same_mh))
    · refine pw_ldc2 (q := 8) C dX11_runScript_5 cgX11_183 rfl ?_
      refine pw_goto (q := 0) 25 C dX11_runScript_8 (by decide) ?_
      refine pw_lstore (q := 27) C dX11_runScript_25 rfl (by decide) rfl ?_
      refine pw_aload_n (q := 28) (j := 0) C dX11_runScript_27 rfl rfl rfl ?_
      refine pw_iload_n (q := 29) (j := 1) C dX11_runScript_28 rfl rfl rfl ?_
      refine pw_i2l (q := 30) C dX11_runScript_29 rfl ?_
      refine pw_lconst (q := 31) (v := 1) C dX11_runScript_30 (by decide +kernel) rfl ?_
      refine pw_ldc2 (q := 34) C dX11_runScript_31 cgX11_189 rfl ?_
      refine pw_rd (q := 37) (cr_s (j := iX11_in) C dX11_runScript_34 lX11_39 mX11_in (ro_mk (by decide) (by decide))  (rv_f (fun q => h1 ((inW_l (lo := 1) (hi := 3) (by decide +kernel) (by decide +kernel)).mp q)) m_in) rfl rfl (Nat.le_of_ble_eq_true rfl) ⟨by omega, by omega⟩) rfl ?_
      refine pw_if_eq_n (q := 40) 56 C dX11_runScript_37 (by decide) rfl (by omega) (fun g37 => ?_) (fun g37 => absurd g37 (fun q => q rfl))
      refine pw_iconst_n (q := 57) C 1 dX11_runScript_56 (by decide +kernel) rfl ?_
      refine pw_val (q := 60) (cr_v (j := iX11_refused) C dX11_runScript_57 lX11_76 mX11_refused (ro_mk (by decide) (by decide)) mh_o rfl (rv_t (by decide) (m_refused 1 (by decide))) rfl rfl (Nat.le_of_ble_eq_true rfl) ⟨by omega, by omega⟩) rfl (fun M57 e57 => ?_)
      subst e57
      refine pw_if_eq_n (q := 63) 65 C dX11_runScript_60 (by decide) rfl (by omega) (fun g60 => absurd g60 (by decide)) (fun g60 => ?_)
      refine pw_iconst_n (q := 64) C 0 dX11_runScript_63 (by decide +kernel) rfl ?_
      exact pw_iret C dX11_runScript_64 rfl ⟨by omega, by omega⟩ ((QM.no 0 (by rw [spScript, if_neg (fun q => h1 q.1)]) (RepM.mk hD hK hF) same_mh))
theorem lowS_no {P : Nat → Nat} (hI : Inv P) (h : P 6 = 0) (st : Nat) : ¬ lowS P st < P 7 := by
  intro q
  have := (hI.s q).2.1
  omega
theorem roundP_c {P : Nat → Nat} {r : Nat} (h : r % 8 ≤ 2) : roundP P r = if 0 < P 6 ∧ 0 < P 5 ∧ canCut P (r / 8 % P 6) (r / 64 % P 5) then cutP P (r / 8 % P 6) (r / 64 % P 5) (r / 1024 % 10) else P := by
  unfold roundP
  rw [if_pos h]
theorem roundP_i {P : Nat → Nat} {r : Nat} (h : r % 8 = 3 ∨ r % 8 = 4) : roundP P r = if lowS P 0 < P 7 then inspectP P (lowS P 0) else P := by
  unfold roundP
  rw [if_neg (by omega), if_pos (by omega)]
theorem roundP_s {P : Nat → Nat} {r : Nat} (h : r % 8 = 5) : roundP P r = setLowP P := by
  unfold roundP
  rw [if_neg (by omega), if_neg (by omega), if_pos h]
theorem roundP_r {P : Nat → Nat} {r : Nat} (h : r % 8 = 6) : roundP P r = if 0 < P 6 then recLowP P (r / 8 % P 6) else scrapLowP P := by
  unfold roundP
  rw [if_neg (by omega), if_neg (by omega), if_neg (by omega), if_pos h]
theorem roundP_d {P : Nat → Nat} {r : Nat} (h : r % 8 = 7) : roundP P r = dayP P (if r / 8 % 4 = 0 then 1 else 0) := by
  unfold roundP
  rw [if_neg (by omega), if_neg (by omega), if_neg (by omega), if_neg (by omega)]
theorem roundP_0 {P : Nat → Nat} {r : Nat} (hI : Inv P) (h : r % 8 = 6) (h6 : P 6 = 0) : roundP P r = recLowP P 0 := by
  rw [roundP_r h, if_neg (by omega), scrapLowP, if_neg (lowS_no hI h6 2), recLowP, if_neg (lowS_no hI h6 2)]
set_option maxHeartbeats 200000 in
set_option maxRecDepth 100000 in
theorem m_lowest {M : PH} {m rf n sp ft ac : Nat} {T R P Q D K B L : Nat → Nat} (hI : Inv Q) {st : Nat} (hst : st < 10) : Run iX11_lowest [.ref m, .int (nI st)] (mh M m rf n sp ft ac T R P Q D K B L) 0 0 (RV (.int (orNone (lowS Q st) (Q 7))) (fun M1 => M1 = mh M m rf n sp ft ac T R P Q D K B L)) := by
  have hb := hI.b
  refine Run.of (l0 := [some (.ref m), some (.int (nI st)), none]) (by decide +kernel) (Nat.le_of_ble_eq_true rfl) (by rfl) (fun Γ G C => ?_)
  refine pw_iconst_n (q := 1) C 0 dX11_lowest_0 (by decide +kernel) rfl ?_
  refine pw_istore_n (q := 2) (j := 2) C dX11_lowest_1 rfl rfl (by decide) rfl ?_
  have loop : ∀ (d s : Nat), s + d = Q 7 → (∀ j, j < s → ¬ Q (50 + 6 * j + 3) = st) → PW Γ G (ZJ Γ G 0 0 (RV (.int (orNone (lowS Q st) (Q 7))) (fun M1 => M1 = mh M m rf n sp ft ac T R P Q D K B L))) 2 [some (.ref m), some (.int (nI st)), some (.int (nI s))] [] (mh M m rf n sp ft ac T R P Q D K B L) 0 0 := by
    intro d
    induction d with
    | zero =>
      intro s hd
      intro hno
      refine pw_iload_n (q := 3) (j := 2) C dX11_lowest_2 rfl rfl rfl ?_
      refine pw_aload_n (q := 4) (j := 0) C dX11_lowest_3 rfl rfl rfl ?_
      refine pw_getf (q := 7) C dX11_lowest_4 fX11_19 mh_o (by rfl) rfl ?_
      refine pw_bipush_n (q := 9) C 7 dX11_lowest_7 (by decide +kernel) rfl ?_
      refine pw_ipg (q := 10) C dX11_lowest_9 mh_Q (by omega) (by omega) rfl ?_
      refine pw_icmp_ge_n (q := 13) 39 C dX11_lowest_10 (by decide) rfl (by omega) (by omega) (fun g10 => ?_) (fun g10 => absurd g10 (by omega))
      refine pw_bipush (q := 41) (v := (-9)) C dX11_lowest_39 (by decide +kernel) rfl ?_
      exact pw_iret C dX11_lowest_41 rfl ⟨by omega, by omega⟩ (RV.mk (vint (by rw [show lowS Q st = Q 7 from fst_none (fun j hj => hno j (by omega))]; exact (if_neg (Nat.lt_irrefl _)).symm)) rfl)
    | succ d ih =>
      intro s hd
      intro hno
      refine pw_iload_n (q := 3) (j := 2) C dX11_lowest_2 rfl rfl rfl ?_
      refine pw_aload_n (q := 4) (j := 0) C dX11_lowest_3 rfl rfl rfl ?_
      refine pw_getf (q := 7) C dX11_lowest_4 fX11_19 mh_o (by rfl) rfl ?_
      refine pw_bipush_n (q := 9) C 7 dX11_lowest_7 (by decide +kernel) rfl ?_
      refine pw_ipg (q := 10) C dX11_lowest_9 mh_Q (by omega) (by omega) rfl ?_
      refine pw_icmp_ge_n (q := 13) 39 C dX11_lowest_10 (by decide) rfl (by omega) (by omega) (fun g10 => absurd g10 (by omega)) (fun g10 => ?_)
      have s9 := hI.s (show s < Q 7 by omega)
      refine pw_aload_n (q := 14) (j := 0) C dX11_lowest_13 rfl rfl rfl ?_
      refine pw_getf (q := 17) C dX11_lowest_14 fX11_19 mh_o (by rfl) rfl ?_
      refine pw_bipush_n (q := 19) C 50 dX11_lowest_17 (by decide +kernel) rfl ?_
      refine pw_bipush_n (q := 21) C 6 dX11_lowest_19 (by decide +kernel) rfl ?_
      refine pw_iload_n (q := 22) (j := 2) C dX11_lowest_21 rfl rfl rfl ?_
      refine pw_imul_n (q := 23) C dX11_lowest_22 rfl ?_
      refine pw_iadd_n (q := 24) C dX11_lowest_23 rfl ?_
      refine pw_iconst_n (q := 25) C 3 dX11_lowest_24 (by decide +kernel) rfl ?_
      refine pw_iadd_n (q := 26) C dX11_lowest_25 rfl ?_
      refine pw_ipg (q := 27) C dX11_lowest_26 mh_Q (by omega) (by omega) rfl ?_
      refine pw_iload_n (q := 28) (j := 1) C dX11_lowest_27 rfl rfl rfl ?_
      refine pw_icmp_ne_n (q := 31) 33 C dX11_lowest_28 (by decide) rfl (by omega) (by omega) (fun g28 => ?_) (fun g28 => ?_)
      · refine pw_iinc_n (q := 36) C 1 dX11_lowest_33 rfl (by decide +kernel) rfl (by decide) rfl ?_
        refine pw_goto (q := 0) 2 C dX11_lowest_36 (by decide) ?_
        exact ih (s + 1) (by omega) (fun j hj => (Nat.lt_or_eq_of_le (Nat.le_of_lt_succ hj)).elim (hno j) (fun e => by rw [e]; exact g28))
      · refine pw_iload_n (q := 32) (j := 2) C dX11_lowest_31 rfl rfl rfl ?_
        exact pw_iret C dX11_lowest_32 rfl ⟨by omega, by omega⟩ (RV.mk (vint (by rw [show lowS Q st = s from fst_eq (by omega) g28 hno]; exact (if_pos (by omega)).symm)) rfl)
  exact loop (Q 7) 0 (by omega) (fun j hj => absurd hj (Nat.not_lt_zero j))
theorem rv_e {i : MI} {as : List Value} {M : PH} {a b : Nat} {x y : Int32} {Q : PH → Prop} (h : x = y) (r : Run i as M a b (RV (.int x) Q)) : Run i as M a b (RV (.int y) Q) := by
  rw [h] at r
  exact r
set_option maxHeartbeats 200000 in
set_option maxRecDepth 100000 in
theorem m_setLowest {M : PH} {m rf n sp ft ac : Nat} {T R P Q D K B L : Nat → Nat} (hI : Inv Q) : Run iX11_setLowest [.ref m] (mh M m rf n sp ft ac T R P Q D K B L) 0 0 (RN (fun M1 => M1 = mh M m rf n sp ft ac T R P ((setLowP Q)) D K B L)) := by
  have hb := hI.b
  refine Run.of (l0 := [some (.ref m), none, none]) (by decide +kernel) (Nat.le_of_ble_eq_true rfl) (by rfl) (fun Γ G C => ?_)
  refine pw_iconst_n (q := 1) C 0 dX11_setLowest_0 (by decide +kernel) rfl ?_
  refine pw_istore_n (q := 2) (j := 1) C dX11_setLowest_1 rfl rfl (by decide) rfl ?_
  refine pw_iconst_n (q := 3) C 0 dX11_setLowest_2 (by decide +kernel) rfl ?_
  refine pw_istore_n (q := 4) (j := 2) C dX11_setLowest_3 rfl rfl (by decide) rfl ?_
  have out0 : ∀ (s : Nat) (X : Nat → Nat), s < 100 → X 7 < 100 → X = setLowP Q → PW Γ G (ZJ Γ G 0 0 (RN (fun M1 => M1 = mh M m rf n sp ft ac T R P ((setLowP Q)) D K B L))) 4 [some (.ref m), some (.int (nI 1)), some (.int (nI s))] [] (mh M m rf n sp ft ac T R P X D K B L) 0 0 := by
    intro s X hs9 hx he
    refine pw_iload_n (q := 5) (j := 2) C dX11_setLowest_4 rfl rfl rfl ?_
    refine pw_aload_n (q := 6) (j := 0) C dX11_setLowest_5 rfl rfl rfl ?_
    refine pw_getf (q := 9) C dX11_setLowest_6 fX11_19 mh_o (by rfl) rfl ?_
    refine pw_bipush_n (q := 11) C 7 dX11_setLowest_9 (by decide +kernel) rfl ?_
    refine pw_ipg (q := 12) C dX11_setLowest_11 mh_Q (by omega) (by omega) rfl ?_
    refine pw_icmp_ge_n (q := 15) 53 C dX11_setLowest_12 (by decide) rfl (by omega) (by omega) (fun g12 => ?_) (fun g12 => ?_)
    · exact pw_vret C dX11_setLowest_53 rfl ⟨by omega, by omega⟩ (RN.mk (by rw [he]))
    · refine pw_iload_n (q := 16) (j := 1) C dX11_setLowest_15 rfl rfl rfl ?_
      refine pw_if_ne_n (q := 19) 53 C dX11_setLowest_16 (by decide) rfl (by omega) (fun g16 => ?_) (fun g16 => absurd g16 (by decide))
      exact pw_vret C dX11_setLowest_53 rfl ⟨by omega, by omega⟩ (RN.mk (by rw [he]))
  have loop : ∀ (d s : Nat), s + d = Q 7 → (∀ j, j < s → ¬ why Q j = 0) → PW Γ G (ZJ Γ G 0 0 (RN (fun M1 => M1 = mh M m rf n sp ft ac T R P ((setLowP Q)) D K B L))) 4 [some (.ref m), some (.int (nI 0)), some (.int (nI s))] [] (mh M m rf n sp ft ac T R P Q D K B L) 0 0 := by
    intro d
    induction d with
    | zero =>
      intro s hd
      intro hno
      refine pw_iload_n (q := 5) (j := 2) C dX11_setLowest_4 rfl rfl rfl ?_
      refine pw_aload_n (q := 6) (j := 0) C dX11_setLowest_5 rfl rfl rfl ?_
      refine pw_getf (q := 9) C dX11_setLowest_6 fX11_19 mh_o (by rfl) rfl ?_
      refine pw_bipush_n (q := 11) C 7 dX11_setLowest_9 (by decide +kernel) rfl ?_
      refine pw_ipg (q := 12) C dX11_setLowest_11 mh_Q (by omega) (by omega) rfl ?_
      refine pw_icmp_ge_n (q := 15) 53 C dX11_setLowest_12 (by decide) rfl (by omega) (by omega) (fun g12 => ?_) (fun g12 => absurd g12 (by omega))
      exact pw_vret C dX11_setLowest_53 rfl ⟨by omega, by omega⟩ (RN.mk (by rw [setLowP, if_neg (by rw [show lowW Q = Q 7 from fst_none (fun j hj => hno j (by omega))]; exact Nat.lt_irrefl _)]))
    | succ d ih =>
      intro s hd
      intro hno
      refine pw_iload_n (q := 5) (j := 2) C dX11_setLowest_4 rfl rfl rfl ?_
      refine pw_aload_n (q := 6) (j := 0) C dX11_setLowest_5 rfl rfl rfl ?_
      refine pw_getf (q := 9) C dX11_setLowest_6 fX11_19 mh_o (by rfl) rfl ?_
      refine pw_bipush_n (q := 11) C 7 dX11_setLowest_9 (by decide +kernel) rfl ?_
      refine pw_ipg (q := 12) C dX11_setLowest_11 mh_Q (by omega) (by omega) rfl ?_
      refine pw_icmp_ge_n (q := 15) 53 C dX11_setLowest_12 (by decide) rfl (by omega) (by omega) (fun g12 => absurd g12 (by omega)) (fun g12 => ?_)
      refine pw_iload_n (q := 16) (j := 1) C dX11_setLowest_15 rfl rfl rfl ?_
      refine pw_if_ne_n (q := 19) 53 C dX11_setLowest_16 (by decide) rfl (by omega) (fun g16 => absurd g16 (fun q => q rfl)) (fun g16 => ?_)
      have w9 := why_le Q s
      have s9 := hI.s (show s < Q 7 by omega)
      refine pw_aload_n (q := 20) (j := 0) C dX11_setLowest_19 rfl rfl rfl ?_
      refine pw_getf (q := 23) C dX11_setLowest_20 fX11_19 mh_o (by rfl) rfl ?_
      refine pw_iload_n (q := 24) (j := 2) C dX11_setLowest_23 rfl rfl rfl ?_
      refine pw_rd (q := 27) (cr_s (j := iX11_why) C dX11_setLowest_24 lX11_142 mX11_why (ro_mk (by decide) (by decide))  (m_why mh_Q hI (by omega)) rfl rfl (Nat.le_of_ble_eq_true rfl) ⟨by omega, by omega⟩) rfl ?_
      refine pw_if_ne_n (q := 30) 47 C dX11_setLowest_27 (by decide) rfl (by omega) (fun g27 => ?_) (fun g27 => ?_)
      · refine pw_iinc_n (q := 50) C 1 dX11_setLowest_47 rfl (by decide +kernel) rfl (by decide) rfl ?_
        refine pw_goto (q := 0) 4 C dX11_setLowest_50 (by decide) ?_
        exact ih (s + 1) (by omega) (fun j hj => (Nat.lt_or_eq_of_le (Nat.le_of_lt_succ hj)).elim (hno j) (fun e => by rw [e]; exact g27))
      · refine pw_aload_n (q := 31) (j := 0) C dX11_setLowest_30 rfl rfl rfl ?_
        refine pw_getf (q := 34) C dX11_setLowest_31 fX11_19 mh_o (by rfl) rfl ?_
        refine pw_bipush_n (q := 36) C 50 dX11_setLowest_34 (by decide +kernel) rfl ?_
        refine pw_bipush_n (q := 38) C 6 dX11_setLowest_36 (by decide +kernel) rfl ?_
        refine pw_iload_n (q := 39) (j := 2) C dX11_setLowest_38 rfl rfl rfl ?_
        refine pw_imul_n (q := 40) C dX11_setLowest_39 rfl ?_
        refine pw_iadd_n (q := 41) C dX11_setLowest_40 rfl ?_
        refine pw_iconst_n (q := 42) C 3 dX11_setLowest_41 (by decide +kernel) rfl ?_
        refine pw_iadd_n (q := 43) C dX11_setLowest_42 rfl ?_
        refine pw_iconst_n (q := 44) C 3 dX11_setLowest_43 (by decide +kernel) rfl ?_
        refine pw_ipgst (q := 45) C dX11_setLowest_44 mh_Q (by omega) (by omega) rfl ?_
        rw [mh_s_Q]
        refine pw_iconst_n (q := 46) C 1 dX11_setLowest_45 (by decide +kernel) rfl ?_
        refine pw_istore_n (q := 47) (j := 1) C dX11_setLowest_46 rfl rfl (by decide) rfl ?_
        refine pw_iinc_n (q := 50) C 1 dX11_setLowest_47 rfl (by decide +kernel) rfl (by decide) rfl ?_
        refine pw_goto (q := 0) 4 C dX11_setLowest_50 (by decide) ?_
        have e8 : lowW Q = s := fst_eq (by omega) g27 hno
        exact out0 (s + 1) (stateP Q s 3) (by omega) (by rw [stateP, updN_ne (by omega)]; omega) (by rw [setLowP, e8, if_pos (by omega)])
  exact loop (Q 7) 0 (by omega) (fun j hj => absurd hj (Nat.not_lt_zero j))
set_option maxHeartbeats 200000 in
set_option maxRecDepth 100000 in
theorem m_recutLowest {M : PH} {m rf n sp ft ac : Nat} {T R P Q D K B L : Nat → Nat} (hI : Inv Q) {k : Nat} (hk : k < Q 6 ∨ Q 6 = 0) (hk9 : k < 100) : Run iX11_recutLowest [.ref m, .int (nI k)] (mh M m rf n sp ft ac T R P Q D K B L) 0 0 (RN (fun M1 => M1 = mh M m rf n sp ft ac T R P ((recLowP Q k)) D K B L)) := by
  have hb := hI.b
  refine Run.of (l0 := [some (.ref m), some (.int (nI k)), none, none]) (by decide +kernel) (Nat.le_of_ble_eq_true rfl) (by rfl) (fun Γ G C => ?_)
  refine pw_aload_n (q := 1) (j := 0) C dX11_recutLowest_0 rfl rfl rfl ?_
  by_cases hl : lowS Q 2 < Q 7
  · have hk : k < Q 6 := hk.elim id (fun q => absurd hl (lowS_no hI q 2))
    have s9 := hI.s hl
    refine pw_iconst_n (q := 2) C 2 dX11_recutLowest_1 (by decide +kernel) rfl ?_
    refine pw_val (q := 5) (cr_v (j := iX11_lowest) C dX11_recutLowest_2 lX11_195 mX11_lowest (ro_mk (by decide) (by decide)) mh_o rfl (rv_e (if_pos hl) (m_lowest hI (by decide))) rfl rfl (Nat.le_of_ble_eq_true rfl) ⟨by omega, by omega⟩) rfl (fun M2 e2 => ?_)
    subst e2
    refine pw_istore_n (q := 6) (j := 2) C dX11_recutLowest_5 rfl rfl (by decide) rfl ?_
    refine pw_iload_n (q := 7) (j := 2) C dX11_recutLowest_6 rfl rfl rfl ?_
    refine pw_bipush (q := 9) (v := (-9)) C dX11_recutLowest_7 (by decide +kernel) rfl ?_
    refine pw_icmp_eq (q := 12) 69 C dX11_recutLowest_9 (by decide) rfl (fun g9 => absurd g9 (optI_ne (by omega))) (fun g9 => ?_)
    refine pw_aload_n (q := 13) (j := 0) C dX11_recutLowest_12 rfl rfl rfl ?_
    refine pw_getf (q := 16) C dX11_recutLowest_13 fX11_19 mh_o (by rfl) rfl ?_
    refine pw_iload_n (q := 17) (j := 2) C dX11_recutLowest_16 rfl rfl rfl ?_
    refine pw_rd (q := 20) (cr_s (j := iX11_recutCourse) C dX11_recutLowest_17 lX11_172 mX11_recutCourse (ro_mk (by decide) (by decide))  (m_recutCourse mh_Q hI hl) rfl rfl (Nat.le_of_ble_eq_true rfl) ⟨by omega, by omega⟩) rfl ?_
    refine pw_istore_n (q := 21) (j := 3) C dX11_recutLowest_20 rfl rfl (by decide) rfl ?_
    rcases hc9 : recutC Q (lowS Q 2) with _ | c
    · refine pw_iload_n (q := 22) (j := 3) C dX11_recutLowest_21 rfl rfl rfl ?_
      refine pw_bipush (q := 24) (v := (-9)) C dX11_recutLowest_22 (by decide +kernel) rfl ?_
      refine pw_icmp_eq (q := 27) 54 C dX11_recutLowest_24 (by decide) rfl (fun g24 => ?_) (fun g24 => absurd g24 (not_not_intro rfl))
      refine pw_aload_n (q := 55) (j := 0) C dX11_recutLowest_54 rfl rfl rfl ?_
      refine pw_getf (q := 58) C dX11_recutLowest_55 fX11_19 mh_o (by rfl) rfl ?_
      refine pw_bipush_n (q := 60) C 50 dX11_recutLowest_58 (by decide +kernel) rfl ?_
      refine pw_bipush_n (q := 62) C 6 dX11_recutLowest_60 (by decide +kernel) rfl ?_
      refine pw_iload_n (q := 63) (j := 2) C dX11_recutLowest_62 rfl rfl rfl ?_
      refine pw_imul_n (q := 64) C dX11_recutLowest_63 rfl ?_
      refine pw_iadd_n (q := 65) C dX11_recutLowest_64 rfl ?_
      refine pw_iconst_n (q := 66) C 3 dX11_recutLowest_65 (by decide +kernel) rfl ?_
      refine pw_iadd_n (q := 67) C dX11_recutLowest_66 rfl ?_
      refine pw_iconst_n (q := 68) C 4 dX11_recutLowest_67 (by decide +kernel) rfl ?_
      refine pw_ipgst (q := 69) C dX11_recutLowest_68 mh_Q (by omega) (by omega) rfl ?_
      rw [mh_s_Q]
      exact pw_vret C dX11_recutLowest_69 rfl ⟨by omega, by omega⟩ (RN.mk (by rw [recLowP, if_pos hl, hc9]; rfl))
    · have hc := recutC_lt hc9
      refine pw_iload_n (q := 22) (j := 3) C dX11_recutLowest_21 rfl rfl rfl ?_
      refine pw_bipush (q := 24) (v := (-9)) C dX11_recutLowest_22 (by decide +kernel) rfl ?_
      refine pw_icmp_eq (q := 27) 54 C dX11_recutLowest_24 (by decide) rfl (fun g24 => absurd g24 (optI_ne (by omega))) (fun g24 => ?_)
      refine pw_aload_n (q := 28) (j := 0) C dX11_recutLowest_27 rfl rfl rfl ?_
      refine pw_getf (q := 31) C dX11_recutLowest_28 fX11_19 mh_o (by rfl) rfl ?_
      refine pw_iload_n (q := 32) (j := 1) C dX11_recutLowest_31 rfl rfl rfl ?_
      refine pw_iload_n (q := 33) (j := 2) C dX11_recutLowest_32 rfl rfl rfl ?_
      refine pw_iload_n (q := 34) (j := 3) C dX11_recutLowest_33 rfl rfl rfl ?_
      refine pw_rd (q := 37) (cr_s (j := iX11_canRecut) C dX11_recutLowest_34 lX11_162 mX11_canRecut (ro_mk (by decide) (by decide))  (m_canRecut mh_Q hI hk hl hc) rfl rfl (Nat.le_of_ble_eq_true rfl) ⟨by omega, by omega⟩) rfl ?_
      refine pw_if_eq_b (q := 40) 54 C dX11_recutLowest_37 (by decide) rfl (fun g37 => ?_) (fun g37 => ?_)
      · refine pw_aload_n (q := 55) (j := 0) C dX11_recutLowest_54 rfl rfl rfl ?_
        refine pw_getf (q := 58) C dX11_recutLowest_55 fX11_19 mh_o (by rfl) rfl ?_
        refine pw_bipush_n (q := 60) C 50 dX11_recutLowest_58 (by decide +kernel) rfl ?_
        refine pw_bipush_n (q := 62) C 6 dX11_recutLowest_60 (by decide +kernel) rfl ?_
        refine pw_iload_n (q := 63) (j := 2) C dX11_recutLowest_62 rfl rfl rfl ?_
        refine pw_imul_n (q := 64) C dX11_recutLowest_63 rfl ?_
        refine pw_iadd_n (q := 65) C dX11_recutLowest_64 rfl ?_
        refine pw_iconst_n (q := 66) C 3 dX11_recutLowest_65 (by decide +kernel) rfl ?_
        refine pw_iadd_n (q := 67) C dX11_recutLowest_66 rfl ?_
        refine pw_iconst_n (q := 68) C 4 dX11_recutLowest_67 (by decide +kernel) rfl ?_
        refine pw_ipgst (q := 69) C dX11_recutLowest_68 mh_Q (by omega) (by omega) rfl ?_
        rw [mh_s_Q]
        exact pw_vret C dX11_recutLowest_69 rfl ⟨by omega, by omega⟩ (RN.mk (by rw [recLowP, if_pos hl, hc9]; dsimp only; rw [if_neg g37]; rfl))
      · refine pw_aload_n (q := 41) (j := 0) C dX11_recutLowest_40 rfl rfl rfl ?_
        refine pw_getf (q := 44) C dX11_recutLowest_41 fX11_19 mh_o (by rfl) rfl ?_
        refine pw_iload_n (q := 45) (j := 1) C dX11_recutLowest_44 rfl rfl rfl ?_
        refine pw_iload_n (q := 46) (j := 2) C dX11_recutLowest_45 rfl rfl rfl ?_
        refine pw_iload_n (q := 47) (j := 3) C dX11_recutLowest_46 rfl rfl rfl ?_
        refine pw_val (q := 50) (cr_s (j := iX11_recutOn) C dX11_recutLowest_47 lX11_166 mX11_recutOn (ro_mk (by decide) (by decide))  (m_recutOn mh_Q hI hk hl hc g37) rfl rfl (Nat.le_of_ble_eq_true rfl) ⟨by omega, by omega⟩) rfl (fun M47 e47 => ?_)
        rw [mh_s_Q] at e47
        subst e47
        refine pw_pop (q := 51) C dX11_recutLowest_50 rfl rfl ?_
        refine pw_goto (q := 0) 69 C dX11_recutLowest_51 (by decide) ?_
        exact pw_vret C dX11_recutLowest_69 rfl ⟨by omega, by omega⟩ (RN.mk (by rw [recLowP, if_pos hl, hc9]; dsimp only; rw [if_pos g37]))
  · refine pw_iconst_n (q := 2) C 2 dX11_recutLowest_1 (by decide +kernel) rfl ?_
    refine pw_val (q := 5) (cr_v (j := iX11_lowest) C dX11_recutLowest_2 lX11_195 mX11_lowest (ro_mk (by decide) (by decide)) mh_o rfl (rv_e (if_neg hl) (m_lowest hI (by decide))) rfl rfl (Nat.le_of_ble_eq_true rfl) ⟨by omega, by omega⟩) rfl (fun M2 e2 => ?_)
    subst e2
    refine pw_istore_n (q := 6) (j := 2) C dX11_recutLowest_5 rfl rfl (by decide) rfl ?_
    refine pw_iload_n (q := 7) (j := 2) C dX11_recutLowest_6 rfl rfl rfl ?_
    refine pw_bipush (q := 9) (v := (-9)) C dX11_recutLowest_7 (by decide +kernel) rfl ?_
    refine pw_icmp_eq (q := 12) 69 C dX11_recutLowest_9 (by decide) rfl (fun g9 => ?_) (fun g9 => absurd g9 (not_not_intro rfl))
    exact pw_vret C dX11_recutLowest_69 rfl ⟨by omega, by omega⟩ (RN.mk (by rw [recLowP, if_neg hl]))
set_option maxHeartbeats 200000 in
set_option maxRecDepth 100000 in
theorem m_round {M : PH} {m rf n sp ft ac : Nat} {T R P Q D K B L : Nat → Nat} (hI : Inv Q) {r : Nat} (hr : r < 2147483648) : Run iX11_simulateRound [.ref m, .int (nI r)] (mh M m rf n sp ft ac T R P Q D K B L) 0 0 (RN (fun M1 => M1 = mh M m rf n sp ft ac T R P ((roundP Q r)) D K B L)) := by
  have hb := hI.b
  refine Run.of (l0 := [some (.ref m), some (.int (nI r)), none, none, none]) (by decide +kernel) (Nat.le_of_ble_eq_true rfl) (by rfl) (fun Γ G C => ?_)
  refine pw_aload_n (q := 1) (j := 0) C dX11_simulateRound_0 rfl rfl rfl ?_
  refine pw_getf (q := 4) C dX11_simulateRound_1 fX11_19 mh_o (by rfl) rfl ?_
  refine pw_bipush_n (q := 6) C 6 dX11_simulateRound_4 (by decide +kernel) rfl ?_
  refine pw_ipg (q := 7) C dX11_simulateRound_6 mh_Q (by omega) (by omega) rfl ?_
  refine pw_if_ne_n (q := 10) 14 C dX11_simulateRound_7 (by decide) rfl (by omega) (fun g7 => ?_) (fun g7 => ?_)
  · have q6 : r / 8 % Q 6 < Q 6 := Nat.mod_lt _ (by omega)
    refine pw_iload_n (q := 15) (j := 1) C dX11_simulateRound_14 rfl rfl rfl ?_
    refine pw_bipush_n (q := 17) C 8 dX11_simulateRound_15 (by decide +kernel) rfl ?_
    refine pw_idiv_n (q := 18) C dX11_simulateRound_17 (by omega) (by omega) (by omega) rfl ?_
    refine pw_aload_n (q := 19) (j := 0) C dX11_simulateRound_18 rfl rfl rfl ?_
    refine pw_getf (q := 22) C dX11_simulateRound_19 fX11_19 mh_o (by rfl) rfl ?_
    refine pw_bipush_n (q := 24) C 6 dX11_simulateRound_22 (by decide +kernel) rfl ?_
    refine pw_ipg (q := 25) C dX11_simulateRound_24 mh_Q (by omega) (by omega) rfl ?_
    refine pw_irem_n (q := 26) C dX11_simulateRound_25 (by omega) (by omega) (by omega) rfl ?_
    refine pw_istore_n (q := 27) (j := 2) C dX11_simulateRound_26 rfl rfl (by decide) rfl ?_
    refine pw_aload_n (q := 28) (j := 0) C dX11_simulateRound_27 rfl rfl rfl ?_
    refine pw_getf (q := 31) C dX11_simulateRound_28 fX11_19 mh_o (by rfl) rfl ?_
    refine pw_iconst_n (q := 32) C 5 dX11_simulateRound_31 (by decide +kernel) rfl ?_
    refine pw_ipg (q := 33) C dX11_simulateRound_32 mh_Q (by omega) (by omega) rfl ?_
    refine pw_if_ne_n (q := 36) 40 C dX11_simulateRound_33 (by decide) rfl (by omega) (fun g33 => ?_) (fun g33 => ?_)
    · have q5 : r / 64 % Q 5 < Q 5 := Nat.mod_lt _ (by omega)
      refine pw_iload_n (q := 41) (j := 1) C dX11_simulateRound_40 rfl rfl rfl ?_
      refine pw_bipush_n (q := 43) C 64 dX11_simulateRound_41 (by decide +kernel) rfl ?_
      refine pw_idiv_n (q := 44) C dX11_simulateRound_43 (by omega) (by omega) (by omega) rfl ?_
      refine pw_aload_n (q := 45) (j := 0) C dX11_simulateRound_44 rfl rfl rfl ?_
      refine pw_getf (q := 48) C dX11_simulateRound_45 fX11_19 mh_o (by rfl) rfl ?_
      refine pw_iconst_n (q := 49) C 5 dX11_simulateRound_48 (by decide +kernel) rfl ?_
      refine pw_ipg (q := 50) C dX11_simulateRound_49 mh_Q (by omega) (by omega) rfl ?_
      refine pw_irem_n (q := 51) C dX11_simulateRound_50 (by omega) (by omega) (by omega) rfl ?_
      refine pw_istore_n (q := 52) (j := 3) C dX11_simulateRound_51 rfl rfl (by decide) rfl ?_
      refine pw_iload_n (q := 53) (j := 1) C dX11_simulateRound_52 rfl rfl rfl ?_
      refine pw_bipush_n (q := 55) C 8 dX11_simulateRound_53 (by decide +kernel) rfl ?_
      refine pw_irem_n (q := 56) C dX11_simulateRound_55 (by omega) (by omega) (by omega) rfl ?_
      rcases (show r % 8 = 0 ∨ r % 8 = 1 ∨ r % 8 = 2 ∨ r % 8 = 3 ∨ r % 8 = 4 ∨ r % 8 = 5 ∨ r % 8 = 6 ∨ r % 8 = 7 by omega) with he | he | he | he | he | he | he | he
      · rw [he]
        refine pw_tableIn (q := 0) 100 C dX11_simulateRound_56 (by decide +kernel) (by decide +kernel) (by rfl) (by decide) ?_
        refine pw_aload_n (q := 101) (j := 0) C dX11_simulateRound_100 rfl rfl rfl ?_
        refine pw_getf (q := 104) C dX11_simulateRound_101 fX11_19 mh_o (by rfl) rfl ?_
        refine pw_bipush_n (q := 106) C 6 dX11_simulateRound_104 (by decide +kernel) rfl ?_
        refine pw_ipg (q := 107) C dX11_simulateRound_106 mh_Q (by omega) (by omega) rfl ?_
        refine pw_if_le_n (q := 110) 216 C dX11_simulateRound_107 (by decide) rfl (by omega) (fun g107 => absurd g107 (by omega)) (fun g107 => ?_)
        refine pw_aload_n (q := 111) (j := 0) C dX11_simulateRound_110 rfl rfl rfl ?_
        refine pw_getf (q := 114) C dX11_simulateRound_111 fX11_19 mh_o (by rfl) rfl ?_
        refine pw_iconst_n (q := 115) C 5 dX11_simulateRound_114 (by decide +kernel) rfl ?_
        refine pw_ipg (q := 116) C dX11_simulateRound_115 mh_Q (by omega) (by omega) rfl ?_
        refine pw_if_le_n (q := 119) 216 C dX11_simulateRound_116 (by decide) rfl (by omega) (fun g116 => absurd g116 (by omega)) (fun g116 => ?_)
        refine pw_aload_n (q := 120) (j := 0) C dX11_simulateRound_119 rfl rfl rfl ?_
        refine pw_getf (q := 123) C dX11_simulateRound_120 fX11_19 mh_o (by rfl) rfl ?_
        refine pw_iload_n (q := 124) (j := 2) C dX11_simulateRound_123 rfl rfl rfl ?_
        refine pw_iload_n (q := 125) (j := 3) C dX11_simulateRound_124 rfl rfl rfl ?_
        refine pw_rd (q := 128) (cr_s (j := iX11_canCut) C dX11_simulateRound_125 lX11_152 mX11_canCut (ro_mk (by decide) (by decide))  (m_canCut mh_Q hI q6 q5) rfl rfl (Nat.le_of_ble_eq_true rfl) ⟨by omega, by omega⟩) rfl ?_
        refine pw_if_eq_b (q := 131) 216 C dX11_simulateRound_128 (by decide) rfl (fun g128 => ?_) (fun g128 => ?_)
        · exact pw_vret C dX11_simulateRound_216 rfl ⟨by omega, by omega⟩ (RN.mk (by rw [roundP_c (by omega), if_neg (fun q => g128 q.2.2)]))
        · refine pw_aload_n (q := 132) (j := 0) C dX11_simulateRound_131 rfl rfl rfl ?_
          refine pw_getf (q := 135) C dX11_simulateRound_132 fX11_19 mh_o (by rfl) rfl ?_
          refine pw_iload_n (q := 136) (j := 2) C dX11_simulateRound_135 rfl rfl rfl ?_
          refine pw_iload_n (q := 137) (j := 3) C dX11_simulateRound_136 rfl rfl rfl ?_
          refine pw_iload_n (q := 138) (j := 1) C dX11_simulateRound_137 rfl rfl rfl ?_
          refine pw_sipush_n (q := 141) C 1024 dX11_simulateRound_138 (by decide +kernel) rfl ?_
          refine pw_idiv_n (q := 142) C dX11_simulateRound_141 (by omega) (by omega) (by omega) rfl ?_
          refine pw_bipush_n (q := 144) C 10 dX11_simulateRound_142 (by decide +kernel) rfl ?_
          refine pw_irem_n (q := 145) C dX11_simulateRound_144 (by omega) (by omega) (by omega) rfl ?_
          refine pw_val (q := 148) (cr_s (j := iX11_cutOn) C dX11_simulateRound_145 lX11_156 mX11_cutOn (ro_mk (by decide) (by decide))  (m_cutOn mh_Q hI q6 q5 g128) rfl rfl (Nat.le_of_ble_eq_true rfl) ⟨by omega, by omega⟩) rfl (fun M145 e145 => ?_)
          rw [mh_s_Q] at e145
          subst e145
          refine pw_pop (q := 149) C dX11_simulateRound_148 rfl rfl ?_
          refine pw_goto (q := 0) 216 C dX11_simulateRound_149 (by decide) ?_
          exact pw_vret C dX11_simulateRound_216 rfl ⟨by omega, by omega⟩ (RN.mk (by rw [roundP_c (by omega), if_pos ⟨by omega, by omega, g128⟩]))
      · rw [he]
        refine pw_tableIn (q := 0) 100 C dX11_simulateRound_56 (by decide +kernel) (by decide +kernel) (by rfl) (by decide) ?_
        refine pw_aload_n (q := 101) (j := 0) C dX11_simulateRound_100 rfl rfl rfl ?_
        refine pw_getf (q := 104) C dX11_simulateRound_101 fX11_19 mh_o (by rfl) rfl ?_
        refine pw_bipush_n (q := 106) C 6 dX11_simulateRound_104 (by decide +kernel) rfl ?_
        refine pw_ipg (q := 107) C dX11_simulateRound_106 mh_Q (by omega) (by omega) rfl ?_
        refine pw_if_le_n (q := 110) 216 C dX11_simulateRound_107 (by decide) rfl (by omega) (fun g107 => absurd g107 (by omega)) (fun g107 => ?_)
        refine pw_aload_n (q := 111) (j := 0) C dX11_simulateRound_110 rfl rfl rfl ?_
        refine pw_getf (q := 114) C dX11_simulateRound_111 fX11_19 mh_o (by rfl) rfl ?_
        refine pw_iconst_n (q := 115) C 5 dX11_simulateRound_114 (by decide +kernel) rfl ?_
        refine pw_ipg (q := 116) C dX11_simulateRound_115 mh_Q (by omega) (by omega) rfl ?_
        refine pw_if_le_n (q := 119) 216 C dX11_simulateRound_116 (by decide) rfl (by omega) (fun g116 => absurd g116 (by omega)) (fun g116 => ?_)
        refine pw_aload_n (q := 120) (j := 0) C dX11_simulateRound_119 rfl rfl rfl ?_
        refine pw_getf (q := 123) C dX11_simulateRound_120 fX11_19 mh_o (by rfl) rfl ?_
        refine pw_iload_n (q := 124) (j := 2) C dX11_simulateRound_123 rfl rfl rfl ?_
        refine pw_iload_n (q := 125) (j := 3) C dX11_simulateRound_124 rfl rfl rfl ?_
        refine pw_rd (q := 128) (cr_s (j := iX11_canCut) C dX11_simulateRound_125 lX11_152 mX11_canCut (ro_mk (by decide) (by decide))  (m_canCut mh_Q hI q6 q5) rfl rfl (Nat.le_of_ble_eq_true rfl) ⟨by omega, by omega⟩) rfl ?_
        refine pw_if_eq_b (q := 131) 216 C dX11_simulateRound_128 (by decide) rfl (fun g128 => ?_) (fun g128 => ?_)
        · exact pw_vret C dX11_simulateRound_216 rfl ⟨by omega, by omega⟩ (RN.mk (by rw [roundP_c (by omega), if_neg (fun q => g128 q.2.2)]))
        · refine pw_aload_n (q := 132) (j := 0) C dX11_simulateRound_131 rfl rfl rfl ?_
          refine pw_getf (q := 135) C dX11_simulateRound_132 fX11_19 mh_o (by rfl) rfl ?_
          refine pw_iload_n (q := 136) (j := 2) C dX11_simulateRound_135 rfl rfl rfl ?_
          refine pw_iload_n (q := 137) (j := 3) C dX11_simulateRound_136 rfl rfl rfl ?_
          refine pw_iload_n (q := 138) (j := 1) C dX11_simulateRound_137 rfl rfl rfl ?_
          refine pw_sipush_n (q := 141) C 1024 dX11_simulateRound_138 (by decide +kernel) rfl ?_
          refine pw_idiv_n (q := 142) C dX11_simulateRound_141 (by omega) (by omega) (by omega) rfl ?_
          refine pw_bipush_n (q := 144) C 10 dX11_simulateRound_142 (by decide +kernel) rfl ?_
          refine pw_irem_n (q := 145) C dX11_simulateRound_144 (by omega) (by omega) (by omega) rfl ?_
          refine pw_val (q := 148) (cr_s (j := iX11_cutOn) C dX11_simulateRound_145 lX11_156 mX11_cutOn (ro_mk (by decide) (by decide))  (m_cutOn mh_Q hI q6 q5 g128) rfl rfl (Nat.le_of_ble_eq_true rfl) ⟨by omega, by omega⟩) rfl (fun M145 e145 => ?_)
          rw [mh_s_Q] at e145
          subst e145
          refine pw_pop (q := 149) C dX11_simulateRound_148 rfl rfl ?_
          refine pw_goto (q := 0) 216 C dX11_simulateRound_149 (by decide) ?_
          exact pw_vret C dX11_simulateRound_216 rfl ⟨by omega, by omega⟩ (RN.mk (by rw [roundP_c (by omega), if_pos ⟨by omega, by omega, g128⟩]))
      · rw [he]
        refine pw_tableIn (q := 0) 100 C dX11_simulateRound_56 (by decide +kernel) (by decide +kernel) (by rfl) (by decide) ?_
        refine pw_aload_n (q := 101) (j := 0) C dX11_simulateRound_100 rfl rfl rfl ?_
        refine pw_getf (q := 104) C dX11_simulateRound_101 fX11_19 mh_o (by rfl) rfl ?_
        refine pw_bipush_n (q := 106) C 6 dX11_simulateRound_104 (by decide +kernel) rfl ?_
        refine pw_ipg (q := 107) C dX11_simulateRound_106 mh_Q (by omega) (by omega) rfl ?_
        refine pw_if_le_n (q := 110) 216 C dX11_simulateRound_107 (by decide) rfl (by omega) (fun g107 => absurd g107 (by omega)) (fun g107 => ?_)
        refine pw_aload_n (q := 111) (j := 0) C dX11_simulateRound_110 rfl rfl rfl ?_
        refine pw_getf (q := 114) C dX11_simulateRound_111 fX11_19 mh_o (by rfl) rfl ?_
        refine pw_iconst_n (q := 115) C 5 dX11_simulateRound_114 (by decide +kernel) rfl ?_
        refine pw_ipg (q := 116) C dX11_simulateRound_115 mh_Q (by omega) (by omega) rfl ?_
        refine pw_if_le_n (q := 119) 216 C dX11_simulateRound_116 (by decide) rfl (by omega) (fun g116 => absurd g116 (by omega)) (fun g116 => ?_)
        refine pw_aload_n (q := 120) (j := 0) C dX11_simulateRound_119 rfl rfl rfl ?_
        refine pw_getf (q := 123) C dX11_simulateRound_120 fX11_19 mh_o (by rfl) rfl ?_
        refine pw_iload_n (q := 124) (j := 2) C dX11_simulateRound_123 rfl rfl rfl ?_
        refine pw_iload_n (q := 125) (j := 3) C dX11_simulateRound_124 rfl rfl rfl ?_
        refine pw_rd (q := 128) (cr_s (j := iX11_canCut) C dX11_simulateRound_125 lX11_152 mX11_canCut (ro_mk (by decide) (by decide))  (m_canCut mh_Q hI q6 q5) rfl rfl (Nat.le_of_ble_eq_true rfl) ⟨by omega, by omega⟩) rfl ?_
        refine pw_if_eq_b (q := 131) 216 C dX11_simulateRound_128 (by decide) rfl (fun g128 => ?_) (fun g128 => ?_)
        · exact pw_vret C dX11_simulateRound_216 rfl ⟨by omega, by omega⟩ (RN.mk (by rw [roundP_c (by omega), if_neg (fun q => g128 q.2.2)]))
        · refine pw_aload_n (q := 132) (j := 0) C dX11_simulateRound_131 rfl rfl rfl ?_
          refine pw_getf (q := 135) C dX11_simulateRound_132 fX11_19 mh_o (by rfl) rfl ?_
          refine pw_iload_n (q := 136) (j := 2) C dX11_simulateRound_135 rfl rfl rfl ?_
          refine pw_iload_n (q := 137) (j := 3) C dX11_simulateRound_136 rfl rfl rfl ?_
          refine pw_iload_n (q := 138) (j := 1) C dX11_simulateRound_137 rfl rfl rfl ?_
          refine pw_sipush_n (q := 141) C 1024 dX11_simulateRound_138 (by decide +kernel) rfl ?_
          refine pw_idiv_n (q := 142) C dX11_simulateRound_141 (by omega) (by omega) (by omega) rfl ?_
          refine pw_bipush_n (q := 144) C 10 dX11_simulateRound_142 (by decide +kernel) rfl ?_
          refine pw_irem_n (q := 145) C dX11_simulateRound_144 (by omega) (by omega) (by omega) rfl ?_
          refine pw_val (q := 148) (cr_s (j := iX11_cutOn) C dX11_simulateRound_145 lX11_156 mX11_cutOn (ro_mk (by decide) (by decide))  (m_cutOn mh_Q hI q6 q5 g128) rfl rfl (Nat.le_of_ble_eq_true rfl) ⟨by omega, by omega⟩) rfl (fun M145 e145 => ?_)
          rw [mh_s_Q] at e145
          subst e145
          refine pw_pop (q := 149) C dX11_simulateRound_148 rfl rfl ?_
          refine pw_goto (q := 0) 216 C dX11_simulateRound_149 (by decide) ?_
          exact pw_vret C dX11_simulateRound_216 rfl ⟨by omega, by omega⟩ (RN.mk (by rw [roundP_c (by omega), if_pos ⟨by omega, by omega, g128⟩]))
      · rw [he]
        refine pw_tableIn (q := 0) 152 C dX11_simulateRound_56 (by decide +kernel) (by decide +kernel) (by rfl) (by decide) ?_
        refine pw_aload_n (q := 153) (j := 0) C dX11_simulateRound_152 rfl rfl rfl ?_
        by_cases hl : lowS Q 0 < Q 7
        · have s9 := hI.s hl
          refine pw_iconst_n (q := 154) C 0 dX11_simulateRound_153 (by decide +kernel) rfl ?_
          refine pw_val (q := 157) (cr_v (j := iX11_lowest) C dX11_simulateRound_154 lX11_195 mX11_lowest (ro_mk (by decide) (by decide)) mh_o rfl (rv_e (if_pos hl) (m_lowest hI (by decide))) rfl rfl (Nat.le_of_ble_eq_true rfl) ⟨by omega, by omega⟩) rfl (fun M154 e154 => ?_)
          subst e154
          refine pw_istore (q := 159) C dX11_simulateRound_157 rfl (by decide) rfl ?_
          refine pw_iload (q := 161) C dX11_simulateRound_159 rfl rfl ?_
          refine pw_bipush (q := 163) (v := (-9)) C dX11_simulateRound_161 (by decide +kernel) rfl ?_
          refine pw_icmp_eq (q := 166) 216 C dX11_simulateRound_163 (by decide) rfl (fun g163 => absurd g163 (optI_ne (by omega))) (fun g163 => ?_)
          refine pw_aload_n (q := 167) (j := 0) C dX11_simulateRound_166 rfl rfl rfl ?_
          refine pw_getf (q := 170) C dX11_simulateRound_167 fX11_19 mh_o (by rfl) rfl ?_
          refine pw_iload (q := 172) C dX11_simulateRound_170 rfl rfl ?_
          refine pw_val (q := 175) (cr_s (j := iX11_inspectOn) C dX11_simulateRound_172 lX11_159 mX11_inspectOn (ro_mk (by decide) (by decide))  (m_inspectOn mh_Q hI hl) rfl rfl (Nat.le_of_ble_eq_true rfl) ⟨by omega, by omega⟩) rfl (fun M172 e172 => ?_)
          rw [mh_s_Q] at e172
          subst e172
          refine pw_pop (q := 176) C dX11_simulateRound_175 rfl rfl ?_
          refine pw_goto (q := 0) 216 C dX11_simulateRound_176 (by decide) ?_
          exact pw_vret C dX11_simulateRound_216 rfl ⟨by omega, by omega⟩ (RN.mk (by rw [roundP_i (by omega), if_pos hl]))
        · refine pw_iconst_n (q := 154) C 0 dX11_simulateRound_153 (by decide +kernel) rfl ?_
          refine pw_val (q := 157) (cr_v (j := iX11_lowest) C dX11_simulateRound_154 lX11_195 mX11_lowest (ro_mk (by decide) (by decide)) mh_o rfl (rv_e (if_neg hl) (m_lowest hI (by decide))) rfl rfl (Nat.le_of_ble_eq_true rfl) ⟨by omega, by omega⟩) rfl (fun M154 e154 => ?_)
          subst e154
          refine pw_istore (q := 159) C dX11_simulateRound_157 rfl (by decide) rfl ?_
          refine pw_iload (q := 161) C dX11_simulateRound_159 rfl rfl ?_
          refine pw_bipush (q := 163) (v := (-9)) C dX11_simulateRound_161 (by decide +kernel) rfl ?_
          refine pw_icmp_eq (q := 166) 216 C dX11_simulateRound_163 (by decide) rfl (fun g163 => ?_) (fun g163 => absurd g163 (not_not_intro rfl))
          exact pw_vret C dX11_simulateRound_216 rfl ⟨by omega, by omega⟩ (RN.mk (by rw [roundP_i (by omega), if_neg hl]))
      · rw [he]
        refine pw_tableIn (q := 0) 152 C dX11_simulateRound_56 (by decide +kernel) (by decide +kernel) (by rfl) (by decide) ?_
        refine pw_aload_n (q := 153) (j := 0) C dX11_simulateRound_152 rfl rfl rfl ?_
        by_cases hl : lowS Q 0 < Q 7
        · have s9 := hI.s hl
          refine pw_iconst_n (q := 154) C 0 dX11_simulateRound_153 (by decide +kernel) rfl ?_
          refine pw_val (q := 157) (cr_v (j := iX11_lowest) C dX11_simulateRound_154 lX11_195 mX11_lowest (ro_mk (by decide) (by decide)) mh_o rfl (rv_e (if_pos hl) (m_lowest hI (by decide))) rfl rfl (Nat.le_of_ble_eq_true rfl) ⟨by omega, by omega⟩) rfl (fun M154 e154 => ?_)
          subst e154
          refine pw_istore (q := 159) C dX11_simulateRound_157 rfl (by decide) rfl ?_
          refine pw_iload (q := 161) C dX11_simulateRound_159 rfl rfl ?_
          refine pw_bipush (q := 163) (v := (-9)) C dX11_simulateRound_161 (by decide +kernel) rfl ?_
          refine pw_icmp_eq (q := 166) 216 C dX11_simulateRound_163 (by decide) rfl (fun g163 => absurd g163 (optI_ne (by omega))) (fun g163 => ?_)
          refine pw_aload_n (q := 167) (j := 0) C dX11_simulateRound_166 rfl rfl rfl ?_
          refine pw_getf (q := 170) C dX11_simulateRound_167 fX11_19 mh_o (by rfl) rfl ?_
          refine pw_iload (q := 172) C dX11_simulateRound_170 rfl rfl ?_
          refine pw_val (q := 175) (cr_s (j := iX11_inspectOn) C dX11_simulateRound_172 lX11_159 mX11_inspectOn (ro_mk (by decide) (by decide))  (m_inspectOn mh_Q hI hl) rfl rfl (Nat.le_of_ble_eq_true rfl) ⟨by omega, by omega⟩) rfl (fun M172 e172 => ?_)
          rw [mh_s_Q] at e172
          subst e172
          refine pw_pop (q := 176) C dX11_simulateRound_175 rfl rfl ?_
          refine pw_goto (q := 0) 216 C dX11_simulateRound_176 (by decide) ?_
          exact pw_vret C dX11_simulateRound_216 rfl ⟨by omega, by omega⟩ (RN.mk (by rw [roundP_i (by omega), if_pos hl]))
        · refine pw_iconst_n (q := 154) C 0 dX11_simulateRound_153 (by decide +kernel) rfl ?_
          refine pw_val (q := 157) (cr_v (j := iX11_lowest) C dX11_simulateRound_154 lX11_195 mX11_lowest (ro_mk (by decide) (by decide)) mh_o rfl (rv_e (if_neg hl) (m_lowest hI (by decide))) rfl rfl (Nat.le_of_ble_eq_true rfl) ⟨by omega, by omega⟩) rfl (fun M154 e154 => ?_)
          subst e154
          refine pw_istore (q := 159) C dX11_simulateRound_157 rfl (by decide) rfl ?_
          refine pw_iload (q := 161) C dX11_simulateRound_159 rfl rfl ?_
          refine pw_bipush (q := 163) (v := (-9)) C dX11_simulateRound_161 (by decide +kernel) rfl ?_
          refine pw_icmp_eq (q := 166) 216 C dX11_simulateRound_163 (by decide) rfl (fun g163 => ?_) (fun g163 => absurd g163 (not_not_intro rfl))
          exact pw_vret C dX11_simulateRound_216 rfl ⟨by omega, by omega⟩ (RN.mk (by rw [roundP_i (by omega), if_neg hl]))
      · rw [he]
        refine pw_tableIn (q := 0) 179 C dX11_simulateRound_56 (by decide +kernel) (by decide +kernel) (by rfl) (by decide) ?_
        refine pw_aload_n (q := 180) (j := 0) C dX11_simulateRound_179 rfl rfl rfl ?_
        refine pw_void (q := 183) (cr_v (j := iX11_setLowest) C dX11_simulateRound_180 lX11_198 mX11_setLowest (ro_mk (by decide) (by decide)) mh_o rfl (m_setLowest hI) rfl rfl (Nat.le_of_ble_eq_true rfl) ⟨by omega, by omega⟩) rfl (fun M180 e180 => ?_)
        subst e180
        refine pw_goto (q := 0) 216 C dX11_simulateRound_183 (by decide) ?_
        exact pw_vret C dX11_simulateRound_216 rfl ⟨by omega, by omega⟩ (RN.mk (by rw [roundP_s he]))
      · rw [he]
        refine pw_tableIn (q := 0) 186 C dX11_simulateRound_56 (by decide +kernel) (by decide +kernel) (by rfl) (by decide) ?_
        refine pw_aload_n (q := 187) (j := 0) C dX11_simulateRound_186 rfl rfl rfl ?_
        refine pw_iload_n (q := 188) (j := 2) C dX11_simulateRound_187 rfl rfl rfl ?_
        refine pw_void (q := 191) (cr_v (j := iX11_recutLowest) C dX11_simulateRound_188 lX11_201 mX11_recutLowest (ro_mk (by decide) (by decide)) mh_o rfl (m_recutLowest hI (Or.inl (Nat.mod_lt _ (by omega))) (by omega)) rfl rfl (Nat.le_of_ble_eq_true rfl) ⟨by omega, by omega⟩) rfl (fun M188 e188 => ?_)
        subst e188
        refine pw_goto (q := 0) 216 C dX11_simulateRound_191 (by decide) ?_
        exact pw_vret C dX11_simulateRound_216 rfl ⟨by omega, by omega⟩ (RN.mk (by rw [roundP_r he, if_pos (by omega)]))
      · rw [he]
        refine pw_tableOut (q := 0) 194 C dX11_simulateRound_56 (Or.inr (by decide +kernel)) (by decide) ?_
        refine pw_aload_n (q := 195) (j := 0) C dX11_simulateRound_194 rfl rfl rfl ?_
        refine pw_getf (q := 198) C dX11_simulateRound_195 fX11_19 mh_o (by rfl) rfl ?_
        refine pw_iload_n (q := 199) (j := 1) C dX11_simulateRound_198 rfl rfl rfl ?_
        refine pw_bipush_n (q := 201) C 8 dX11_simulateRound_199 (by decide +kernel) rfl ?_
        refine pw_idiv_n (q := 202) C dX11_simulateRound_201 (by omega) (by omega) (by omega) rfl ?_
        refine pw_iconst_n (q := 203) C 4 dX11_simulateRound_202 (by decide +kernel) rfl ?_
        refine pw_irem_n (q := 204) C dX11_simulateRound_203 (by omega) (by omega) (by omega) rfl ?_
        refine pw_if_ne_n (q := 207) 211 C dX11_simulateRound_204 (by decide) rfl (by omega) (fun g204 => ?_) (fun g204 => ?_)
        · refine pw_iconst_n (q := 212) C 0 dX11_simulateRound_211 (by decide +kernel) rfl ?_
          refine pw_val (q := 215) (cr_s (j := iX11_dayOn) C dX11_simulateRound_212 lX11_169 mX11_dayOn (ro_mk (by decide) (by decide))  (m_dayOn mh_Q hI (by omega)) rfl rfl (Nat.le_of_ble_eq_true rfl) ⟨by omega, by omega⟩) rfl (fun M212 e212 => ?_)
          rw [mh_s_Q] at e212
          subst e212
          refine pw_pop (q := 216) C dX11_simulateRound_215 rfl rfl ?_
          exact pw_vret C dX11_simulateRound_216 rfl ⟨by omega, by omega⟩ (RN.mk (by rw [roundP_d he, if_neg g204]))
        · refine pw_iconst_n (q := 208) C 1 dX11_simulateRound_207 (by decide +kernel) rfl ?_
          refine pw_goto (q := 0) 212 C dX11_simulateRound_208 (by decide) ?_
          refine pw_val (q := 215) (cr_s (j := iX11_dayOn) C dX11_simulateRound_212 lX11_169 mX11_dayOn (ro_mk (by decide) (by decide))  (m_dayOn mh_Q hI (by omega)) rfl rfl (Nat.le_of_ble_eq_true rfl) ⟨by omega, by omega⟩) rfl (fun M212 e212 => ?_)
          rw [mh_s_Q] at e212
          subst e212
          refine pw_pop (q := 216) C dX11_simulateRound_215 rfl rfl ?_
          exact pw_vret C dX11_simulateRound_216 rfl ⟨by omega, by omega⟩ (RN.mk (by rw [roundP_d he, if_pos g204]))
    · refine pw_iconst_n (q := 37) C 0 dX11_simulateRound_36 (by decide +kernel) rfl ?_
      refine pw_goto (q := 0) 51 C dX11_simulateRound_37 (by decide) ?_
      refine pw_istore_n (q := 52) (j := 3) C dX11_simulateRound_51 rfl rfl (by decide) rfl ?_
      refine pw_iload_n (q := 53) (j := 1) C dX11_simulateRound_52 rfl rfl rfl ?_
      refine pw_bipush_n (q := 55) C 8 dX11_simulateRound_53 (by decide +kernel) rfl ?_
      refine pw_irem_n (q := 56) C dX11_simulateRound_55 (by omega) (by omega) (by omega) rfl ?_
      rcases (show r % 8 = 0 ∨ r % 8 = 1 ∨ r % 8 = 2 ∨ r % 8 = 3 ∨ r % 8 = 4 ∨ r % 8 = 5 ∨ r % 8 = 6 ∨ r % 8 = 7 by omega) with he | he | he | he | he | he | he | he
      · rw [he]
        refine pw_tableIn (q := 0) 100 C dX11_simulateRound_56 (by decide +kernel) (by decide +kernel) (by rfl) (by decide) ?_
        refine pw_aload_n (q := 101) (j := 0) C dX11_simulateRound_100 rfl rfl rfl ?_
        refine pw_getf (q := 104) C dX11_simulateRound_101 fX11_19 mh_o (by rfl) rfl ?_
        refine pw_bipush_n (q := 106) C 6 dX11_simulateRound_104 (by decide +kernel) rfl ?_
        refine pw_ipg (q := 107) C dX11_simulateRound_106 mh_Q (by omega) (by omega) rfl ?_
        refine pw_if_le_n (q := 110) 216 C dX11_simulateRound_107 (by decide) rfl (by omega) (fun g107 => absurd g107 (by omega)) (fun g107 => ?_)
        refine pw_aload_n (q := 111) (j := 0) C dX11_simulateRound_110 rfl rfl rfl ?_
        refine pw_getf (q := 114) C dX11_simulateRound_111 fX11_19 mh_o (by rfl) rfl ?_
        refine pw_iconst_n (q := 115) C 5 dX11_simulateRound_114 (by decide +kernel) rfl ?_
        refine pw_ipg (q := 116) C dX11_simulateRound_115 mh_Q (by omega) (by omega) rfl ?_
        refine pw_if_le_n (q := 119) 216 C dX11_simulateRound_116 (by decide) rfl (by omega) (fun g116 => ?_) (fun g116 => absurd g116 (fun q => q (by omega)))
        exact pw_vret C dX11_simulateRound_216 rfl ⟨by omega, by omega⟩ (RN.mk (by rw [roundP_c (by omega), if_neg (by omega)]))
      · rw [he]
        refine pw_tableIn (q := 0) 100 C dX11_simulateRound_56 (by decide +kernel) (by decide +kernel) (by rfl) (by decide) ?_
        refine pw_aload_n (q := 101) (j := 0) C dX11_simulateRound_100 rfl rfl rfl ?_
        refine pw_getf (q := 104) C dX11_simulateRound_101 fX11_19 mh_o (by rfl) rfl ?_
        refine pw_bipush_n (q := 106) C 6 dX11_simulateRound_104 (by decide +kernel) rfl ?_
        refine pw_ipg (q := 107) C dX11_simulateRound_106 mh_Q (by omega) (by omega) rfl ?_
        refine pw_if_le_n (q := 110) 216 C dX11_simulateRound_107 (by decide) rfl (by omega) (fun g107 => absurd g107 (by omega)) (fun g107 => ?_)
        refine pw_aload_n (q := 111) (j := 0) C dX11_simulateRound_110 rfl rfl rfl ?_
        refine pw_getf (q := 114) C dX11_simulateRound_111 fX11_19 mh_o (by rfl) rfl ?_
        refine pw_iconst_n (q := 115) C 5 dX11_simulateRound_114 (by decide +kernel) rfl ?_
        refine pw_ipg (q := 116) C dX11_simulateRound_115 mh_Q (by omega) (by omega) rfl ?_
        refine pw_if_le_n (q := 119) 216 C dX11_simulateRound_116 (by decide) rfl (by omega) (fun g116 => ?_) (fun g116 => absurd g116 (fun q => q (by omega)))
        exact pw_vret C dX11_simulateRound_216 rfl ⟨by omega, by omega⟩ (RN.mk (by rw [roundP_c (by omega), if_neg (by omega)]))
      · rw [he]
        refine pw_tableIn (q := 0) 100 C dX11_simulateRound_56 (by decide +kernel) (by decide +kernel) (by rfl) (by decide) ?_
        refine pw_aload_n (q := 101) (j := 0) C dX11_simulateRound_100 rfl rfl rfl ?_
        refine pw_getf (q := 104) C dX11_simulateRound_101 fX11_19 mh_o (by rfl) rfl ?_
        refine pw_bipush_n (q := 106) C 6 dX11_simulateRound_104 (by decide +kernel) rfl ?_
        refine pw_ipg (q := 107) C dX11_simulateRound_106 mh_Q (by omega) (by omega) rfl ?_
        refine pw_if_le_n (q := 110) 216 C dX11_simulateRound_107 (by decide) rfl (by omega) (fun g107 => absurd g107 (by omega)) (fun g107 => ?_)
        refine pw_aload_n (q := 111) (j := 0) C dX11_simulateRound_110 rfl rfl rfl ?_
        refine pw_getf (q := 114) C dX11_simulateRound_111 fX11_19 mh_o (by rfl) rfl ?_
        refine pw_iconst_n (q := 115) C 5 dX11_simulateRound_114 (by decide +kernel) rfl ?_
        refine pw_ipg (q := 116) C dX11_simulateRound_115 mh_Q (by omega) (by omega) rfl ?_
        refine pw_if_le_n (q := 119) 216 C dX11_simulateRound_116 (by decide) rfl (by omega) (fun g116 => ?_) (fun g116 => absurd g116 (fun q => q (by omega)))
        exact pw_vret C dX11_simulateRound_216 rfl ⟨by omega, by omega⟩ (RN.mk (by rw [roundP_c (by omega), if_neg (by omega)]))
      · rw [he]
        refine pw_tableIn (q := 0) 152 C dX11_simulateRound_56 (by decide +kernel) (by decide +kernel) (by rfl) (by decide) ?_
        refine pw_aload_n (q := 153) (j := 0) C dX11_simulateRound_152 rfl rfl rfl ?_
        by_cases hl : lowS Q 0 < Q 7
        · have s9 := hI.s hl
          refine pw_iconst_n (q := 154) C 0 dX11_simulateRound_153 (by decide +kernel) rfl ?_
          refine pw_val (q := 157) (cr_v (j := iX11_lowest) C dX11_simulateRound_154 lX11_195 mX11_lowest (ro_mk (by decide) (by decide)) mh_o rfl (rv_e (if_pos hl) (m_lowest hI (by decide))) rfl rfl (Nat.le_of_ble_eq_true rfl) ⟨by omega, by omega⟩) rfl (fun M154 e154 => ?_)
          subst e154
          refine pw_istore (q := 159) C dX11_simulateRound_157 rfl (by decide) rfl ?_
          refine pw_iload (q := 161) C dX11_simulateRound_159 rfl rfl ?_
          refine pw_bipush (q := 163) (v := (-9)) C dX11_simulateRound_161 (by decide +kernel) rfl ?_
          refine pw_icmp_eq (q := 166) 216 C dX11_simulateRound_163 (by decide) rfl (fun g163 => absurd g163 (optI_ne (by omega))) (fun g163 => ?_)
          refine pw_aload_n (q := 167) (j := 0) C dX11_simulateRound_166 rfl rfl rfl ?_
          refine pw_getf (q := 170) C dX11_simulateRound_167 fX11_19 mh_o (by rfl) rfl ?_
          refine pw_iload (q := 172) C dX11_simulateRound_170 rfl rfl ?_
          refine pw_val (q := 175) (cr_s (j := iX11_inspectOn) C dX11_simulateRound_172 lX11_159 mX11_inspectOn (ro_mk (by decide) (by decide))  (m_inspectOn mh_Q hI hl) rfl rfl (Nat.le_of_ble_eq_true rfl) ⟨by omega, by omega⟩) rfl (fun M172 e172 => ?_)
          rw [mh_s_Q] at e172
          subst e172
          refine pw_pop (q := 176) C dX11_simulateRound_175 rfl rfl ?_
          refine pw_goto (q := 0) 216 C dX11_simulateRound_176 (by decide) ?_
          exact pw_vret C dX11_simulateRound_216 rfl ⟨by omega, by omega⟩ (RN.mk (by rw [roundP_i (by omega), if_pos hl]))
        · refine pw_iconst_n (q := 154) C 0 dX11_simulateRound_153 (by decide +kernel) rfl ?_
          refine pw_val (q := 157) (cr_v (j := iX11_lowest) C dX11_simulateRound_154 lX11_195 mX11_lowest (ro_mk (by decide) (by decide)) mh_o rfl (rv_e (if_neg hl) (m_lowest hI (by decide))) rfl rfl (Nat.le_of_ble_eq_true rfl) ⟨by omega, by omega⟩) rfl (fun M154 e154 => ?_)
          subst e154
          refine pw_istore (q := 159) C dX11_simulateRound_157 rfl (by decide) rfl ?_
          refine pw_iload (q := 161) C dX11_simulateRound_159 rfl rfl ?_
          refine pw_bipush (q := 163) (v := (-9)) C dX11_simulateRound_161 (by decide +kernel) rfl ?_
          refine pw_icmp_eq (q := 166) 216 C dX11_simulateRound_163 (by decide) rfl (fun g163 => ?_) (fun g163 => absurd g163 (not_not_intro rfl))
          exact pw_vret C dX11_simulateRound_216 rfl ⟨by omega, by omega⟩ (RN.mk (by rw [roundP_i (by omega), if_neg hl]))
      · rw [he]
        refine pw_tableIn (q := 0) 152 C dX11_simulateRound_56 (by decide +kernel) (by decide +kernel) (by rfl) (by decide) ?_
        refine pw_aload_n (q := 153) (j := 0) C dX11_simulateRound_152 rfl rfl rfl ?_
        by_cases hl : lowS Q 0 < Q 7
        · have s9 := hI.s hl
          refine pw_iconst_n (q := 154) C 0 dX11_simulateRound_153 (by decide +kernel) rfl ?_
          refine pw_val (q := 157) (cr_v (j := iX11_lowest) C dX11_simulateRound_154 lX11_195 mX11_lowest (ro_mk (by decide) (by decide)) mh_o rfl (rv_e (if_pos hl) (m_lowest hI (by decide))) rfl rfl (Nat.le_of_ble_eq_true rfl) ⟨by omega, by omega⟩) rfl (fun M154 e154 => ?_)
          subst e154
          refine pw_istore (q := 159) C dX11_simulateRound_157 rfl (by decide) rfl ?_
          refine pw_iload (q := 161) C dX11_simulateRound_159 rfl rfl ?_
          refine pw_bipush (q := 163) (v := (-9)) C dX11_simulateRound_161 (by decide +kernel) rfl ?_
          refine pw_icmp_eq (q := 166) 216 C dX11_simulateRound_163 (by decide) rfl (fun g163 => absurd g163 (optI_ne (by omega))) (fun g163 => ?_)
          refine pw_aload_n (q := 167) (j := 0) C dX11_simulateRound_166 rfl rfl rfl ?_
          refine pw_getf (q := 170) C dX11_simulateRound_167 fX11_19 mh_o (by rfl) rfl ?_
          refine pw_iload (q := 172) C dX11_simulateRound_170 rfl rfl ?_
          refine pw_val (q := 175) (cr_s (j := iX11_inspectOn) C dX11_simulateRound_172 lX11_159 mX11_inspectOn (ro_mk (by decide) (by decide))  (m_inspectOn mh_Q hI hl) rfl rfl (Nat.le_of_ble_eq_true rfl) ⟨by omega, by omega⟩) rfl (fun M172 e172 => ?_)
          rw [mh_s_Q] at e172
          subst e172
          refine pw_pop (q := 176) C dX11_simulateRound_175 rfl rfl ?_
          refine pw_goto (q := 0) 216 C dX11_simulateRound_176 (by decide) ?_
          exact pw_vret C dX11_simulateRound_216 rfl ⟨by omega, by omega⟩ (RN.mk (by rw [roundP_i (by omega), if_pos hl]))
        · refine pw_iconst_n (q := 154) C 0 dX11_simulateRound_153 (by decide +kernel) rfl ?_
          refine pw_val (q := 157) (cr_v (j := iX11_lowest) C dX11_simulateRound_154 lX11_195 mX11_lowest (ro_mk (by decide) (by decide)) mh_o rfl (rv_e (if_neg hl) (m_lowest hI (by decide))) rfl rfl (Nat.le_of_ble_eq_true rfl) ⟨by omega, by omega⟩) rfl (fun M154 e154 => ?_)
          subst e154
          refine pw_istore (q := 159) C dX11_simulateRound_157 rfl (by decide) rfl ?_
          refine pw_iload (q := 161) C dX11_simulateRound_159 rfl rfl ?_
          refine pw_bipush (q := 163) (v := (-9)) C dX11_simulateRound_161 (by decide +kernel) rfl ?_
          refine pw_icmp_eq (q := 166) 216 C dX11_simulateRound_163 (by decide) rfl (fun g163 => ?_) (fun g163 => absurd g163 (not_not_intro rfl))
          exact pw_vret C dX11_simulateRound_216 rfl ⟨by omega, by omega⟩ (RN.mk (by rw [roundP_i (by omega), if_neg hl]))
      · rw [he]
        refine pw_tableIn (q := 0) 179 C dX11_simulateRound_56 (by decide +kernel) (by decide +kernel) (by rfl) (by decide) ?_
        refine pw_aload_n (q := 180) (j := 0) C dX11_simulateRound_179 rfl rfl rfl ?_
        refine pw_void (q := 183) (cr_v (j := iX11_setLowest) C dX11_simulateRound_180 lX11_198 mX11_setLowest (ro_mk (by decide) (by decide)) mh_o rfl (m_setLowest hI) rfl rfl (Nat.le_of_ble_eq_true rfl) ⟨by omega, by omega⟩) rfl (fun M180 e180 => ?_)
        subst e180
        refine pw_goto (q := 0) 216 C dX11_simulateRound_183 (by decide) ?_
        exact pw_vret C dX11_simulateRound_216 rfl ⟨by omega, by omega⟩ (RN.mk (by rw [roundP_s he]))
      · rw [he]
        refine pw_tableIn (q := 0) 186 C dX11_simulateRound_56 (by decide +kernel) (by decide +kernel) (by rfl) (by decide) ?_
        refine pw_aload_n (q := 187) (j := 0) C dX11_simulateRound_186 rfl rfl rfl ?_
        refine pw_iload_n (q := 188) (j := 2) C dX11_simulateRound_187 rfl rfl rfl ?_
        refine pw_void (q := 191) (cr_v (j := iX11_recutLowest) C dX11_simulateRound_188 lX11_201 mX11_recutLowest (ro_mk (by decide) (by decide)) mh_o rfl (m_recutLowest hI (Or.inl (Nat.mod_lt _ (by omega))) (by omega)) rfl rfl (Nat.le_of_ble_eq_true rfl) ⟨by omega, by omega⟩) rfl (fun M188 e188 => ?_)
        subst e188
        refine pw_goto (q := 0) 216 C dX11_simulateRound_191 (by decide) ?_
        exact pw_vret C dX11_simulateRound_216 rfl ⟨by omega, by omega⟩ (RN.mk (by rw [roundP_r he, if_pos (by omega)]))
      · rw [he]
        refine pw_tableOut (q := 0) 194 C dX11_simulateRound_56 (Or.inr (by decide +kernel)) (by decide) ?_
        refine pw_aload_n (q := 195) (j := 0) C dX11_simulateRound_194 rfl rfl rfl ?_
        refine pw_getf (q := 198) C dX11_simulateRound_195 fX11_19 mh_o (by rfl) rfl ?_
        refine pw_iload_n (q := 199) (j := 1) C dX11_simulateRound_198 rfl rfl rfl ?_
        refine pw_bipush_n (q := 201) C 8 dX11_simulateRound_199 (by decide +kernel) rfl ?_
        refine pw_idiv_n (q := 202) C dX11_simulateRound_201 (by omega) (by omega) (by omega) rfl ?_
        refine pw_iconst_n (q := 203) C 4 dX11_simulateRound_202 (by decide +kernel) rfl ?_
        refine pw_irem_n (q := 204) C dX11_simulateRound_203 (by omega) (by omega) (by omega) rfl ?_
        refine pw_if_ne_n (q := 207) 211 C dX11_simulateRound_204 (by decide) rfl (by omega) (fun g204 => ?_) (fun g204 => ?_)
        · refine pw_iconst_n (q := 212) C 0 dX11_simulateRound_211 (by decide +kernel) rfl ?_
          refine pw_val (q := 215) (cr_s (j := iX11_dayOn) C dX11_simulateRound_212 lX11_169 mX11_dayOn (ro_mk (by decide) (by decide))  (m_dayOn mh_Q hI (by omega)) rfl rfl (Nat.le_of_ble_eq_true rfl) ⟨by omega, by omega⟩) rfl (fun M212 e212 => ?_)
          rw [mh_s_Q] at e212
          subst e212
          refine pw_pop (q := 216) C dX11_simulateRound_215 rfl rfl ?_
          exact pw_vret C dX11_simulateRound_216 rfl ⟨by omega, by omega⟩ (RN.mk (by rw [roundP_d he, if_neg g204]))
        · refine pw_iconst_n (q := 208) C 1 dX11_simulateRound_207 (by decide +kernel) rfl ?_
          refine pw_goto (q := 0) 212 C dX11_simulateRound_208 (by decide) ?_
          refine pw_val (q := 215) (cr_s (j := iX11_dayOn) C dX11_simulateRound_212 lX11_169 mX11_dayOn (ro_mk (by decide) (by decide))  (m_dayOn mh_Q hI (by omega)) rfl rfl (Nat.le_of_ble_eq_true rfl) ⟨by omega, by omega⟩) rfl (fun M212 e212 => ?_)
          rw [mh_s_Q] at e212
          subst e212
          refine pw_pop (q := 216) C dX11_simulateRound_215 rfl rfl ?_
          exact pw_vret C dX11_simulateRound_216 rfl ⟨by omega, by omega⟩ (RN.mk (by rw [roundP_d he, if_pos g204]))
  · refine pw_iconst_n (q := 11) C 0 dX11_simulateRound_10 (by decide +kernel) rfl ?_
    refine pw_goto (q := 0) 26 C dX11_simulateRound_11 (by decide) ?_
    refine pw_istore_n (q := 27) (j := 2) C dX11_simulateRound_26 rfl rfl (by decide) rfl ?_
    refine pw_aload_n (q := 28) (j := 0) C dX11_simulateRound_27 rfl rfl rfl ?_
    refine pw_getf (q := 31) C dX11_simulateRound_28 fX11_19 mh_o (by rfl) rfl ?_
    refine pw_iconst_n (q := 32) C 5 dX11_simulateRound_31 (by decide +kernel) rfl ?_
    refine pw_ipg (q := 33) C dX11_simulateRound_32 mh_Q (by omega) (by omega) rfl ?_
    refine pw_if_ne_n (q := 36) 40 C dX11_simulateRound_33 (by decide) rfl (by omega) (fun g33 => ?_) (fun g33 => ?_)
    · have q5 : r / 64 % Q 5 < Q 5 := Nat.mod_lt _ (by omega)
      refine pw_iload_n (q := 41) (j := 1) C dX11_simulateRound_40 rfl rfl rfl ?_
      refine pw_bipush_n (q := 43) C 64 dX11_simulateRound_41 (by decide +kernel) rfl ?_
      refine pw_idiv_n (q := 44) C dX11_simulateRound_43 (by omega) (by omega) (by omega) rfl ?_
      refine pw_aload_n (q := 45) (j := 0) C dX11_simulateRound_44 rfl rfl rfl ?_
      refine pw_getf (q := 48) C dX11_simulateRound_45 fX11_19 mh_o (by rfl) rfl ?_
      refine pw_iconst_n (q := 49) C 5 dX11_simulateRound_48 (by decide +kernel) rfl ?_
      refine pw_ipg (q := 50) C dX11_simulateRound_49 mh_Q (by omega) (by omega) rfl ?_
      refine pw_irem_n (q := 51) C dX11_simulateRound_50 (by omega) (by omega) (by omega) rfl ?_
      refine pw_istore_n (q := 52) (j := 3) C dX11_simulateRound_51 rfl rfl (by decide) rfl ?_
      refine pw_iload_n (q := 53) (j := 1) C dX11_simulateRound_52 rfl rfl rfl ?_
      refine pw_bipush_n (q := 55) C 8 dX11_simulateRound_53 (by decide +kernel) rfl ?_
      refine pw_irem_n (q := 56) C dX11_simulateRound_55 (by omega) (by omega) (by omega) rfl ?_
      rcases (show r % 8 = 0 ∨ r % 8 = 1 ∨ r % 8 = 2 ∨ r % 8 = 3 ∨ r % 8 = 4 ∨ r % 8 = 5 ∨ r % 8 = 6 ∨ r % 8 = 7 by omega) with he | he | he | he | he | he | he | he
      · rw [he]
        refine pw_tableIn (q := 0) 100 C dX11_simulateRound_56 (by decide +kernel) (by decide +kernel) (by rfl) (by decide) ?_
        refine pw_aload_n (q := 101) (j := 0) C dX11_simulateRound_100 rfl rfl rfl ?_
        refine pw_getf (q := 104) C dX11_simulateRound_101 fX11_19 mh_o (by rfl) rfl ?_
        refine pw_bipush_n (q := 106) C 6 dX11_simulateRound_104 (by decide +kernel) rfl ?_
        refine pw_ipg (q := 107) C dX11_simulateRound_106 mh_Q (by omega) (by omega) rfl ?_
        refine pw_if_le_n (q := 110) 216 C dX11_simulateRound_107 (by decide) rfl (by omega) (fun g107 => ?_) (fun g107 => absurd g107 (fun q => q (by omega)))
        exact pw_vret C dX11_simulateRound_216 rfl ⟨by omega, by omega⟩ (RN.mk (by rw [roundP_c (by omega), if_neg (by omega)]))
      · rw [he]
        refine pw_tableIn (q := 0) 100 C dX11_simulateRound_56 (by decide +kernel) (by decide +kernel) (by rfl) (by decide) ?_
        refine pw_aload_n (q := 101) (j := 0) C dX11_simulateRound_100 rfl rfl rfl ?_
        refine pw_getf (q := 104) C dX11_simulateRound_101 fX11_19 mh_o (by rfl) rfl ?_
        refine pw_bipush_n (q := 106) C 6 dX11_simulateRound_104 (by decide +kernel) rfl ?_
        refine pw_ipg (q := 107) C dX11_simulateRound_106 mh_Q (by omega) (by omega) rfl ?_
        refine pw_if_le_n (q := 110) 216 C dX11_simulateRound_107 (by decide) rfl (by omega) (fun g107 => ?_) (fun g107 => absurd g107 (fun q => q (by omega)))
        exact pw_vret C dX11_simulateRound_216 rfl ⟨by omega, by omega⟩ (RN.mk (by rw [roundP_c (by omega), if_neg (by omega)]))
      · rw [he]
        refine pw_tableIn (q := 0) 100 C dX11_simulateRound_56 (by decide +kernel) (by decide +kernel) (by rfl) (by decide) ?_
        refine pw_aload_n (q := 101) (j := 0) C dX11_simulateRound_100 rfl rfl rfl ?_
        refine pw_getf (q := 104) C dX11_simulateRound_101 fX11_19 mh_o (by rfl) rfl ?_
        refine pw_bipush_n (q := 106) C 6 dX11_simulateRound_104 (by decide +kernel) rfl ?_
        refine pw_ipg (q := 107) C dX11_simulateRound_106 mh_Q (by omega) (by omega) rfl ?_
        refine pw_if_le_n (q := 110) 216 C dX11_simulateRound_107 (by decide) rfl (by omega) (fun g107 => ?_) (fun g107 => absurd g107 (fun q => q (by omega)))
        exact pw_vret C dX11_simulateRound_216 rfl ⟨by omega, by omega⟩ (RN.mk (by rw [roundP_c (by omega), if_neg (by omega)]))
      · rw [he]
        refine pw_tableIn (q := 0) 152 C dX11_simulateRound_56 (by decide +kernel) (by decide +kernel) (by rfl) (by decide) ?_
        refine pw_aload_n (q := 153) (j := 0) C dX11_simulateRound_152 rfl rfl rfl ?_
        by_cases hl : lowS Q 0 < Q 7
        · have s9 := hI.s hl
          refine pw_iconst_n (q := 154) C 0 dX11_simulateRound_153 (by decide +kernel) rfl ?_
          refine pw_val (q := 157) (cr_v (j := iX11_lowest) C dX11_simulateRound_154 lX11_195 mX11_lowest (ro_mk (by decide) (by decide)) mh_o rfl (rv_e (if_pos hl) (m_lowest hI (by decide))) rfl rfl (Nat.le_of_ble_eq_true rfl) ⟨by omega, by omega⟩) rfl (fun M154 e154 => ?_)
          subst e154
          refine pw_istore (q := 159) C dX11_simulateRound_157 rfl (by decide) rfl ?_
          refine pw_iload (q := 161) C dX11_simulateRound_159 rfl rfl ?_
          refine pw_bipush (q := 163) (v := (-9)) C dX11_simulateRound_161 (by decide +kernel) rfl ?_
          refine pw_icmp_eq (q := 166) 216 C dX11_simulateRound_163 (by decide) rfl (fun g163 => absurd g163 (optI_ne (by omega))) (fun g163 => ?_)
          refine pw_aload_n (q := 167) (j := 0) C dX11_simulateRound_166 rfl rfl rfl ?_
          refine pw_getf (q := 170) C dX11_simulateRound_167 fX11_19 mh_o (by rfl) rfl ?_
          refine pw_iload (q := 172) C dX11_simulateRound_170 rfl rfl ?_
          refine pw_val (q := 175) (cr_s (j := iX11_inspectOn) C dX11_simulateRound_172 lX11_159 mX11_inspectOn (ro_mk (by decide) (by decide))  (m_inspectOn mh_Q hI hl) rfl rfl (Nat.le_of_ble_eq_true rfl) ⟨by omega, by omega⟩) rfl (fun M172 e172 => ?_)
          rw [mh_s_Q] at e172
          subst e172
          refine pw_pop (q := 176) C dX11_simulateRound_175 rfl rfl ?_
          refine pw_goto (q := 0) 216 C dX11_simulateRound_176 (by decide) ?_
          exact pw_vret C dX11_simulateRound_216 rfl ⟨by omega, by omega⟩ (RN.mk (by rw [roundP_i (by omega), if_pos hl]))
        · refine pw_iconst_n (q := 154) C 0 dX11_simulateRound_153 (by decide +kernel) rfl ?_
          refine pw_val (q := 157) (cr_v (j := iX11_lowest) C dX11_simulateRound_154 lX11_195 mX11_lowest (ro_mk (by decide) (by decide)) mh_o rfl (rv_e (if_neg hl) (m_lowest hI (by decide))) rfl rfl (Nat.le_of_ble_eq_true rfl) ⟨by omega, by omega⟩) rfl (fun M154 e154 => ?_)
          subst e154
          refine pw_istore (q := 159) C dX11_simulateRound_157 rfl (by decide) rfl ?_
          refine pw_iload (q := 161) C dX11_simulateRound_159 rfl rfl ?_
          refine pw_bipush (q := 163) (v := (-9)) C dX11_simulateRound_161 (by decide +kernel) rfl ?_
          refine pw_icmp_eq (q := 166) 216 C dX11_simulateRound_163 (by decide) rfl (fun g163 => ?_) (fun g163 => absurd g163 (not_not_intro rfl))
          exact pw_vret C dX11_simulateRound_216 rfl ⟨by omega, by omega⟩ (RN.mk (by rw [roundP_i (by omega), if_neg hl]))
      · rw [he]
        refine pw_tableIn (q := 0) 152 C dX11_simulateRound_56 (by decide +kernel) (by decide +kernel) (by rfl) (by decide) ?_
        refine pw_aload_n (q := 153) (j := 0) C dX11_simulateRound_152 rfl rfl rfl ?_
        by_cases hl : lowS Q 0 < Q 7
        · have s9 := hI.s hl
          refine pw_iconst_n (q := 154) C 0 dX11_simulateRound_153 (by decide +kernel) rfl ?_
          refine pw_val (q := 157) (cr_v (j := iX11_lowest) C dX11_simulateRound_154 lX11_195 mX11_lowest (ro_mk (by decide) (by decide)) mh_o rfl (rv_e (if_pos hl) (m_lowest hI (by decide))) rfl rfl (Nat.le_of_ble_eq_true rfl) ⟨by omega, by omega⟩) rfl (fun M154 e154 => ?_)
          subst e154
          refine pw_istore (q := 159) C dX11_simulateRound_157 rfl (by decide) rfl ?_
          refine pw_iload (q := 161) C dX11_simulateRound_159 rfl rfl ?_
          refine pw_bipush (q := 163) (v := (-9)) C dX11_simulateRound_161 (by decide +kernel) rfl ?_
          refine pw_icmp_eq (q := 166) 216 C dX11_simulateRound_163 (by decide) rfl (fun g163 => absurd g163 (optI_ne (by omega))) (fun g163 => ?_)
          refine pw_aload_n (q := 167) (j := 0) C dX11_simulateRound_166 rfl rfl rfl ?_
          refine pw_getf (q := 170) C dX11_simulateRound_167 fX11_19 mh_o (by rfl) rfl ?_
          refine pw_iload (q := 172) C dX11_simulateRound_170 rfl rfl ?_
          refine pw_val (q := 175) (cr_s (j := iX11_inspectOn) C dX11_simulateRound_172 lX11_159 mX11_inspectOn (ro_mk (by decide) (by decide))  (m_inspectOn mh_Q hI hl) rfl rfl (Nat.le_of_ble_eq_true rfl) ⟨by omega, by omega⟩) rfl (fun M172 e172 => ?_)
          rw [mh_s_Q] at e172
          subst e172
          refine pw_pop (q := 176) C dX11_simulateRound_175 rfl rfl ?_
          refine pw_goto (q := 0) 216 C dX11_simulateRound_176 (by decide) ?_
          exact pw_vret C dX11_simulateRound_216 rfl ⟨by omega, by omega⟩ (RN.mk (by rw [roundP_i (by omega), if_pos hl]))
        · refine pw_iconst_n (q := 154) C 0 dX11_simulateRound_153 (by decide +kernel) rfl ?_
          refine pw_val (q := 157) (cr_v (j := iX11_lowest) C dX11_simulateRound_154 lX11_195 mX11_lowest (ro_mk (by decide) (by decide)) mh_o rfl (rv_e (if_neg hl) (m_lowest hI (by decide))) rfl rfl (Nat.le_of_ble_eq_true rfl) ⟨by omega, by omega⟩) rfl (fun M154 e154 => ?_)
          subst e154
          refine pw_istore (q := 159) C dX11_simulateRound_157 rfl (by decide) rfl ?_
          refine pw_iload (q := 161) C dX11_simulateRound_159 rfl rfl ?_
          refine pw_bipush (q := 163) (v := (-9)) C dX11_simulateRound_161 (by decide +kernel) rfl ?_
          refine pw_icmp_eq (q := 166) 216 C dX11_simulateRound_163 (by decide) rfl (fun g163 => ?_) (fun g163 => absurd g163 (not_not_intro rfl))
          exact pw_vret C dX11_simulateRound_216 rfl ⟨by omega, by omega⟩ (RN.mk (by rw [roundP_i (by omega), if_neg hl]))
      · rw [he]
        refine pw_tableIn (q := 0) 179 C dX11_simulateRound_56 (by decide +kernel) (by decide +kernel) (by rfl) (by decide) ?_
        refine pw_aload_n (q := 180) (j := 0) C dX11_simulateRound_179 rfl rfl rfl ?_
        refine pw_void (q := 183) (cr_v (j := iX11_setLowest) C dX11_simulateRound_180 lX11_198 mX11_setLowest (ro_mk (by decide) (by decide)) mh_o rfl (m_setLowest hI) rfl rfl (Nat.le_of_ble_eq_true rfl) ⟨by omega, by omega⟩) rfl (fun M180 e180 => ?_)
        subst e180
        refine pw_goto (q := 0) 216 C dX11_simulateRound_183 (by decide) ?_
        exact pw_vret C dX11_simulateRound_216 rfl ⟨by omega, by omega⟩ (RN.mk (by rw [roundP_s he]))
      · rw [he]
        refine pw_tableIn (q := 0) 186 C dX11_simulateRound_56 (by decide +kernel) (by decide +kernel) (by rfl) (by decide) ?_
        refine pw_aload_n (q := 187) (j := 0) C dX11_simulateRound_186 rfl rfl rfl ?_
        refine pw_iload_n (q := 188) (j := 2) C dX11_simulateRound_187 rfl rfl rfl ?_
        refine pw_void (q := 191) (cr_v (j := iX11_recutLowest) C dX11_simulateRound_188 lX11_201 mX11_recutLowest (ro_mk (by decide) (by decide)) mh_o rfl (m_recutLowest hI (Or.inr (by omega)) (by omega)) rfl rfl (Nat.le_of_ble_eq_true rfl) ⟨by omega, by omega⟩) rfl (fun M188 e188 => ?_)
        subst e188
        refine pw_goto (q := 0) 216 C dX11_simulateRound_191 (by decide) ?_
        exact pw_vret C dX11_simulateRound_216 rfl ⟨by omega, by omega⟩ (RN.mk (by rw [roundP_0 hI he (by omega)]))
      · rw [he]
        refine pw_tableOut (q := 0) 194 C dX11_simulateRound_56 (Or.inr (by decide +kernel)) (by decide) ?_
        refine pw_aload_n (q := 195) (j := 0) C dX11_simulateRound_194 rfl rfl rfl ?_
        refine pw_getf (q := 198) C dX11_simulateRound_195 fX11_19 mh_o (by rfl) rfl ?_
        refine pw_iload_n (q := 199) (j := 1) C dX11_simulateRound_198 rfl rfl rfl ?_
        refine pw_bipush_n (q := 201) C 8 dX11_simulateRound_199 (by decide +kernel) rfl ?_
        refine pw_idiv_n (q := 202) C dX11_simulateRound_201 (by omega) (by omega) (by omega) rfl ?_
        refine pw_iconst_n (q := 203) C 4 dX11_simulateRound_202 (by decide +kernel) rfl ?_
        refine pw_irem_n (q := 204) C dX11_simulateRound_203 (by omega) (by omega) (by omega) rfl ?_
        refine pw_if_ne_n (q := 207) 211 C dX11_simulateRound_204 (by decide) rfl (by omega) (fun g204 => ?_) (fun g204 => ?_)
        · refine pw_iconst_n (q := 212) C 0 dX11_simulateRound_211 (by decide +kernel) rfl ?_
          refine pw_val (q := 215) (cr_s (j := iX11_dayOn) C dX11_simulateRound_212 lX11_169 mX11_dayOn (ro_mk (by decide) (by decide))  (m_dayOn mh_Q hI (by omega)) rfl rfl (Nat.le_of_ble_eq_true rfl) ⟨by omega, by omega⟩) rfl (fun M212 e212 => ?_)
          rw [mh_s_Q] at e212
          subst e212
          refine pw_pop (q := 216) C dX11_simulateRound_215 rfl rfl ?_
          exact pw_vret C dX11_simulateRound_216 rfl ⟨by omega, by omega⟩ (RN.mk (by rw [roundP_d he, if_neg g204]))
        · refine pw_iconst_n (q := 208) C 1 dX11_simulateRound_207 (by decide +kernel) rfl ?_
          refine pw_goto (q := 0) 212 C dX11_simulateRound_208 (by decide) ?_
          refine pw_val (q := 215) (cr_s (j := iX11_dayOn) C dX11_simulateRound_212 lX11_169 mX11_dayOn (ro_mk (by decide) (by decide))  (m_dayOn mh_Q hI (by omega)) rfl rfl (Nat.le_of_ble_eq_true rfl) ⟨by omega, by omega⟩) rfl (fun M212 e212 => ?_)
          rw [mh_s_Q] at e212
          subst e212
          refine pw_pop (q := 216) C dX11_simulateRound_215 rfl rfl ?_
          exact pw_vret C dX11_simulateRound_216 rfl ⟨by omega, by omega⟩ (RN.mk (by rw [roundP_d he, if_pos g204]))
    · refine pw_iconst_n (q := 37) C 0 dX11_simulateRound_36 (by decide +kernel) rfl ?_
      refine pw_goto (q := 0) 51 C dX11_simulateRound_37 (by decide) ?_
      refine pw_istore_n (q := 52) (j := 3) C dX11_simulateRound_51 rfl rfl (by decide) rfl ?_
      refine pw_iload_n (q := 53) (j := 1) C dX11_simulateRound_52 rfl rfl rfl ?_
      refine pw_bipush_n (q := 55) C 8 dX11_simulateRound_53 (by decide +kernel) rfl ?_
      refine pw_irem_n (q := 56) C dX11_simulateRound_55 (by omega) (by omega) (by omega) rfl ?_
      rcases (show r % 8 = 0 ∨ r % 8 = 1 ∨ r % 8 = 2 ∨ r % 8 = 3 ∨ r % 8 = 4 ∨ r % 8 = 5 ∨ r % 8 = 6 ∨ r % 8 = 7 by omega) with he | he | he | he | he | he | he | he
      · rw [he]
        refine pw_tableIn (q := 0) 100 C dX11_simulateRound_56 (by decide +kernel) (by decide +kernel) (by rfl) (by decide) ?_
        refine pw_aload_n (q := 101) (j := 0) C dX11_simulateRound_100 rfl rfl rfl ?_
        refine pw_getf (q := 104) C dX11_simulateRound_101 fX11_19 mh_o (by rfl) rfl ?_
        refine pw_bipush_n (q := 106) C 6 dX11_simulateRound_104 (by decide +kernel) rfl ?_
        refine pw_ipg (q := 107) C dX11_simulateRound_106 mh_Q (by omega) (by omega) rfl ?_
        refine pw_if_le_n (q := 110) 216 C dX11_simulateRound_107 (by decide) rfl (by omega) (fun g107 => ?_) (fun g107 => absurd g107 (fun q => q (by omega)))
        exact pw_vret C dX11_simulateRound_216 rfl ⟨by omega, by omega⟩ (RN.mk (by rw [roundP_c (by omega), if_neg (by omega)]))
      · rw [he]
        refine pw_tableIn (q := 0) 100 C dX11_simulateRound_56 (by decide +kernel) (by decide +kernel) (by rfl) (by decide) ?_
        refine pw_aload_n (q := 101) (j := 0) C dX11_simulateRound_100 rfl rfl rfl ?_
        refine pw_getf (q := 104) C dX11_simulateRound_101 fX11_19 mh_o (by rfl) rfl ?_
        refine pw_bipush_n (q := 106) C 6 dX11_simulateRound_104 (by decide +kernel) rfl ?_
        refine pw_ipg (q := 107) C dX11_simulateRound_106 mh_Q (by omega) (by omega) rfl ?_
        refine pw_if_le_n (q := 110) 216 C dX11_simulateRound_107 (by decide) rfl (by omega) (fun g107 => ?_) (fun g107 => absurd g107 (fun q => q (by omega)))
        exact pw_vret C dX11_simulateRound_216 rfl ⟨by omega, by omega⟩ (RN.mk (by rw [roundP_c (by omega), if_neg (by omega)]))
      · rw [he]
        refine pw_tableIn (q := 0) 100 C dX11_simulateRound_56 (by decide +kernel) (by decide +kernel) (by rfl) (by decide) ?_
        refine pw_aload_n (q := 101) (j := 0) C dX11_simulateRound_100 rfl rfl rfl ?_
        refine pw_getf (q := 104) C dX11_simulateRound_101 fX11_19 mh_o (by rfl) rfl ?_
        refine pw_bipush_n (q := 106) C 6 dX11_simulateRound_104 (by decide +kernel) rfl ?_
        refine pw_ipg (q := 107) C dX11_simulateRound_106 mh_Q (by omega) (by omega) rfl ?_
        refine pw_if_le_n (q := 110) 216 C dX11_simulateRound_107 (by decide) rfl (by omega) (fun g107 => ?_) (fun g107 => absurd g107 (fun q => q (by omega)))
        exact pw_vret C dX11_simulateRound_216 rfl ⟨by omega, by omega⟩ (RN.mk (by rw [roundP_c (by omega), if_neg (by omega)]))
      · rw [he]
        refine pw_tableIn (q := 0) 152 C dX11_simulateRound_56 (by decide +kernel) (by decide +kernel) (by rfl) (by decide) ?_
        refine pw_aload_n (q := 153) (j := 0) C dX11_simulateRound_152 rfl rfl rfl ?_
        by_cases hl : lowS Q 0 < Q 7
        · have s9 := hI.s hl
          refine pw_iconst_n (q := 154) C 0 dX11_simulateRound_153 (by decide +kernel) rfl ?_
          refine pw_val (q := 157) (cr_v (j := iX11_lowest) C dX11_simulateRound_154 lX11_195 mX11_lowest (ro_mk (by decide) (by decide)) mh_o rfl (rv_e (if_pos hl) (m_lowest hI (by decide))) rfl rfl (Nat.le_of_ble_eq_true rfl) ⟨by omega, by omega⟩) rfl (fun M154 e154 => ?_)
          subst e154
          refine pw_istore (q := 159) C dX11_simulateRound_157 rfl (by decide) rfl ?_
          refine pw_iload (q := 161) C dX11_simulateRound_159 rfl rfl ?_
          refine pw_bipush (q := 163) (v := (-9)) C dX11_simulateRound_161 (by decide +kernel) rfl ?_
          refine pw_icmp_eq (q := 166) 216 C dX11_simulateRound_163 (by decide) rfl (fun g163 => absurd g163 (optI_ne (by omega))) (fun g163 => ?_)
          refine pw_aload_n (q := 167) (j := 0) C dX11_simulateRound_166 rfl rfl rfl ?_
          refine pw_getf (q := 170) C dX11_simulateRound_167 fX11_19 mh_o (by rfl) rfl ?_
          refine pw_iload (q := 172) C dX11_simulateRound_170 rfl rfl ?_
          refine pw_val (q := 175) (cr_s (j := iX11_inspectOn) C dX11_simulateRound_172 lX11_159 mX11_inspectOn (ro_mk (by decide) (by decide))  (m_inspectOn mh_Q hI hl) rfl rfl (Nat.le_of_ble_eq_true rfl) ⟨by omega, by omega⟩) rfl (fun M172 e172 => ?_)
          rw [mh_s_Q] at e172
          subst e172
          refine pw_pop (q := 176) C dX11_simulateRound_175 rfl rfl ?_
          refine pw_goto (q := 0) 216 C dX11_simulateRound_176 (by decide) ?_
          exact pw_vret C dX11_simulateRound_216 rfl ⟨by omega, by omega⟩ (RN.mk (by rw [roundP_i (by omega), if_pos hl]))
        · refine pw_iconst_n (q := 154) C 0 dX11_simulateRound_153 (by decide +kernel) rfl ?_
          refine pw_val (q := 157) (cr_v (j := iX11_lowest) C dX11_simulateRound_154 lX11_195 mX11_lowest (ro_mk (by decide) (by decide)) mh_o rfl (rv_e (if_neg hl) (m_lowest hI (by decide))) rfl rfl (Nat.le_of_ble_eq_true rfl) ⟨by omega, by omega⟩) rfl (fun M154 e154 => ?_)
          subst e154
          refine pw_istore (q := 159) C dX11_simulateRound_157 rfl (by decide) rfl ?_
          refine pw_iload (q := 161) C dX11_simulateRound_159 rfl rfl ?_
          refine pw_bipush (q := 163) (v := (-9)) C dX11_simulateRound_161 (by decide +kernel) rfl ?_
          refine pw_icmp_eq (q := 166) 216 C dX11_simulateRound_163 (by decide) rfl (fun g163 => ?_) (fun g163 => absurd g163 (not_not_intro rfl))
          exact pw_vret C dX11_simulateRound_216 rfl ⟨by omega, by omega⟩ (RN.mk (by rw [roundP_i (by omega), if_neg hl]))
      · rw [he]
        refine pw_tableIn (q := 0) 152 C dX11_simulateRound_56 (by decide +kernel) (by decide +kernel) (by rfl) (by decide) ?_
        refine pw_aload_n (q := 153) (j := 0) C dX11_simulateRound_152 rfl rfl rfl ?_
        by_cases hl : lowS Q 0 < Q 7
        · have s9 := hI.s hl
          refine pw_iconst_n (q := 154) C 0 dX11_simulateRound_153 (by decide +kernel) rfl ?_
          refine pw_val (q := 157) (cr_v (j := iX11_lowest) C dX11_simulateRound_154 lX11_195 mX11_lowest (ro_mk (by decide) (by decide)) mh_o rfl (rv_e (if_pos hl) (m_lowest hI (by decide))) rfl rfl (Nat.le_of_ble_eq_true rfl) ⟨by omega, by omega⟩) rfl (fun M154 e154 => ?_)
          subst e154
          refine pw_istore (q := 159) C dX11_simulateRound_157 rfl (by decide) rfl ?_
          refine pw_iload (q := 161) C dX11_simulateRound_159 rfl rfl ?_
          refine pw_bipush (q := 163) (v := (-9)) C dX11_simulateRound_161 (by decide +kernel) rfl ?_
          refine pw_icmp_eq (q := 166) 216 C dX11_simulateRound_163 (by decide) rfl (fun g163 => absurd g163 (optI_ne (by omega))) (fun g163 => ?_)
          refine pw_aload_n (q := 167) (j := 0) C dX11_simulateRound_166 rfl rfl rfl ?_
          refine pw_getf (q := 170) C dX11_simulateRound_167 fX11_19 mh_o (by rfl) rfl ?_
          refine pw_iload (q := 172) C dX11_simulateRound_170 rfl rfl ?_
          refine pw_val (q := 175) (cr_s (j := iX11_inspectOn) C dX11_simulateRound_172 lX11_159 mX11_inspectOn (ro_mk (by decide) (by decide))  (m_inspectOn mh_Q hI hl) rfl rfl (Nat.le_of_ble_eq_true rfl) ⟨by omega, by omega⟩) rfl (fun M172 e172 => ?_)
          rw [mh_s_Q] at e172
          subst e172
          refine pw_pop (q := 176) C dX11_simulateRound_175 rfl rfl ?_
          refine pw_goto (q := 0) 216 C dX11_simulateRound_176 (by decide) ?_
          exact pw_vret C dX11_simulateRound_216 rfl ⟨by omega, by omega⟩ (RN.mk (by rw [roundP_i (by omega), if_pos hl]))
        · refine pw_iconst_n (q := 154) C 0 dX11_simulateRound_153 (by decide +kernel) rfl ?_
          refine pw_val (q := 157) (cr_v (j := iX11_lowest) C dX11_simulateRound_154 lX11_195 mX11_lowest (ro_mk (by decide) (by decide)) mh_o rfl (rv_e (if_neg hl) (m_lowest hI (by decide))) rfl rfl (Nat.le_of_ble_eq_true rfl) ⟨by omega, by omega⟩) rfl (fun M154 e154 => ?_)
          subst e154
          refine pw_istore (q := 159) C dX11_simulateRound_157 rfl (by decide) rfl ?_
          refine pw_iload (q := 161) C dX11_simulateRound_159 rfl rfl ?_
          refine pw_bipush (q := 163) (v := (-9)) C dX11_simulateRound_161 (by decide +kernel) rfl ?_
          refine pw_icmp_eq (q := 166) 216 C dX11_simulateRound_163 (by decide) rfl (fun g163 => ?_) (fun g163 => absurd g163 (not_not_intro rfl))
          exact pw_vret C dX11_simulateRound_216 rfl ⟨by omega, by omega⟩ (RN.mk (by rw [roundP_i (by omega), if_neg hl]))
      · rw [he]
        refine pw_tableIn (q := 0) 179 C dX11_simulateRound_56 (by decide +kernel) (by decide +kernel) (by rfl) (by decide) ?_
        refine pw_aload_n (q := 180) (j := 0) C dX11_simulateRound_179 rfl rfl rfl ?_
        refine pw_void (q := 183) (cr_v (j := iX11_setLowest) C dX11_simulateRound_180 lX11_198 mX11_setLowest (ro_mk (by decide) (by decide)) mh_o rfl (m_setLowest hI) rfl rfl (Nat.le_of_ble_eq_true rfl) ⟨by omega, by omega⟩) rfl (fun M180 e180 => ?_)
        subst e180
        refine pw_goto (q := 0) 216 C dX11_simulateRound_183 (by decide) ?_
        exact pw_vret C dX11_simulateRound_216 rfl ⟨by omega, by omega⟩ (RN.mk (by rw [roundP_s he]))
      · rw [he]
        refine pw_tableIn (q := 0) 186 C dX11_simulateRound_56 (by decide +kernel) (by decide +kernel) (by rfl) (by decide) ?_
        refine pw_aload_n (q := 187) (j := 0) C dX11_simulateRound_186 rfl rfl rfl ?_
        refine pw_iload_n (q := 188) (j := 2) C dX11_simulateRound_187 rfl rfl rfl ?_
        refine pw_void (q := 191) (cr_v (j := iX11_recutLowest) C dX11_simulateRound_188 lX11_201 mX11_recutLowest (ro_mk (by decide) (by decide)) mh_o rfl (m_recutLowest hI (Or.inr (by omega)) (by omega)) rfl rfl (Nat.le_of_ble_eq_true rfl) ⟨by omega, by omega⟩) rfl (fun M188 e188 => ?_)
        subst e188
        refine pw_goto (q := 0) 216 C dX11_simulateRound_191 (by decide) ?_
        exact pw_vret C dX11_simulateRound_216 rfl ⟨by omega, by omega⟩ (RN.mk (by rw [roundP_0 hI he (by omega)]))
      · rw [he]
        refine pw_tableOut (q := 0) 194 C dX11_simulateRound_56 (Or.inr (by decide +kernel)) (by decide) ?_
        refine pw_aload_n (q := 195) (j := 0) C dX11_simulateRound_194 rfl rfl rfl ?_
        refine pw_getf (q := 198) C dX11_simulateRound_195 fX11_19 mh_o (by rfl) rfl ?_
        refine pw_iload_n (q := 199) (j := 1) C dX11_simulateRound_198 rfl rfl rfl ?_
        refine pw_bipush_n (q := 201) C 8 dX11_simulateRound_199 (by decide +kernel) rfl ?_
        refine pw_idiv_n (q := 202) C dX11_simulateRound_201 (by omega) (by omega) (by omega) rfl ?_
        refine pw_iconst_n (q := 203) C 4 dX11_simulateRound_202 (by decide +kernel) rfl ?_
        refine pw_irem_n (q := 204) C dX11_simulateRound_203 (by omega) (by omega) (by omega) rfl ?_
        refine pw_if_ne_n (q := 207) 211 C dX11_simulateRound_204 (by decide) rfl (by omega) (fun g204 => ?_) (fun g204 => ?_)
        · refine pw_iconst_n (q := 212) C 0 dX11_simulateRound_211 (by decide +kernel) rfl ?_
          refine pw_val (q := 215) (cr_s (j := iX11_dayOn) C dX11_simulateRound_212 lX11_169 mX11_dayOn (ro_mk (by decide) (by decide))  (m_dayOn mh_Q hI (by omega)) rfl rfl (Nat.le_of_ble_eq_true rfl) ⟨by omega, by omega⟩) rfl (fun M212 e212 => ?_)
          rw [mh_s_Q] at e212
          subst e212
          refine pw_pop (q := 216) C dX11_simulateRound_215 rfl rfl ?_
          exact pw_vret C dX11_simulateRound_216 rfl ⟨by omega, by omega⟩ (RN.mk (by rw [roundP_d he, if_neg g204]))
        · refine pw_iconst_n (q := 208) C 1 dX11_simulateRound_207 (by decide +kernel) rfl ?_
          refine pw_goto (q := 0) 212 C dX11_simulateRound_208 (by decide) ?_
          refine pw_val (q := 215) (cr_s (j := iX11_dayOn) C dX11_simulateRound_212 lX11_169 mX11_dayOn (ro_mk (by decide) (by decide))  (m_dayOn mh_Q hI (by omega)) rfl rfl (Nat.le_of_ble_eq_true rfl) ⟨by omega, by omega⟩) rfl (fun M212 e212 => ?_)
          rw [mh_s_Q] at e212
          subst e212
          refine pw_pop (q := 216) C dX11_simulateRound_215 rfl rfl ?_
          exact pw_vret C dX11_simulateRound_216 rfl ⟨by omega, by omega⟩ (RN.mk (by rw [roundP_d he, if_pos g204]))
set_option maxHeartbeats 200000 in
set_option maxRecDepth 100000 in
theorem c_simulate {M : PH} {m rf D0 : Nat} {S : St} (hM : RepM M m rf S) (hB : MB S) (hS : SInv D0 S) (hD9 : D0 < 90000) (seed : Int64) (c1 : Int32) : Run iX11_simulate [.ref m, .long seed, .int c1] M 0 0 (QM M m (spSim S seed c1)) := by
  obtain ⟨M0, sp, ft, R, Q, D, K, L, rfl, hD, hK, hF⟩ := hM
  have hI := hS.1.1
  have hb := hI.b
  obtain ⟨hB1, hB2, hB3, hB4⟩ := id hB
  refine Run.of (l0 := [some (.ref m), some (.long seed), none, some (.int c1), none, none, none]) (by decide +kernel) (Nat.le_of_ble_eq_true rfl) (by rfl) (fun Γ G C => ?_)
  by_cases h1 : inW c1 1 99
  · refine pw_aload_n (q := 1) (j := 0) C dX11_simulate_0 rfl rfl rfl ?_
    refine pw_iload_n (q := 2) (j := 3) C dX11_simulate_1 rfl rfl rfl ?_
    refine pw_i2l (q := 3) C dX11_simulate_2 rfl ?_
    refine pw_lconst (q := 4) (v := 1) C dX11_simulate_3 (by decide +kernel) rfl ?_
    refine pw_ldc2 (q := 7) C dX11_simulate_4 cgX11_205 rfl ?_
    refine pw_rd (q := 10) (cr_s (j := iX11_in) C dX11_simulate_7 lX11_39 mX11_in (ro_mk (by decide) (by decide))  (rv_t ((inW_l (lo := 1) (hi := 99) (by decide +kernel) (by decide +kernel)).mpr h1) m_in) rfl rfl (Nat.le_of_ble_eq_true rfl) ⟨by omega, by omega⟩) rfl ?_
    refine pw_if_eq_n (q := 13) 17 C dX11_simulate_10 (by decide) rfl (by omega) (fun g10 => absurd g10 (by decide)) (fun g10 => ?_)
    refine pw_iconst_n (q := 14) C 0 dX11_simulate_13 (by decide +kernel) rfl ?_
    refine pw_goto (q := 0) 18 C dX11_simulate_14 (by decide) ?_
    refine pw_val (q := 21) (cr_v (j := iX11_refused) C dX11_simulate_18 lX11_76 mX11_refused (ro_mk (by decide) (by decide)) mh_o rfl (rv_f (by decide) (m_refused 0 (by decide))) rfl rfl (Nat.le_of_ble_eq_true rfl) ⟨by omega, by omega⟩) rfl (fun M18 e18 => ?_)
    subst e18
    refine pw_if_eq_n (q := 24) 26 C dX11_simulate_21 (by decide) rfl (by omega) (fun g21 => ?_) (fun g21 => absurd g21 (fun q => q rfl))
    obtain ⟨k1, hl1, hk1, rfl⟩ := inW_n h1 (by omega) (by omega)
    have hsp : spSim S seed (nI k1) = (0, simV (itS lcg stepS k1 seed (sP S)), S) := by rw [spSim, if_pos h1, idx_n (show k1 < 2147483648 by omega)]
    refine pw_aload_n (q := 27) (j := 0) C dX11_simulate_26 rfl rfl rfl ?_
    refine pw_getf (q := 30) C dX11_simulate_27 fX11_16 mh_o (by rfl) rfl ?_
    refine pw_iconst_n (q := 31) C 0 dX11_simulate_30 (by decide +kernel) rfl ?_
    refine pw_aload_n (q := 32) (j := 0) C dX11_simulate_31 rfl rfl rfl ?_
    refine pw_getf (q := 35) C dX11_simulate_32 fX11_19 mh_o (by rfl) rfl ?_
    refine pw_iconst_n (q := 36) C 0 dX11_simulate_35 (by decide +kernel) rfl ?_
    refine pw_void (q := 39) (cr_s (j := iX11_copyPage) C dX11_simulate_36 lX11_110 mX11_copyPage (ro_mk (by decide) (by decide))  (m_copy mh_P mh_Q (by omega) (by decide) (by decide) (by decide) (by decide)) rfl rfl (Nat.le_of_ble_eq_true rfl) ⟨by omega, by omega⟩) rfl (fun M36 e36 => ?_)
    rw [mh_s_Q] at e36
    subst e36
    refine pw_norm (mh_Q) (g := pg (sP S)) (fun k hk => by show nI (cpy (sP S) 0 Q 0 194 k) = nI (sP S k); rw [cpy, if_pos (by omega), Nat.sub_zero, Nat.zero_add]) ?_
    rw [mh_s_Q]
    refine pw_lload_n (q := 40) (j := 1) C dX11_simulate_39 rfl rfl rfl ?_
    refine pw_lstore (q := 42) C dX11_simulate_40 rfl (by decide) rfl ?_
    refine pw_iconst_n (q := 43) C 0 dX11_simulate_42 (by decide +kernel) rfl ?_
    refine pw_istore (q := 45) C dX11_simulate_43 rfl (by decide) rfl ?_
    have loop : ∀ (d i : Nat), i + d = k1 → ∀ (y : Int64) (Q9 : Nat → Nat), Inv Q9 → Q9 1 ≤ D0 + i → itS lcg stepS d y Q9 = itS lcg stepS k1 seed (sP S) → PW Γ G (ZJ Γ G 0 0 (QM (mh M0 m rf (sN S) sp ft (sM S) (sT S) R (sP S) Q D K (sB S) L) m (spSim S seed (nI k1)))) 45 [some (.ref m), some (.long seed), none, some (.int (nI k1)), some (.long y), none, some (.int (nI i))] [] (mh M0 m 0 (sN S) sp ft (sM S) (sT S) R (sP S) Q9 D K (sB S) L) 0 0 := by
      intro d
      induction d with
      | zero =>
        intro i hd
        intro y Q9 hJ hd9 hr
        have hb9 := hJ.b
        refine pw_iload (q := 47) C dX11_simulate_45 rfl rfl ?_
        refine pw_iload_n (q := 48) (j := 3) C dX11_simulate_47 rfl rfl rfl ?_
        refine pw_icmp_ge_n (q := 51) 79 C dX11_simulate_48 (by decide) rfl (by omega) (by omega) (fun g48 => ?_) (fun g48 => absurd g48 (by omega))
        refine pw_aload_n (q := 80) (j := 0) C dX11_simulate_79 rfl rfl rfl ?_
        refine pw_getf (q := 83) C dX11_simulate_80 fX11_19 mh_o (by rfl) rfl ?_
        refine pw_rd (q := 86) (cr_s (j := iX11_owedToAll) C dX11_simulate_83 lX11_122 mX11_owedToAll (ro_mk (by decide) (by decide))  (m_owed mh_Q hJ) rfl rfl (Nat.le_of_ble_eq_true rfl) ⟨by omega, by omega⟩) rfl ?_
        refine pw_istore (q := 88) C dX11_simulate_86 rfl (by decide) rfl ?_
        refine pw_sipush_n (q := 91) C 10000 dX11_simulate_88 (by decide +kernel) rfl ?_
        refine pw_aload_n (q := 92) (j := 0) C dX11_simulate_91 rfl rfl rfl ?_
        refine pw_getf (q := 95) C dX11_simulate_92 fX11_19 mh_o (by rfl) rfl ?_
        refine pw_iconst_n (q := 96) C 3 dX11_simulate_95 (by decide +kernel) rfl ?_
        refine pw_rd (q := 99) (cr_s (j := iX11_stonesWith) C dX11_simulate_96 lX11_119 mX11_stonesWith (ro_mk (by decide) (by decide))  (m_stonesWith mh_Q hJ (by omega)) rfl rfl (Nat.le_of_ble_eq_true rfl) ⟨by omega, by omega⟩) rfl ?_
        refine pw_imul_n (q := 100) C dX11_simulate_99 rfl ?_
        refine pw_iload (q := 102) C dX11_simulate_100 rfl rfl ?_
        refine pw_sipush_n (q := 105) C 9999 dX11_simulate_102 (by decide +kernel) rfl ?_
        refine pw_icmp_le (q := 108) 114 C dX11_simulate_105 (by decide) rfl (fun g105 => ?_) (fun g105 => ?_)
        · refine pw_iload (q := 116) C dX11_simulate_114 rfl rfl ?_
          refine pw_iadd (q := 117) C dX11_simulate_116 rfl ?_
          exact pw_iret C dX11_simulate_117 rfl ⟨by omega, by omega⟩ ((QM.ok (by rw [hsp, ← hr, itS, simV, if_neg (Int32.not_lt.mpr g105)]) (RepM.mk hD hK hF) same_mh))
        · refine pw_sipush_n (q := 111) C 9999 dX11_simulate_108 (by decide +kernel) rfl ?_
          refine pw_goto (q := 0) 116 C dX11_simulate_111 (by decide) ?_
          refine pw_iadd_n (q := 117) C dX11_simulate_116 rfl ?_
          exact pw_iret C dX11_simulate_117 rfl ⟨by omega, by omega⟩ ((QM.ok (by rw [hsp, ← hr, itS, simV, if_pos (Int32.not_le.mp g105), nI_add]) (RepM.mk hD hK hF) same_mh))
      | succ d ih =>
        intro i hd
        intro y Q9 hJ hd9 hr
        have hb9 := hJ.b
        refine pw_iload (q := 47) C dX11_simulate_45 rfl rfl ?_
        refine pw_iload_n (q := 48) (j := 3) C dX11_simulate_47 rfl rfl rfl ?_
        refine pw_icmp_ge_n (q := 51) 79 C dX11_simulate_48 (by decide) rfl (by omega) (by omega) (fun g48 => absurd g48 (by omega)) (fun g48 => ?_)
        refine pw_lload (q := 53) C dX11_simulate_51 rfl rfl ?_
        refine pw_ldc2 (q := 56) C dX11_simulate_53 cgX11_207 rfl ?_
        refine pw_lmul (q := 57) C dX11_simulate_56 rfl ?_
        refine pw_ldc2 (q := 60) C dX11_simulate_57 cgX11_209 rfl ?_
        refine pw_ladd (q := 61) C dX11_simulate_60 rfl ?_
        refine pw_lstore (q := 63) C dX11_simulate_61 rfl (by decide) rfl ?_
        refine pw_aload_n (q := 64) (j := 0) C dX11_simulate_63 rfl rfl rfl ?_
        refine pw_lload (q := 66) C dX11_simulate_64 rfl rfl ?_
        refine pw_bipush_n (q := 68) C 33 dX11_simulate_66 (by decide +kernel) rfl ?_
        refine pw_lushr (q := 69) C dX11_simulate_68 rfl ?_
        refine pw_l2i (q := 70) C dX11_simulate_69 rfl ?_
        obtain ⟨r, hr9, er⟩ := rnd_n (lcg y)
        rw [show ((Int64.toUInt64 (y * 6364136223846793005 + 1442695040888963407) >>> ((nI 33).toInt64.toUInt64 &&& Int64.toUInt64 63)).toInt64).toInt32 = nI r from er]
        refine pw_void (q := 73) (cr_v (j := iX11_simulateRound) C dX11_simulate_70 lX11_211 mX11_simulateRound (ro_mk (by decide) (by decide)) mh_o rfl (m_round hJ hr9) rfl rfl (Nat.le_of_ble_eq_true rfl) ⟨by omega, by omega⟩) rfl (fun M70 e70 => ?_)
        subst e70
        refine pw_iinc_n (q := 76) C 1 dX11_simulate_73 rfl (by decide +kernel) rfl (by decide) rfl ?_
        refine pw_goto (q := 0) 45 C dX11_simulate_76 (by decide) ?_
        have u := round_inv (r := r) hJ (by omega)
        have hl : lcg y = y * 6364136223846793005 + 1442695040888963407 := rfl
        rw [← hl]
        exact ih (i + 1) (by omega) (lcg y) _ u.1 (by omega) (by rw [← hr, itS, stepS, er, idx_n hr9])
    exact loop k1 0 (by omega) seed (sP S) hI hS.1.2 rfl
  · refine pw_aload_n (q := 1) (j := 0) C dX11_simulate_0 rfl rfl rfl ?_
    refine pw_iload_n (q := 2) (j := 3) C dX11_simulate_1 rfl rfl rfl ?_
    refine pw_i2l (q := 3) C dX11_simulate_2 rfl ?_
    refine pw_lconst (q := 4) (v := 1) C dX11_simulate_3 (by decide +kernel) rfl ?_
    refine pw_ldc2 (q := 7) C dX11_simulate_4 cgX11_205 rfl ?_
    refine pw_rd (q := 10) (cr_s (j := iX11_in) C dX11_simulate_7 lX11_39 mX11_in (ro_mk (by decide) (by decide))  (rv_f (fun q => h1 ((inW_l (lo := 1) (hi := 99) (by decide +kernel) (by decide +kernel)).mp q)) m_in) rfl rfl (Nat.le_of_ble_eq_true rfl) ⟨by omega, by omega⟩) rfl ?_
    refine pw_if_eq_n (q := 13) 17 C dX11_simulate_10 (by decide) rfl (by omega) (fun g10 => ?_) (fun g10 => absurd g10 (fun q => q rfl))
    refine pw_iconst_n (q := 18) C 1 dX11_simulate_17 (by decide +kernel) rfl ?_
    refine pw_val (q := 21) (cr_v (j := iX11_refused) C dX11_simulate_18 lX11_76 mX11_refused (ro_mk (by decide) (by decide)) mh_o rfl (rv_t (by decide) (m_refused 1 (by decide))) rfl rfl (Nat.le_of_ble_eq_true rfl) ⟨by omega, by omega⟩) rfl (fun M18 e18 => ?_)
    subst e18
    refine pw_if_eq_n (q := 24) 26 C dX11_simulate_21 (by decide) rfl (by omega) (fun g21 => absurd g21 (by decide)) (fun g21 => ?_)
    refine pw_iconst_n (q := 25) C 0 dX11_simulate_24 (by decide +kernel) rfl ?_
    exact pw_iret C dX11_simulate_25 rfl ⟨by omega, by omega⟩ ((QM.no 0 (by rw [spSim, if_neg h1]) (RepM.mk hD hK hF) same_mh))
