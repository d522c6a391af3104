/-! The reference: its object. -/
def mh (M : PH) (m rf n sp ft ac : Nat) (T R P Q D K B L : Nat → Nat) : PH := (M.1, fun q => if q = m then some (.inr (8, [.int (nI rf), .ref (m + 1), .int (nI n), .int (nI sp), .int (nI ft), .ref (m + 2), .ref (m + 3), .ref (m + 4), .ref (m + 5), .int (nI ac), .ref (m + 6), .ref (m + 7), .ref (m + 8)])) else if q = m + 1 then some (.inl (0, 80, .inl (pg T))) else if q = m + 2 then some (.inl (0, 194, .inl (pg R))) else if q = m + 3 then some (.inl (0, 194, .inl (pg P))) else if q = m + 4 then some (.inl (0, 194, .inl (pg Q))) else if q = m + 5 then some (.inl (0, 2716, .inl (pg D))) else if q = m + 6 then some (.inl (0, 388, .inl (pg K))) else if q = m + 7 then some (.inl (2, 2, .inl (pg B))) else if q = m + 8 then some (.inl (0, 6, .inl (pg L))) else M.2 q)
section
variable {M : PH} {m rf n sp ft ac : Nat} {T R P Q D K B L : Nat → Nat}
theorem mh_o : (mh M m rf n sp ft ac T R P Q D K B L).2 m = some (.inr (8, [.int (nI rf), .ref (m + 1), .int (nI n), .int (nI sp), .int (nI ft), .ref (m + 2), .ref (m + 3), .ref (m + 4), .ref (m + 5), .int (nI ac), .ref (m + 6), .ref (m + 7), .ref (m + 8)])) := if_pos rfl
theorem mh_T : (mh M m rf n sp ft ac T R P Q D K B L).2 (m + 1) = some (.inl (0, 80, .inl (pg T))) := by
  unfold mh
  simp
theorem mh_R : (mh M m rf n sp ft ac T R P Q D K B L).2 (m + 2) = some (.inl (0, 194, .inl (pg R))) := by
  unfold mh
  simp
theorem mh_P : (mh M m rf n sp ft ac T R P Q D K B L).2 (m + 3) = some (.inl (0, 194, .inl (pg P))) := by
  unfold mh
  simp
theorem mh_Q : (mh M m rf n sp ft ac T R P Q D K B L).2 (m + 4) = some (.inl (0, 194, .inl (pg Q))) := by
  unfold mh
  simp
theorem mh_D : (mh M m rf n sp ft ac T R P Q D K B L).2 (m + 5) = some (.inl (0, 2716, .inl (pg D))) := by
  unfold mh
  simp
theorem mh_K : (mh M m rf n sp ft ac T R P Q D K B L).2 (m + 6) = some (.inl (0, 388, .inl (pg K))) := by
  unfold mh
  simp
theorem mh_B : (mh M m rf n sp ft ac T R P Q D K B L).2 (m + 7) = some (.inl (2, 2, .inl (pg B))) := by
  unfold mh
  simp
theorem mh_L : (mh M m rf n sp ft ac T R P Q D K B L).2 (m + 8) = some (.inl (0, 6, .inl (pg L))) := by
  unfold mh
  simp
theorem mh_far {q : Nat} (h : q < m ∨ m + 9 ≤ q) : (mh M m rf n sp ft ac T R P Q D K B L).2 q = M.2 q := by
  unfold mh
  simp only []
  rw [if_neg (by omega), if_neg (by omega), if_neg (by omega), if_neg (by omega), if_neg (by omega), if_neg (by omega), if_neg (by omega), if_neg (by omega), if_neg (by omega)]
theorem mh_z : (mh M m rf n sp ft ac T R P Q D K B L).1 = M.1 := rfl
theorem mh_s_rf {v : Nat} : hput (mh M m rf n sp ft ac T R P Q D K B L) m (.inr (8, List.set [.int (nI rf), .ref (m + 1), .int (nI n), .int (nI sp), .int (nI ft), .ref (m + 2), .ref (m + 3), .ref (m + 4), .ref (m + 5), .int (nI ac), .ref (m + 6), .ref (m + 7), .ref (m + 8)] 0 (.int (nI v)))) = mh M m v n sp ft ac T R P Q D K B L := by
  unfold hput mh
  refine Prod.ext rfl (funext fun q => ?_)
  by_cases h : q = m
  · subst h; simp
  · simp [h]
theorem mh_s_n {v : Nat} : hput (mh M m rf n sp ft ac T R P Q D K B L) m (.inr (8, List.set [.int (nI rf), .ref (m + 1), .int (nI n), .int (nI sp), .int (nI ft), .ref (m + 2), .ref (m + 3), .ref (m + 4), .ref (m + 5), .int (nI ac), .ref (m + 6), .ref (m + 7), .ref (m + 8)] 2 (.int (nI v)))) = mh M m rf v sp ft ac T R P Q D K B L := by
  unfold hput mh
  refine Prod.ext rfl (funext fun q => ?_)
  by_cases h : q = m
  · subst h; simp
  · simp [h]
theorem mh_s_sp {v : Nat} : hput (mh M m rf n sp ft ac T R P Q D K B L) m (.inr (8, List.set [.int (nI rf), .ref (m + 1), .int (nI n), .int (nI sp), .int (nI ft), .ref (m + 2), .ref (m + 3), .ref (m + 4), .ref (m + 5), .int (nI ac), .ref (m + 6), .ref (m + 7), .ref (m + 8)] 3 (.int (nI v)))) = mh M m rf n v ft ac T R P Q D K B L := by
  unfold hput mh
  refine Prod.ext rfl (funext fun q => ?_)
  by_cases h : q = m
  · subst h; simp
  · simp [h]
theorem mh_s_ft {v : Nat} : hput (mh M m rf n sp ft ac T R P Q D K B L) m (.inr (8, List.set [.int (nI rf), .ref (m + 1), .int (nI n), .int (nI sp), .int (nI ft), .ref (m + 2), .ref (m + 3), .ref (m + 4), .ref (m + 5), .int (nI ac), .ref (m + 6), .ref (m + 7), .ref (m + 8)] 4 (.int (nI v)))) = mh M m rf n sp v ac T R P Q D K B L := by
  unfold hput mh
  refine Prod.ext rfl (funext fun q => ?_)
  by_cases h : q = m
  · subst h; simp
  · simp [h]
theorem mh_s_ac {v : Nat} : hput (mh M m rf n sp ft ac T R P Q D K B L) m (.inr (8, List.set [.int (nI rf), .ref (m + 1), .int (nI n), .int (nI sp), .int (nI ft), .ref (m + 2), .ref (m + 3), .ref (m + 4), .ref (m + 5), .int (nI ac), .ref (m + 6), .ref (m + 7), .ref (m + 8)] 9 (.int (nI v)))) = mh M m rf n sp ft v T R P Q D K B L := by
  unfold hput mh
  refine Prod.ext rfl (funext fun q => ?_)
  by_cases h : q = m
  · subst h; simp
  · simp [h]
theorem mh_s_T {X : Nat → Nat} : hput (mh M m rf n sp ft ac T R P Q D K B L) (m + 1) (.inl (0, 80, .inl (pg X))) = mh M m rf n sp ft ac X R P Q D K B L := by
  unfold hput mh
  refine Prod.ext rfl (funext fun q => ?_)
  by_cases h : q = m + 1
  · subst h; simp
  · simp [h]
theorem mh_s_R {X : Nat → Nat} : hput (mh M m rf n sp ft ac T R P Q D K B L) (m + 2) (.inl (0, 194, .inl (pg X))) = mh M m rf n sp ft ac T X P Q D K B L := by
  unfold hput mh
  refine Prod.ext rfl (funext fun q => ?_)
  by_cases h : q = m + 2
  · subst h; simp
  · simp [h]
theorem mh_s_P {X : Nat → Nat} : hput (mh M m rf n sp ft ac T R P Q D K B L) (m + 3) (.inl (0, 194, .inl (pg X))) = mh M m rf n sp ft ac T R X Q D K B L := by
  unfold hput mh
  refine Prod.ext rfl (funext fun q => ?_)
  by_cases h : q = m + 3
  · subst h; simp
  · simp [h]
theorem mh_s_Q {X : Nat → Nat} : hput (mh M m rf n sp ft ac T R P Q D K B L) (m + 4) (.inl (0, 194, .inl (pg X))) = mh M m rf n sp ft ac T R P X D K B L := by
  unfold hput mh
  refine Prod.ext rfl (funext fun q => ?_)
  by_cases h : q = m + 4
  · subst h; simp
  · simp [h]
theorem mh_s_D {X : Nat → Nat} : hput (mh M m rf n sp ft ac T R P Q D K B L) (m + 5) (.inl (0, 2716, .inl (pg X))) = mh M m rf n sp ft ac T R P Q X K B L := by
  unfold hput mh
  refine Prod.ext rfl (funext fun q => ?_)
  by_cases h : q = m + 5
  · subst h; simp
  · simp [h]
theorem mh_s_K {X : Nat → Nat} : hput (mh M m rf n sp ft ac T R P Q D K B L) (m + 6) (.inl (0, 388, .inl (pg X))) = mh M m rf n sp ft ac T R P Q D X B L := by
  unfold hput mh
  refine Prod.ext rfl (funext fun q => ?_)
  by_cases h : q = m + 6
  · subst h; simp
  · simp [h]
theorem mh_s_B {X : Nat → Nat} : hput (mh M m rf n sp ft ac T R P Q D K B L) (m + 7) (.inl (2, 2, .inl (pg X))) = mh M m rf n sp ft ac T R P Q D K X L := by
  unfold hput mh
  refine Prod.ext rfl (funext fun q => ?_)
  by_cases h : q = m + 7
  · subst h; simp
  · simp [h]
theorem mh_s_L {X : Nat → Nat} : hput (mh M m rf n sp ft ac T R P Q D K B L) (m + 8) (.inl (0, 6, .inl (pg X))) = mh M m rf n sp ft ac T R P Q D K B X := by
  unfold hput mh
  refine Prod.ext rfl (funext fun q => ?_)
  by_cases h : q = m + 8
  · subst h; simp
  · simp [h]
end
theorem vp_cell_cong {cA : ClassId} {z : Nat} {f g : Nat → Int32} (h : ∀ k, k < z → f k = g k) : vp_cell cA (z, .inl f) = vp_cell cA (z, .inl g) := by
  rw [vp_cell_i, vp_cell_i]
  unfold arrV
  congr 1
  congr 1
  funext j
  show Value.int (f j.val) = Value.int (g j.val)
  rw [h j.val j.isLt]
/-- cells of an array beyond its size don't count -/
theorem pw_norm {Γ : CX} {G : GC} {Z : State → Prop} {pc k n t z a : Nat} {ls : LL} {st : List Value} {M : PH} {f g : Nat → Int32} (hM0 : M.2 a = some (.inl (t, z, .inl f))) (h : ∀ k, k < z → f k = g k) (K9 : PW Γ G Z pc ls st (hput M a (.inl (t, z, .inl g))) k n) : PW Γ G Z pc ls st M k n := by
  obtain ⟨p, l, e, R, s, m, args, below, meth, c⟩ := Γ
  intro A H locs hl hM hS
  refine K9 A H locs hl ⟨hM.1, fun q y hy => ?_⟩ hS
  simp only [hput] at hy
  by_cases hq : q = a
  · subst hq
    rw [if_pos rfl] at hy
    cases hy
    have h1 := hM.2 q _ hM0
    refine ⟨h1.1, ?_⟩
    have h2 : H[q]? = some (vp_cell _ (z, .inl f)) := h1.2
    show H[q]? = some (vp_cell _ (z, .inl g))
    rw [h2, vp_cell_cong h]
  · rw [if_neg hq] at hy
    exact hM.2 q y hy
/-- G with 194 cells of F from fa, put at ta, the first i of them -/
def cpy (F : Nat → Nat) (fa : Nat) (G : Nat → Nat) (ta i : Nat) : Nat → Nat := fun k => if ta ≤ k ∧ k < ta + i then F (fa + (k - ta)) else G k
theorem cpy_0 (F G : Nat → Nat) (fa ta : Nat) : cpy F fa G ta 0 = G := by
  funext k
  unfold cpy
  rw [if_neg (by omega)]
theorem cpy_succ (F G : Nat → Nat) (fa ta i : Nat) : updN (cpy F fa G ta i) (ta + i) (F (fa + i)) = cpy F fa G ta (i + 1) := by
  funext k
  unfold updN cpy
  by_cases h : k = ta + i
  · subst h
    rw [if_pos rfl, if_pos (by omega)]
    congr 2
    omega
  · rw [if_neg h]
    by_cases h2 : ta ≤ k ∧ k < ta + i
    · rw [if_pos h2, if_pos (by omega)]
    · rw [if_neg h2, if_neg (by omega)]
set_option maxHeartbeats 200000 in
set_option maxRecDepth 100000 in
theorem m_copy {M : PH} {a b zf zt fa ta : Nat} {F X : Nat → Nat} (hF : M.2 a = some (.inl (0, zf, .inl (pg F)))) (hT : M.2 b = some (.inl (0, zt, .inl (pg X)))) (hab : a ≠ b) (h1 : fa + 194 ≤ zf) (h2 : ta + 194 ≤ zt) (h3 : zf < 10000) (h4 : zt < 10000) : Run iX11_copyPage [.ref a, .int (nI fa), .ref b, .int (nI ta)] M 0 0 (RN (fun M1 => M1 = hput M b (.inl (0, zt, .inl (pg (cpy F fa X ta 194)))))) := by
  refine Run.of (l0 := [some (.ref a), some (.int (nI fa)), some (.ref b), some (.int (nI ta)), none]) (by decide +kernel) (Nat.le_of_ble_eq_true rfl) (by rfl) (fun Γ G C => ?_)
  have loop : ∀ (d i : Nat), i + d = 194 → PW Γ G (ZJ Γ G 0 0 (RN (fun M1 => M1 = hput M b (.inl (0, zt, .inl (pg (cpy F fa X ta 194))))))) 3 [some (.ref a), some (.int (nI fa)), some (.ref b), some (.int (nI ta)), some (.int (nI i))] [] (hput M b (.inl (0, zt, .inl (pg (cpy F fa X ta i))))) 0 0 := by
    intro d
    induction d with
    | zero =>
      intro i hd
      refine pw_iload (q := 5) C dX11_copyPage_3 rfl rfl ?_
      refine pw_sipush_n (q := 8) C 194 dX11_copyPage_5 (by decide +kernel) rfl ?_
      refine pw_icmp_ge_n (q := 11) 29 C dX11_copyPage_8 (by decide) rfl (by omega) (by omega) (fun g8 => ?_) (fun g8 => absurd g8 (by omega))
      exact pw_vret C dX11_copyPage_29 rfl ⟨by omega, by omega⟩ (RN.mk (by rw [show i = 194 by omega]))
    | succ d ih =>
      intro i hd
      refine pw_iload (q := 5) C dX11_copyPage_3 rfl rfl ?_
      refine pw_sipush_n (q := 8) C 194 dX11_copyPage_5 (by decide +kernel) rfl ?_
      refine pw_icmp_ge_n (q := 11) 29 C dX11_copyPage_8 (by decide) rfl (by omega) (by omega) (fun g8 => absurd g8 (by omega)) (fun g8 => ?_)
      refine pw_aload_n (q := 12) (j := 2) C dX11_copyPage_11 rfl rfl rfl ?_
      refine pw_iload_n (q := 13) (j := 3) C dX11_copyPage_12 rfl rfl rfl ?_
      refine pw_iload (q := 15) C dX11_copyPage_13 rfl rfl ?_
      refine pw_iadd_n (q := 16) C dX11_copyPage_15 rfl ?_
      refine pw_aload_n (q := 17) (j := 0) C dX11_copyPage_16 rfl rfl rfl ?_
      refine pw_iload_n (q := 18) (j := 1) C dX11_copyPage_17 rfl rfl rfl ?_
      refine pw_iload (q := 20) C dX11_copyPage_18 rfl rfl ?_
      refine pw_iadd_n (q := 21) C dX11_copyPage_20 rfl ?_
      refine pw_ipg (q := 22) C dX11_copyPage_21 ((hput_ne hab).trans hF) (by omega) (by omega) rfl ?_
      refine pw_ipgst (q := 23) C dX11_copyPage_22 (hput_at _ _ _) (by omega) (by omega) rfl ?_
      refine pw_iinc_n (q := 26) C 1 dX11_copyPage_23 rfl (by decide +kernel) rfl (by decide) rfl ?_
      refine pw_goto (q := 0) 3 C dX11_copyPage_26 (by decide) ?_
      rw [hput2, cpy_succ]
      exact ih (i + 1) (by omega)
  refine pw_iconst_n (q := 1) C 0 dX11_copyPage_0 (by decide +kernel) rfl ?_
  refine pw_istore (q := 3) C dX11_copyPage_1 rfl (by decide) rfl ?_
  have l9 := loop 194 0 (by omega)
  rw [cpy_0, hput_same hT] at l9
  exact l9
set_option maxHeartbeats 200000 in
set_option maxRecDepth 100000 in
theorem m_refused {M : PH} {m rf n sp ft ac : Nat} {T R P Q D K B L : Nat → Nat} (c : Nat) (hc : c < 2147483648) : Run iX11_refused [.ref m, .int (nI c)] (mh M m rf n sp ft ac T R P Q D K B L) 0 0 (RV (.int (nI (bN (0 < c)))) (fun M1 => M1 = mh M m c n sp ft ac T R P Q D K B L)) := by
  refine Run.of (l0 := [some (.ref m), some (.int (nI c))]) (by decide +kernel) (Nat.le_of_ble_eq_true rfl) (by rfl) (fun Γ G C => ?_)
  refine pw_aload_n (q := 1) (j := 0) C dX11_refused_0 rfl rfl rfl ?_
  refine pw_iload_n (q := 2) (j := 1) C dX11_refused_1 rfl rfl rfl ?_
  refine pw_put (q := 5) C dX11_refused_2 fX11_35 mh_o (by rfl) (by rfl) (Nat.le_of_ble_eq_true rfl) rfl ?_
  rw [mh_s_rf]
  refine pw_iload_n (q := 6) (j := 1) C dX11_refused_5 rfl rfl rfl ?_
  refine pw_if_le_n (q := 9) 13 C dX11_refused_6 (by decide) rfl (by omega) (fun g6 => ?_) (fun g6 => ?_)
  · refine pw_iconst_n (q := 14) C 0 dX11_refused_13 (by decide +kernel) rfl ?_
    exact pw_zret C dX11_refused_14 rfl (by first | decide +kernel | exact nar_bN _ | exact nar_01 (by omega)) ⟨by omega, by omega⟩ (RV.mk (v0 (by omega)) rfl)
  · refine pw_iconst_n (q := 10) C 1 dX11_refused_9 (by decide +kernel) rfl ?_
    refine pw_goto (q := 0) 14 C dX11_refused_10 (by decide) ?_
    exact pw_zret C dX11_refused_14 rfl (by first | decide +kernel | exact nar_bN _ | exact nar_01 (by omega)) ⟨by omega, by omega⟩ (RV.mk (v1 (by omega)) rfl)
set_option maxHeartbeats 200000 in
set_option maxRecDepth 100000 in
theorem m_thrown {M : PH} {m rf n sp ft ac : Nat} {T R P Q D K B L : Nat → Nat}  : Run iX11_thrown [.ref m] (mh M m rf n sp ft ac T R P Q D K B L) 0 0 (RV (.int (nI rf)) (fun M1 => M1 = mh M m rf n sp ft ac T R P Q D K B L)) := by
  refine Run.of (l0 := [some (.ref m)]) (by decide +kernel) (Nat.le_of_ble_eq_true rfl) (by rfl) (fun Γ G C => ?_)
  refine pw_aload_n (q := 1) (j := 0) C dX11_thrown_0 rfl rfl rfl ?_
  refine pw_getf (q := 4) C dX11_thrown_1 fX11_35 mh_o (by rfl) rfl ?_
  exact pw_iret C dX11_thrown_4 rfl ⟨by omega, by omega⟩ (RV.mk (by rfl) rfl)
set_option maxHeartbeats 200000 in
set_option maxRecDepth 100000 in
theorem m_clearText {M : PH} {m rf n sp ft ac : Nat} {T R P Q D K B L : Nat → Nat}  : Run iX11_clearText [.ref m] (mh M m rf n sp ft ac T R P Q D K B L) 0 0 (RV (.int (nI n)) (fun M1 => M1 = mh M m 0 0 sp ft ac T R P Q D K B L)) := by
  refine Run.of (l0 := [some (.ref m), none]) (by decide +kernel) (Nat.le_of_ble_eq_true rfl) (by rfl) (fun Γ G C => ?_)
  refine pw_aload_n (q := 1) (j := 0) C dX11_clearText_0 rfl rfl rfl ?_
  refine pw_iconst_n (q := 2) C 0 dX11_clearText_1 (by decide +kernel) rfl ?_
  refine pw_put (q := 5) C dX11_clearText_2 fX11_35 mh_o (by rfl) (by rfl) (Nat.le_of_ble_eq_true rfl) rfl ?_
  rw [mh_s_rf]
  refine pw_aload_n (q := 6) (j := 0) C dX11_clearText_5 rfl rfl rfl ?_
  refine pw_getf (q := 9) C dX11_clearText_6 fX11_73 mh_o (by rfl) rfl ?_
  refine pw_istore_n (q := 10) (j := 1) C dX11_clearText_9 rfl rfl (by decide) rfl ?_
  refine pw_aload_n (q := 11) (j := 0) C dX11_clearText_10 rfl rfl rfl ?_
  refine pw_iconst_n (q := 12) C 0 dX11_clearText_11 (by decide +kernel) rfl ?_
  refine pw_put (q := 15) C dX11_clearText_12 fX11_73 mh_o (by rfl) (by rfl) (Nat.le_of_ble_eq_true rfl) rfl ?_
  rw [mh_s_n]
  refine pw_iload_n (q := 16) (j := 1) C dX11_clearText_15 rfl rfl rfl ?_
  exact pw_iret C dX11_clearText_16 rfl ⟨by omega, by omega⟩ (RV.mk (by rfl) rfl)
theorem inW_l {c : Int32} {lo hi : Nat} {l h : Int64} (hl : l = (nI lo).toInt64) (hh : h = (nI hi).toInt64) : (l ≤ c.toInt64 ∧ c.toInt64 ≤ h) ↔ inW c lo hi := by
  subst hl hh
  unfold inW
  rw [Int64.le_iff_toInt_le, Int64.le_iff_toInt_le, Int32.toInt_toInt64, Int32.toInt_toInt64, Int32.toInt_toInt64, Int32.le_iff_toInt_le, Int32.le_iff_toInt_le]
