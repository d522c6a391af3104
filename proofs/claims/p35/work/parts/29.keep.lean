/-! What stays sound from call to call. -/
theorem SInv.mono {D D1 : Nat} {S : St} (h : SInv D S) (hd : D ≤ D1) : SInv D1 S := ⟨⟨h.1.1, Nat.le_trans h.1.2 hd⟩, fun j hj => ⟨(h.2.1 j hj).1, Nat.le_trans (h.2.1 j hj).2 hd⟩, fun i hi hb => ⟨(h.2.2 i hi hb).1, Nat.le_trans (h.2.2 i hi hb).2 hd⟩⟩
theorem SInv.up {D : Nat} {S : St} (h : SInv D S) : SInv (D + 1) S := h.mono (Nat.le_succ D)
theorem SInv.act {D : Nat} {S : St} (h : SInv D S) {P : Nat → Nat} (hI : Inv P) (h1 : P 1 ≤ D + 1) : SInv (D + 1) (wA S P) := by
  refine ⟨⟨hI, h1⟩, fun j hj => ?_, fun i hi hb => ⟨(h.2.2 i hi hb).1, Nat.le_trans (h.2.2 i hi hb).2 (Nat.le_succ D)⟩⟩
  have hj9 : j < min (sM S + 1) 14 := hj
  show Inv (noteH (sM S) (sH S) (sP S) j) ∧ noteH (sM S) (sH S) (sP S) j 1 ≤ D + 1
  have hp : Inv (sP S) ∧ sP S 1 ≤ D + 1 := ⟨h.1.1, Nat.le_trans h.1.2 (Nat.le_succ D)⟩
  have hh : ∀ j, j < sM S → Inv (sH S j) ∧ sH S j 1 ≤ D + 1 := fun j hj => ⟨(h.2.1 j hj).1, Nat.le_trans (h.2.1 j hj).2 (Nat.le_succ D)⟩
  unfold noteH
  split
  · dsimp only
    split
    · exact hp
    · exact hh j (by omega)
  · dsimp only
    split
    · exact hp
    · exact hh (j + 1) (by omega)
theorem sv_addCourse {D : Nat} {S : St} (h : SInv D S) (a b c : Int32) : SInv (D + 1) (spAddCourse S a b c).2.2 := by
  unfold spAddCourse
  split
  · rename_i hh
    obtain ⟨h1, h2, h3⟩ := hh
    split
    · rename_i h5
      obtain ⟨k1, l1, u1, rfl⟩ := inW_n h1 (by omega) (by omega)
      obtain ⟨k2, l2, u2, rfl⟩ := inW_n h2 (by omega) (by omega)
      obtain ⟨k3, l3, u3, rfl⟩ := inW_n h3 (by omega) (by omega)
      rw [idx_n (by omega), idx_n (by omega), idx_n (by omega)]
      refine h.act (h.1.1.newCourse ⟨l1, u1⟩ ⟨l2, u2⟩ ⟨l3, u3⟩ h5) ?_
      rw [newCourse_out (by omega) (by omega)]
      exact Nat.le_trans h.1.2 (Nat.le_succ D)
    · exact h.up
  · exact h.up
theorem sv_addMason {D : Nat} {S : St} (h : SInv D S) (a b : Int32) : SInv (D + 1) (spAddMason S a b).2.2 := by
  unfold spAddMason
  split
  · rename_i hh
    obtain ⟨h1, h2⟩ := hh
    split
    · rename_i h5
      obtain ⟨k1, l1, u1, rfl⟩ := inW_n h1 (by omega) (by omega)
      obtain ⟨k2, l2, u2, rfl⟩ := inW_n h2 (by omega) (by omega)
      rw [idx_n (by omega), idx_n (by omega)]
      refine h.act (h.1.1.newMason ⟨l1, u1⟩ ⟨l2, u2⟩ h5) ?_
      rw [newMason_out (by omega) (by omega)]
      exact Nat.le_trans h.1.2 (Nat.le_succ D)
    · exact h.up
  · exact h.up
theorem sv_setRate {D : Nat} {S : St} (h : SInv D S) (a b : Int32) : SInv (D + 1) (spSetRate S a b).2.2 := by
  have hb := h.1.1.b
  unfold spSetRate
  split
  · rename_i h1
    split
    · rename_i h2
      obtain ⟨k1, u1, rfl⟩ := inI_n h1 (by omega)
      obtain ⟨k2, l2, u2, rfl⟩ := inW_n h2 (by omega) (by omega)
      rw [idx_n (by omega), idx_n (by omega)]
      refine h.act (h.1.1.mas (j := 0) u1 (by omega) (fun _ => ⟨l2, u2⟩) (by omega) (by omega)) ?_
      rw [updN_ne (by omega)]
      exact Nat.le_trans h.1.2 (Nat.le_succ D)
    · exact h.up
  · exact h.up
theorem sv_setBound {D : Nat} {S : St} (h : SInv D S) (b : Int32) : SInv (D + 1) (spSetBound S b).2.2 := by
  unfold spSetBound
  split
  · rename_i h1
    obtain ⟨k1, l1, u1, rfl⟩ := inW_n h1 (by omega) (by omega)
    rw [idx_n (by omega)]
    refine h.act (h.1.1.bound u1) ?_
    rw [updN_ne (by omega)]
    exact Nat.le_trans h.1.2 (Nat.le_succ D)
  · exact h.up
theorem sv_cut {D : Nat} {S : St} (h : SInv D S) (m c f : Int32) : SInv (D + 1) (spCut S m c f).2.2 := by
  have hb := h.1.1.b
  unfold spCut
  split
  · rename_i hh
    obtain ⟨h1, h2⟩ := hh
    split
    · rename_i h3
      split
      · rename_i h4
        obtain ⟨k1, u1, rfl⟩ := inI_n h1 (by omega)
        obtain ⟨k2, u2, rfl⟩ := inI_n h2 (by omega)
        obtain ⟨k3, l3, u3, rfl⟩ := inW_n h3 (by omega) (by omega)
        rw [idx_n (by omega), idx_n (by omega)] at h4 ⊢
        rw [idx_n (by omega)]
        refine h.act (h.1.1.cut u1 u2 u3 h4) ?_
        have e : cutP (sP S) k1 k2 k3 1 = sP S 1 := by unfold cutP newStoneP; simp only [updN]; grind
        rw [e]
        exact Nat.le_trans h.1.2 (Nat.le_succ D)
      · exact h.up
    · exact h.up
  · exact h.up
theorem sv_inspect {D : Nat} {S : St} (h : SInv D S) (s : Int32) : SInv (D + 1) (spInspect S s).2.2 := by
  have hb := h.1.1.b
  unfold spInspect
  split
  · rename_i h1
    split
    · rename_i h4
      obtain ⟨k1, u1, rfl⟩ := inI_n h1 (by omega)
      rw [idx_n (by omega)] at h4 ⊢
      refine h.act (h.1.1.inspect u1 h4) ?_
      have e : inspectP (sP S) k1 1 = sP S 1 := by unfold inspectP stateP; split <;> (simp only [updN]; grind)
      rw [e]
      exact Nat.le_trans h.1.2 (Nat.le_succ D)
    · exact h.up
  · exact h.up
theorem sv_recut {D : Nat} {S : St} (h : SInv D S) (m s c : Int32) : SInv (D + 1) (spRecut S m s c).2.2 := by
  have hb := h.1.1.b
  unfold spRecut
  split
  · rename_i hh
    obtain ⟨h1, h2, h3⟩ := hh
    split
    · rename_i h4
      obtain ⟨k1, u1, rfl⟩ := inI_n h1 (by omega)
      obtain ⟨k2, u2, rfl⟩ := inI_n h2 (by omega)
      obtain ⟨k3, u3, rfl⟩ := inI_n h3 (by omega)
      rw [idx_n (by omega), idx_n (by omega), idx_n (by omega)] at h4 ⊢
      refine h.act (h.1.1.recut u1 u2 u3 h4) ?_
      have e : recutP (sP S) k1 k2 k3 1 = sP S 1 := by unfold recutP; simp only [updN]; grind
      rw [e]
      exact Nat.le_trans h.1.2 (Nat.le_succ D)
    · exact h.up
  · exact h.up
theorem sv_scrap {D : Nat} {S : St} (h : SInv D S) (s : Int32) : SInv (D + 1) (spScrap S s).2.2 := by
  have hb := h.1.1.b
  unfold spScrap
  split
  · rename_i h1
    split
    · rename_i h4
      obtain ⟨k1, u1, rfl⟩ := inI_n h1 (by omega)
      rw [idx_n (by omega)] at h4 ⊢
      refine h.act (h.1.1.scrap u1 h4) ?_
      have e : stateP (sP S) k1 4 1 = sP S 1 := updN_ne (by omega)
      rw [e]
      exact Nat.le_trans h.1.2 (Nat.le_succ D)
    · exact h.up
  · exact h.up
theorem sv_set {D : Nat} {S : St} (h : SInv D S) (s : Int32) : SInv (D + 1) (spSet S s).2.2 := by
  have hb := h.1.1.b
  unfold spSet
  split
  · rename_i h1
    split
    · rename_i h4
      obtain ⟨k1, u1, rfl⟩ := inI_n h1 (by omega)
      rw [idx_n (by omega)] at h4 ⊢
      refine h.act (h.1.1.set u1 h4) ?_
      have e : stateP (sP S) k1 3 1 = sP S 1 := updN_ne (by omega)
      rw [e]
      exact Nat.le_trans h.1.2 (Nat.le_succ D)
    · exact h.up
  · exact h.up
theorem sv_pay {D : Nat} {S : St} (h : SInv D S) : SInv (D + 1) (wA S (payP (sP S))) := by
  refine h.act h.1.1.pay ?_
  have e : payP (sP S) 1 = sP S 1 := by
    unfold payP
    rw [updN_ne (by omega), payAt_ne (by omega)]
  rw [e]
  exact Nat.le_trans h.1.2 (Nat.le_succ D)
theorem sv_day {D : Nat} {S : St} (h : SInv D S) (hD : D < 90000) {fr : Nat} (hf : fr ≤ 1) : SInv (D + 1) (wA S (dayP (sP S) fr)) := by
  have h1 := h.1.2
  refine h.act (h.1.1.day hf (by omega)) ?_
  have e : dayP (sP S) fr 1 = sP S 1 + 1 := rfl
  omega
theorem sv_undo {D : Nat} {S : St} (h : SInv D S) : SInv (D + 1) (spUndo S).2.2 := by
  unfold spUndo
  split
  · exact h.up
  · rename_i h0
    have hu := h.up
    exact ⟨hu.2.1 (sM S - 1) (by omega), fun j hj => hu.2.1 j (Nat.lt_of_lt_of_le hj (Nat.sub_le _ _)), hu.2.2⟩
theorem sv_append {D : Nat} {S : St} (h : SInv D S) (c : Int32) : SInv (D + 1) (spAppend S c).2.2 := by
  unfold spAppend
  split
  · split
    · exact h.up
    · exact h.up
  · exact h.up
theorem sv_clear {D : Nat} {S : St} (h : SInv D S) : SInv (D + 1) (spClear S).2.2 := h.up
theorem sv_save {D : Nat} {S : St} (h : SInv D S) (s : Int32) : SInv (D + 1) (spSave S s).2.2 := by
  unfold spSave
  split
  · have hu := h.up
    refine ⟨hu.1, hu.2.1, fun i hi hb => ?_⟩
    show Inv (if i = idx s then sP S else sK S i) ∧ (if i = idx s then sP S else sK S i) 1 ≤ D + 1
    by_cases e : i = idx s
    · rw [if_pos e]; exact hu.1
    · rw [if_neg e]
      have hb9 : updN (sB S) (idx s) 1 i = 1 := hb
      rw [updN_ne e] at hb9
      exact hu.2.2 i hi hb9
  · exact h.up
theorem sv_restore {D : Nat} {S : St} (h : SInv D S) (s : Int32) : SInv (D + 1) (spRestore S s).2.2 := by
  unfold spRestore
  split
  · rename_i h1
    split
    · rename_i h2
      obtain ⟨k1, l1, u1, rfl⟩ := inW_n h1 (by omega) (by omega)
      rw [idx_n (by omega)] at h2 ⊢
      have hu := h.up
      exact ⟨hu.2.2 k1 (by omega) h2, fun j hj => absurd hj (Nat.not_lt_zero j), hu.2.2⟩
    · exact h.up
  · exact h.up
theorem le_spAppend (S : St) (c : Int32) : (spAppend S c).1 ≤ 2 := by
  unfold spAppend
  repeat' split
  all_goals exact Nat.le_of_ble_eq_true rfl
theorem le_spLoad (S : St) : (spLoad S).1 ≤ 1 := by
  unfold spLoad
  repeat' split
  all_goals exact Nat.le_of_ble_eq_true rfl
theorem le_spAbout (S : St) (c : Int32) : (spAbout S c).1 ≤ 1 := by
  unfold spAbout
  repeat' split
  all_goals exact Nat.le_of_ble_eq_true rfl
theorem le_spCourse (S : St) (c d : Int32) : (spCourse S c d).1 ≤ 2 := by
  unfold spCourse
  repeat' split
  all_goals exact Nat.le_of_ble_eq_true rfl
theorem le_spMason (S : St) (c d : Int32) : (spMason S c d).1 ≤ 2 := by
  unfold spMason
  repeat' split
  all_goals exact Nat.le_of_ble_eq_true rfl
theorem le_spStone (S : St) (c d : Int32) : (spStone S c d).1 ≤ 2 := by
  unfold spStone
  repeat' split
  all_goals exact Nat.le_of_ble_eq_true rfl
theorem le_spWhy (S : St) (c : Int32) : (spWhy S c).1 ≤ 1 := by
  unfold spWhy
  repeat' split
  all_goals exact Nat.le_of_ble_eq_true rfl
theorem le_spAddCourse (S : St) (a b c : Int32) : (spAddCourse S a b c).1 ≤ 2 := by
  unfold spAddCourse
  repeat' split
  all_goals exact Nat.le_of_ble_eq_true rfl
theorem le_spAddMason (S : St) (a b : Int32) : (spAddMason S a b).1 ≤ 2 := by
  unfold spAddMason
  repeat' split
  all_goals exact Nat.le_of_ble_eq_true rfl
theorem le_spSetRate (S : St) (a b : Int32) : (spSetRate S a b).1 ≤ 2 := by
  unfold spSetRate
  repeat' split
  all_goals exact Nat.le_of_ble_eq_true rfl
theorem le_spSetBound (S : St) (a : Int32) : (spSetBound S a).1 ≤ 1 := by
  unfold spSetBound
  repeat' split
  all_goals exact Nat.le_of_ble_eq_true rfl
theorem le_spCut (S : St) (a b c : Int32) : (spCut S a b c).1 ≤ 3 := by
  unfold spCut
  repeat' split
  all_goals exact Nat.le_of_ble_eq_true rfl
theorem le_spInspect (S : St) (a : Int32) : (spInspect S a).1 ≤ 2 := by
  unfold spInspect
  repeat' split
  all_goals exact Nat.le_of_ble_eq_true rfl
theorem le_spRecut (S : St) (a b c : Int32) : (spRecut S a b c).1 ≤ 2 := by
  unfold spRecut
  repeat' split
  all_goals exact Nat.le_of_ble_eq_true rfl
theorem le_spScrap (S : St) (a : Int32) : (spScrap S a).1 ≤ 2 := by
  unfold spScrap
  repeat' split
  all_goals exact Nat.le_of_ble_eq_true rfl
theorem le_spSet (S : St) (a : Int32) : (spSet S a).1 ≤ 2 := by
  unfold spSet
  repeat' split
  all_goals exact Nat.le_of_ble_eq_true rfl
theorem le_spUndo (S : St) : (spUndo S).1 ≤ 1 := by
  unfold spUndo
  repeat' split
  all_goals exact Nat.le_of_ble_eq_true rfl
theorem le_spRecutFor (S : St) (a : Int32) : (spRecutFor S a).1 ≤ 1 := by
  unfold spRecutFor
  repeat' split
  all_goals exact Nat.le_of_ble_eq_true rfl
theorem le_spCheapest (S : St) (a : Int32) : (spCheapest S a).1 ≤ 1 := by
  unfold spCheapest
  repeat' split
  all_goals exact Nat.le_of_ble_eq_true rfl
theorem le_spEarn (S : St) (a : Int32) : (spEarn S a).1 ≤ 1 := by
  unfold spEarn
  repeat' split
  all_goals exact Nat.le_of_ble_eq_true rfl
theorem le_spSave (S : St) (a : Int32) : (spSave S a).1 ≤ 1 := by
  unfold spSave
  repeat' split
  all_goals exact Nat.le_of_ble_eq_true rfl
theorem le_spRestore (S : St) (a : Int32) : (spRestore S a).1 ≤ 2 := by
  unfold spRestore
  repeat' split
  all_goals exact Nat.le_of_ble_eq_true rfl
theorem le_spScript (S : St) (a : Int32) (w : Int64) : (spScript S a w).1 ≤ 1 := by
  unfold spScript
  split
  · exact Nat.zero_le 1
  · exact Nat.le_refl 1
theorem le_spSim (S : St) (w : Int64) (a : Int32) : (spSim S w a).1 ≤ 1 := by
  unfold spSim
  split
  · exact Nat.zero_le 1
  · exact Nat.le_refl 1
theorem sv_rd_script {D : Nat} {S : St} (h : SInv D S) (a : Int32) (w : Int64) : SInv (D + 1) (spScript S a w).2.2 := by
  unfold spScript
  split <;> exact h.up
theorem sv_rd_sim {D : Nat} {S : St} (h : SInv D S) (w : Int64) (a : Int32) : SInv (D + 1) (spSim S w a).2.2 := by
  unfold spSim
  split <;> exact h.up
theorem sv_spAbout {D : Nat} {S : St} (h : SInv D S) (c : Int32) : SInv (D + 1) (spAbout S c).2.2 := by
  unfold spAbout
  repeat' split
  all_goals exact h.up
theorem sv_spCourse {D : Nat} {S : St} (h : SInv D S) (c d : Int32) : SInv (D + 1) (spCourse S c d).2.2 := by
  unfold spCourse
  repeat' split
  all_goals exact h.up
theorem sv_spMason {D : Nat} {S : St} (h : SInv D S) (c d : Int32) : SInv (D + 1) (spMason S c d).2.2 := by
  unfold spMason
  repeat' split
  all_goals exact h.up
theorem sv_spStone {D : Nat} {S : St} (h : SInv D S) (c d : Int32) : SInv (D + 1) (spStone S c d).2.2 := by
  unfold spStone
  repeat' split
  all_goals exact h.up
theorem sv_spWhy {D : Nat} {S : St} (h : SInv D S) (c : Int32) : SInv (D + 1) (spWhy S c).2.2 := by
  unfold spWhy
  repeat' split
  all_goals exact h.up
theorem sv_spRecutFor {D : Nat} {S : St} (h : SInv D S) (c : Int32) : SInv (D + 1) (spRecutFor S c).2.2 := by
  unfold spRecutFor
  repeat' split
  all_goals exact h.up
theorem sv_spCheapest {D : Nat} {S : St} (h : SInv D S) (c : Int32) : SInv (D + 1) (spCheapest S c).2.2 := by
  unfold spCheapest
  repeat' split
  all_goals exact h.up
theorem sv_spEarn {D : Nat} {S : St} (h : SInv D S) (c : Int32) : SInv (D + 1) (spEarn S c).2.2 := by
  unfold spEarn
  repeat' split
  all_goals exact h.up
