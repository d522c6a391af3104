/-! The judgement PW: a frame over a heap that is a function of addresses; a row an instruction; Run: a method's contract over such heaps. -/
def GW : List Cond := lw_tbl.filter goodWord
theorem gw_of {x : Cond} (i : Nat) (h : lw_tbl[i]? = some x) (g : goodWord x = true) : x ∈ GW := List.mem_filter.mpr ⟨List.mem_of_getElem? h, g⟩
theorem goodGW {L : List Cond} (h : ∀ x ∈ L, x ∈ GW) : GoodIn GW L := fun x hx => ⟨h x hx, good_of_word (List.mem_filter.mp (h x hx)).2⟩
def isXW : Cond → Bool
  | .castable .. => true
  | .declares .. => true
  | .methodLinkNest .. => true
  | _ => false
def XW : List Cond := lw_tbl.filter isXW
theorem xw_of {x : Cond} (i : Nat) (h : lw_tbl[i]? = some x) (g : isXW x = true) : x ∈ XW := List.mem_filter.mpr ⟨List.mem_of_getElem? h, g⟩
def XWF (U : State) : Prop := ∀ x ∈ XW, va_Nw x U
theorem XWF.warm {s U : State} (hW : s.WarmedH U.vm) (h : XWF s) : XWF U := by
  intro x hx
  have g := (List.mem_filter.mp hx).2
  have h1 := h x hx
  cases x <;> first | (simp [isXW] at g; done) | exact va_Nw.warmC hW h1 | exact va_Nw.warmD hW h1 | exact va_Nw.warmM hW h1
def SW : List (String × Nat × String) := lw_tbl.filterMap fun x => match x with
  | .stringRef a k t => some (a, k, t)
  | _ => none
def SWF (U : State) : Prop := ∀ q ∈ SW, ∃ a, vk_R q.1 q.2.1 q.2.2 a U
theorem SWF.warm {s U : State} (hW : s.WarmedH U.vm) (h : SWF s) : SWF U := fun q hq => by
  obtain ⟨a, ha⟩ := h q hq
  exact ⟨a, vk_R.warm hW ha⟩
theorem sw_of {a t : String} {k : Nat} (i : Nat) (h : lw_tbl[i]? = some (.stringRef a k t)) : (a, k, t) ∈ SW := List.mem_filterMap.mpr ⟨_, List.mem_of_getElem? h, rfl⟩
abbrev PH : Type := Nat × (Nat → Option va_E)
abbrev GC : Type := va_G × List (ClassId × FieldType) × Nat
/-- a method: its name, code, locals, answer's type, frames and locals of its room -/
abbrev MI : Type := MethodName × ByteArray × Nat × Option FieldType × Nat × Nat
abbrev CX : Type := Program × Launch × Env × Room × State × MethodId × Array Value × List Frame × Method × Code
abbrev OC : Type := Option Value ⊕ String
abbrev LL : Type := List (Option Value)
def AB (G : GC) : Nat → Prop := fun q => G.2.2 ≤ q
def tyL : List FieldType := [.int, .char, .boolean, .byte, .object "AshlarLodge$Lodge"]
def pmE (G : GC) (x : va_E) : va_E := match x with
  | .inl (t, y) => .inl ((G.2.1.getD t (0, .int)).1, y)
  | .inr y => .inr y
def Sim (G : GC) (M : PH) (H : Heap) : Prop := M.1 = H.size ∧ ∀ (a : Nat) (x : va_E), M.2 a = some x → G.2.2 ≤ a ∧ va_at G.1 vwCl (a, pmE G x) H
def NCF (U : State) : Prop := va_Nc "java/lang/IllegalStateException" "java/lang/IllegalArgumentException" U ∧ va_Nc "java/lang/IllegalArgumentException" "java/lang/IndexOutOfBoundsException" U ∧ va_Nc "java/lang/IllegalStateException" "java/lang/IndexOutOfBoundsException" U
theorem NCF.moved {u U : State} (hvm : u.vm.Alike U.vm) (h : NCF u) : NCF U := ⟨h.1.moved hvm, h.2.1.moved hvm, h.2.2.moved hvm⟩
def KS (G : GC) (U : State) : Prop := va_K G.1 vwCl G.2.1 U ∧ G.2.1.map (fun q => q.2) = tyL ∧ vx_Zq Bundle.tN "UNASSIGNED_STACK" Bundle.steD (AB G) U U.heap ∧ vx_Zq Bundle.tN "SUPPRESSED_SENTINEL" Bundle.listD (AB G) U U.heap ∧ G.2.2 ≤ U.heap.size ∧ XWF U ∧ SWF U ∧ va_AO "AshlarLodge$Lodge" U ∧ NCF U
theorem KS.go {G : GC} {s U : State} {H : Heap} {locs : List Loc} (hS : va_S (AB G) s.heap H locs) (hU : U.heap = H) (hW : s.WarmedH U.vm) (h : KS G s) : KS G U := by
  obtain ⟨h1, h2, h3, h4, h5, h6, h7, h8, h9⟩ := h
  refine ⟨va_K.moved hW.alike h1, h2, ?_, ?_, ?_, XWF.warm hW h6, SWF.warm hW h7, va_AO.moved hW.alike h8, NCF.moved hW.alike h9⟩
  · rw [hU]; exact vx_Zq.moved hW.alike (vx_Zq.kept h3 hS.2.1)
  · rw [hU]; exact vx_Zq.moved hW.alike (vx_Zq.kept h4 hS.2.1)
  · rw [hU]; exact Nat.le_trans h5 hS.1
theorem KS.calling {G : GC} {U : State} {g : JFrame} {mk : MethodId} {a : Array Value} (h : KS G U) : KS G (U.calling g mk a) := by
  obtain ⟨h1, h2, h3, h4, h5, h6, h7, h8, h9⟩ := h
  exact ⟨va_K.moved (u := U) (U := U.calling g mk a) (Vm.Alike.refl U.vm) h1, h2, vx_Zq.moved (u := U) (U := U.calling g mk a) (Vm.Alike.refl U.vm) h3, vx_Zq.moved (u := U) (U := U.calling g mk a) (Vm.Alike.refl U.vm) h4, h5,
    XWF.warm (s := U) (U := U.calling g mk a) (State.WarmedH.refl U) h6, SWF.warm (s := U) (U := U.calling g mk a) (State.WarmedH.refl U) h7, va_AO.moved (u := U) (U := U.calling g mk a) (Vm.Alike.refl U.vm) h8, NCF.moved (u := U) (U := U.calling g mk a) (Vm.Alike.refl U.vm) h9⟩
theorem Sim.P1 {G : GC} {M : PH} {H : Heap} {a : Nat} {x : va_E} (hM : Sim G M H) (ha : M.2 a = some x) : va_P G.1 vwCl [(a, pmE G x)] H := by
  intro k q hk
  cases k with
  | zero => cases hk; exact (hM.2 a x ha).2
  | succ k => simp at hk
def hput (M : PH) (a : Nat) (x : va_E) : PH := (M.1, fun q => if q = a then some x else M.2 q)
def hnew (M : PH) (x : va_E) : PH := (M.1 + 1, fun q => if q = M.1 then some x else M.2 q)
def hbump (M : PH) : PH := (M.1 + 1, M.2)
theorem Sim.put {G : GC} {M : PH} {H H1 : Heap} {a : Nat} {x : va_E} (hM : Sim G M H) (hz : H1.size = H.size) (ho : ∀ q : Nat, q ≠ a → H1[q]? = H[q]?) (hb : G.2.2 ≤ a) (hn : va_at G.1 vwCl (a, pmE G x) H1) : Sim G (hput M a x) H1 := by
  refine ⟨hM.1.trans hz.symm, fun q y hy => ?_⟩
  simp only [hput] at hy
  by_cases hq : q = a
  · subst hq
    rw [if_pos rfl] at hy
    cases hy
    exact ⟨hb, hn⟩
  · rw [if_neg hq] at hy
    obtain ⟨h1, h2⟩ := hM.2 q y hy
    exact ⟨h1, h2.kept (ho q hq)⟩
theorem Sim.new {G : GC} {M : PH} {H H1 : Heap} {x : va_E} (hM : Sim G M H) (hz : H1.size = H.size + 1) (ho : ∀ q : Nat, q < H.size → H1[q]? = H[q]?) (hb : G.2.2 ≤ H.size) (hn : va_at G.1 vwCl (H.size, pmE G x) H1) : Sim G (hnew M x) H1 := by
  refine ⟨by show M.1 + 1 = _; rw [hM.1, hz], fun q y hy => ?_⟩
  simp only [hnew] at hy
  by_cases hq : q = M.1
  · rw [if_pos hq] at hy
    cases hy
    rw [hq, hM.1]
    exact ⟨hb, hn⟩
  · rw [if_neg hq] at hy
    obtain ⟨h1, h2⟩ := hM.2 q y hy
    exact ⟨h1, h2.kept (ho q h2.lt)⟩
theorem Sim.bump {G : GC} {M : PH} {H H1 : Heap} (hM : Sim G M H) (hz : H1.size = H.size + 1) (ho : ∀ q : Nat, q < H.size → H1[q]? = H[q]?) : Sim G (hbump M) H1 := by
  refine ⟨by show M.1 + 1 = _; rw [hM.1, hz], fun q y hy => ?_⟩
  obtain ⟨h1, h2⟩ := hM.2 q y hy
  exact ⟨h1, h2.kept (ho q h2.lt)⟩
-- locals
def lk : LL → Nat → Option Value
  | [], _ => none
  | x :: _, 0 => x
  | _ :: t, n + 1 => lk t n
def lset : LL → Nat → Option Value → LL
  | [], _, _ => []
  | _ :: t, 0, v => v :: t
  | x :: t, n + 1, v => x :: lset t n v
theorem lset_len : ∀ (l : LL) (i : Nat) (v : Option Value), (lset l i v).length = l.length
  | [], _, _ => rfl
  | _ :: _, 0, _ => rfl
  | _ :: t, n + 1, v => by simp [lset, lset_len t n v]
theorem lk_lset : ∀ (l : LL) (i : Nat) (v : Option Value) (j : Nat), i < l.length → lk (lset l i v) j = if j = i then v else lk l j
  | [], i, _, _, h => absurd h (Nat.not_lt_zero i)
  | _ :: _, 0, _, 0, _ => rfl
  | _ :: _, 0, _, _ + 1, _ => rfl
  | _ :: _, _ + 1, _, 0, _ => rfl
  | _ :: t, n + 1, v, j + 1, h => by
    show lk (lset t n v) j = if j + 1 = n + 1 then v else lk t j
    rw [lk_lset t n v j (Nat.lt_of_succ_lt_succ h)]
    by_cases hj : j = n
    · simp [hj]
    · simp [hj]
theorem lk_lt : ∀ (l : LL) (i : Nat) (v : Value), lk l i = some v → i < l.length
  | [], _, _, h => by simp [lk] at h
  | _ :: _, 0, _, _ => Nat.succ_pos _
  | _ :: t, n + 1, v, h => Nat.succ_lt_succ (lk_lt t n v h)
def okst (l : LL) (i : Nat) : Bool := match i with
  | 0 => true
  | j + 1 => match lk l j with
    | some v => v.category != 2
    | none => true
def LV (A : Array Slot) (nL : Nat) (l : LL) : Prop := A.size = nL ∧ lv_wf A ∧ l.length = nL ∧ ∀ (i : Nat) (v : Value), lk l i = some v → A[i]? = some (.val v)
def lasc (l : LL) : List (Nat × Value) := (List.range l.length).filterMap fun i => (lk l i).map fun v => (i, v)
theorem mem_lasc {l : LL} {i : Nat} {v : Value} : (i, v) ∈ lasc l ↔ lk l i = some v := by
  unfold lasc
  rw [List.mem_filterMap]
  constructor
  · rintro ⟨a, -, h⟩
    obtain ⟨y, h1, h2⟩ := Option.map_eq_some_iff.mp h
    cases h2
    exact h1
  · intro h
    exact ⟨i, List.mem_range.mpr (lk_lt l i v h), by rw [h]; rfl⟩
theorem LV.has {A : Array Slot} {nL : Nat} {l : LL} (h : LV A nL l) : lv_has A nL (lasc l) := ⟨h.1, h.2.1, fun q hq => by
  obtain ⟨i, v⟩ := q
  exact h.2.2.2 i v (mem_lasc.mp hq)⟩
theorem LV.at {A : Array Slot} {nL : Nat} {l : LL} (h : LV A nL l) {i : Nat} {v : Value} (hk : lk l i = some v) : A[i]? = some (.val v) := h.2.2.2 i v hk
theorem LV.st1 {A B : Array Slot} {nL i : Nat} {l : LL} {v : Value} (h : LV A nL l) (hok : okst l i = true) (hi : i < nL) (hB : lv_has B nL ((i, v) :: (lasc l).filter (fun q => !(q.1 == i) && !(q.1 + 1 == i && q.2.category == 2)))) : LV B nL (lset l i (some v)) := by
  refine ⟨hB.1, hB.2.1, by rw [lset_len]; exact h.2.2.1, fun j x hj => ?_⟩
  rw [lk_lset l i _ j (by rw [h.2.2.1]; exact hi)] at hj
  by_cases hji : j = i
  · subst hji
    rw [if_pos rfl] at hj
    cases hj
    exact hB.2.2 (j, v) List.mem_cons_self
  · rw [if_neg hji] at hj
    refine hB.2.2 (j, x) (List.mem_cons_of_mem _ (List.mem_filter.mpr ⟨mem_lasc.mpr hj, ?_⟩))
    by_cases h2 : j + 1 = i
    · subst h2
      have hc : x.category ≠ 2 := by
        simp only [okst, hj] at hok
        simpa using hok
      simp [hji, hc]
    · simp [hji, h2]
theorem LV.st2 {A B : Array Slot} {nL i : Nat} {l : LL} {v : Value} (h : LV A nL l) (hok : okst l i = true) (hi : i + 1 < nL) (hB : lv_has B nL ((i, v) :: (lasc l).filter (fun q => !(q.1 == i) && (!(q.1 == i + 1) && !(q.1 + 1 == i && q.2.category == 2))))) : LV B nL (lset (lset l i (some v)) (i + 1) none) := by
  refine ⟨hB.1, hB.2.1, by rw [lset_len, lset_len]; exact h.2.2.1, fun j x hj => ?_⟩
  rw [lk_lset _ (i + 1) _ j (by rw [lset_len, h.2.2.1]; exact hi)] at hj
  by_cases hj1 : j = i + 1
  · rw [if_pos hj1] at hj; cases hj
  · rw [if_neg hj1, lk_lset l i _ j (by rw [h.2.2.1]; omega)] at hj
    by_cases hji : j = i
    · subst hji
      rw [if_pos rfl] at hj
      cases hj
      exact hB.2.2 (j, v) List.mem_cons_self
    · rw [if_neg hji] at hj
      refine hB.2.2 (j, x) (List.mem_cons_of_mem _ (List.mem_filter.mpr ⟨mem_lasc.mpr hj, ?_⟩))
      by_cases h2 : j + 1 = i
      · subst h2
        have hc : x.category ≠ 2 := by
          simp only [okst, hj] at hok
          simpa using hok
        simp [hji, hj1, hc]
      · simp [hji, hj1, h2]
-- the context of a body, the judgement
def Cx (Γ : CX) (G : GC) (i : MI) (T : List ExceptionTableEntry) (mc ms : Nat) : Prop := match Γ with
  | (p, l, e, R, s, m, args, below, meth, c) => p.tables.exec = Jvm.exec ∧ c.code = i.2.1 ∧ c.maxLocals = i.2.2.1 ∧ s.vm.findClass i.1.cls = some m.cls ∧ (∀ x ∈ GW, x.before args s = true) ∧ meth.sig.returnType = i.2.2.2.1 ∧ meth.locks = false ∧ meth.name = i.1.name ∧ l.stackTraces = false ∧ c.exceptionTable.toList = T ∧ KS G s ∧ R.frames = i.2.2.2.2.1 ∧ R.locals = i.2.2.2.2.2 ∧ R.cells = mc ∧ R.slots = ms
def PW (Γ : CX) (G : GC) (Z : State → Prop) (pc : Nat) (ls : LL) (st : List Value) (M : PH) (k n : Nat) : Prop := match Γ with
  | (p, l, e, R, s, m, args, below, meth, c) => ∀ (A : Array Slot) (H : Heap) (locs : List Loc), LV A c.maxLocals ls → Sim G M H → va_S (AB G) s.heap H locs → W p l e R s m args below meth c H locs k n Z (F0 m pc A st)
def QcOf (G : GC) (Q : OC → PH → Prop) : Array Value → State → Outcome → State → Prop := fun _ st oc t => (∃ (v : Option Value) (M : PH), oc = .returned v ∧ Q (.inl v) M ∧ Sim G M t.heap) ∧ va_F (AB G) st t
def XCOf (G : GC) (Q : OC → PH → Prop) : String → State → State → Prop := fun E st t => (∃ M : PH, Q (.inr E) M ∧ Sim G M t.heap) ∧ va_F (AB G) st t
def PcOf (G : GC) (as : List Value) (M : PH) : Array Value → State → Prop := fun a U => a = as.toArray ∧ Sim G M U.heap ∧ KS G U
def ZJ (Γ : CX) (G : GC) (mc ms : Nat) (Q : OC → PH → Prop) : State → Prop := match Γ with
  | (_, _, _, _, s, _, args, below, _, _) => vx_MQ below (QcOf G Q) (XCOf G Q) args s mc ms (AB G)
def wsC (i : MI) : List Cond := .code i.1 i.2.1 i.2.2.1 i.2.2.2.1 :: GW
def wsH (i : MI) (hh : List (Nat × Nat × Nat × Nat)) : List Cond := .codeWith i.1 i.2.1 i.2.2.1 i.2.2.2.1 hh :: GW
def rmOf (i : MI) (mc ms : Nat) : Room := { frames := i.2.2.2.2.1, cells := mc, slots := ms, locals := i.2.2.2.2.2 }
def Run (i : MI) (as : List Value) (M : PH) (mc ms : Nat) (Q : OC → PH → Prop) : Prop := ∀ (l : Launch) (G : GC), l.stackTraces = false → vx_Met l i.1 (wsC i) (rmOf i mc ms) (PcOf G as M) (QcOf G Q) (XCOf G Q) mc ms (AB G)
def RunH (i : MI) (hh : List (Nat × Nat × Nat × Nat)) (as : List Value) (M : PH) (mc ms : Nat) (Q : OC → PH → Prop) : Prop := ∀ (l : Launch) (G : GC), l.stackTraces = false → vx_Met l i.1 (wsH i hh) (rmOf i mc ms) (PcOf G as M) (QcOf G Q) (XCOf G Q) mc ms (AB G)
def afind : List (Nat × Value) → Nat → Option Value
  | [], _ => none
  | (j, v) :: t, i => if j = i then some v else afind t i
theorem afind_mem : ∀ (l : List (Nat × Value)) (i : Nat) (v : Value), afind l i = some v → (i, v) ∈ l
  | [], _, _, h => by simp [afind] at h
  | (j, x) :: t, i, v, h => by
    unfold afind at h
    by_cases hj : j = i
    · rw [if_pos hj] at h
      cases h
      subst hj
      exact List.mem_cons_self
    · rw [if_neg hj] at h
      exact List.mem_cons_of_mem _ (afind_mem t i v h)
def lent (vs : List Value) (n : Nat) : LL := (List.range n).map (afind (lv_args 0 vs))
theorem lk_get : ∀ (l : LL) (i : Nat), lk l i = (l[i]?).getD none
  | [], _ => rfl
  | _ :: _, 0 => rfl
  | _ :: t, n + 1 => by
    show lk t n = _
    rw [lk_get t n]
    rfl
theorem lk_lent {vs : List Value} {n i : Nat} {v : Value} (h : lk (lent vs n) i = some v) : (i, v) ∈ lv_args 0 vs := by
  rw [lk_get] at h
  unfold lent at h
  rw [List.getElem?_map] at h
  by_cases hi : i < n
  · rw [List.getElem?_range hi] at h
    exact afind_mem _ _ _ h
  · rw [List.getElem?_eq_none (by simpa using hi)] at h
    cases h
theorem LV.entry {vs : List Value} {n : Nat} {l : LL} (h : (lg_sl vs).length ≤ n) (hl : lent vs n = l) : LV ((lg_sl vs ++ List.replicate (n - (lg_sl vs).length) Slot.unset).toArray) n l := by
  subst hl
  obtain ⟨h1, h2, h3⟩ := lv_entry vs h
  exact ⟨h1, h2, by simp [lent], fun i v hk => h3 (i, v) (lk_lent hk)⟩
theorem Run.of {i : MI} {as : List Value} {M : PH} {mc ms : Nat} {Q : OC → PH → Prop} {l0 : LL} (hy : plainName i.1.cls = true) (hfit : (lg_sl as).length ≤ i.2.2.1) (hl0 : lent as i.2.2.1 = l0)
    (body : ∀ (Γ : CX) (G : GC), Cx Γ G i [] mc ms → PW Γ G (ZJ Γ G mc ms Q) 0 l0 [] M 0 0) : Run i as M mc ms Q := by
  intro l G hst
  refine vx_ofW (cc := i.2.1) (maxL := i.2.2.1) (ret := i.2.2.2.1) hy rfl ?_
  intro p e s m args below meth c s₁ B hml ht hv
  obtain ⟨rfl, hM, hK⟩ := hv
  have hts := atoms_spec (ws := wsC i) B.pre
  have hown : s.vm.findClass i.1.cls = some m.cls := findClass_of_methodNamed B.named
  have hC : Cx (p, l, e, (headSpec (wsC i) (rmOf i mc ms)).room, s, m, as.toArray, below, meth, c) G i [] mc ms :=
    ⟨B.exec, B.bytes, hml, hown, fun x hx => hts x (List.mem_cons_of_mem _ hx), B.returns, B.notSynchronized, (name_of_methodNamed B.named B.method).1, hst, by
      cases h9 : c.exceptionTable.toList with
      | nil => rfl
      | cons x t => exact (ht x (by rw [h9]; exact List.mem_cons_self)).elim, hK, rfl, rfl, rfl, rfl⟩
  have K := body _ G hC
  rw [lg_entry_eq]
  exact K _ _ [] (by rw [hml]; exact LV.entry hfit hl0) hM va_S.rf
theorem RunH.of {i : MI} {hh : List (Nat × Nat × Nat × Nat)} {as : List Value} {M : PH} {mc ms : Nat} {Q : OC → PH → Prop} {l0 : LL} (hy : plainName i.1.cls = true) (hfit : (lg_sl as).length ≤ i.2.2.1) (hl0 : lent as i.2.2.1 = l0)
    (body : ∀ (Γ : CX) (G : GC), Cx Γ G i (tableOf hh) mc ms → PW Γ G (ZJ Γ G mc ms Q) 0 l0 [] M 0 0) : RunH i hh as M mc ms Q := by
  intro l G hst
  refine vx_ofWH (cc := i.2.1) (maxL := i.2.2.1) (ret := i.2.2.2.1) (hh := hh) hy rfl ?_
  intro p e s m args below meth c s₁ B hml hv
  obtain ⟨rfl, hM, hK⟩ := hv
  have hts := atoms_spec (ws := wsH i hh) B.pre
  have hown : s.vm.findClass i.1.cls = some m.cls := findClass_of_methodNamed B.named
  have hC : Cx (p, l, e, (headSpec (wsH i hh) (rmOf i mc ms)).room, s, m, as.toArray, below, meth, c) G i (tableOf hh) mc ms :=
    ⟨B.exec, B.bytes, hml, hown, fun x hx => hts x (List.mem_cons_of_mem _ hx), B.returns, B.notSynchronized, (name_of_methodNamed B.named B.method).1, hst, vx_table (x := i.1) (y := i.1) B (hts _ List.mem_cons_self), hK, rfl, rfl, rfl, rfl⟩
  have K := body _ G hC
  rw [lg_entry_eq]
  exact K _ _ [] (by rw [hml]; exact LV.entry hfit hl0) hM va_S.rf
theorem pw_iconst {Γ : CX} {G : GC} {Z : State → Prop} {i : MI} {T : List ExceptionTableEntry} {mc ms pc q k n : Nat} {ls : LL} {st : List Value} {M : PH} {z : Int} {v : Int32} (C : Cx Γ G i T mc ms) (d : decode i.2.1 pc = .ok (.iconst z, 1)) (hv : Int32.ofInt z = v) (hq : pc + 1 = q) (K : PW Γ G Z q ls (.int v :: st) M k n) : PW Γ G Z pc ls st M k n := by
  obtain ⟨p, l, e, R, s, m, args, below, meth, c⟩ := Γ
  obtain ⟨hx, hb, hml, hown, hts, hret, hlocks, hname, htr, hT, hK, hRf, hRl, hRc, hRs⟩ := C
  subst hq
  intro A H locs hl hM hS
  exact lv_iconst hx hb d hv (K A H locs hl hM hS)
theorem pw_bipush {Γ : CX} {G : GC} {Z : State → Prop} {i : MI} {T : List ExceptionTableEntry} {mc ms pc q k n : Nat} {ls : LL} {st : List Value} {M : PH} {z : Int} {v : Int32} (C : Cx Γ G i T mc ms) (d : decode i.2.1 pc = .ok (.bipush z, 2)) (hv : (Int8.ofInt z).toInt32 = v) (hq : pc + 2 = q) (K : PW Γ G Z q ls (.int v :: st) M k n) : PW Γ G Z pc ls st M k n := by
  obtain ⟨p, l, e, R, s, m, args, below, meth, c⟩ := Γ
  obtain ⟨hx, hb, hml, hown, hts, hret, hlocks, hname, htr, hT, hK, hRf, hRl, hRc, hRs⟩ := C
  subst hq
  intro A H locs hl hM hS
  exact lv_bipush hx hb d hv (K A H locs hl hM hS)
theorem pw_sipush {Γ : CX} {G : GC} {Z : State → Prop} {i : MI} {T : List ExceptionTableEntry} {mc ms pc q k n : Nat} {ls : LL} {st : List Value} {M : PH} {z : Int} {v : Int32} (C : Cx Γ G i T mc ms) (d : decode i.2.1 pc = .ok (.sipush z, 3)) (hv : (Int16.ofInt z).toInt32 = v) (hq : pc + 3 = q) (K : PW Γ G Z q ls (.int v :: st) M k n) : PW Γ G Z pc ls st M k n := by
  obtain ⟨p, l, e, R, s, m, args, below, meth, c⟩ := Γ
  obtain ⟨hx, hb, hml, hown, hts, hret, hlocks, hname, htr, hT, hK, hRf, hRl, hRc, hRs⟩ := C
  subst hq
  intro A H locs hl hM hS
  exact lv_sipush hx hb d hv (K A H locs hl hM hS)
theorem pw_lconst {Γ : CX} {G : GC} {Z : State → Prop} {i : MI} {T : List ExceptionTableEntry} {mc ms pc q k n : Nat} {ls : LL} {st : List Value} {M : PH} {z : Fin 2} {v : Int64} (C : Cx Γ G i T mc ms) (d : decode i.2.1 pc = .ok (.lconst z, 1)) (hv : Int64.ofNat (z : Nat) = v) (hq : pc + 1 = q) (K : PW Γ G Z q ls (.long v :: st) M k n) : PW Γ G Z pc ls st M k n := by
  obtain ⟨p, l, e, R, s, m, args, below, meth, c⟩ := Γ
  obtain ⟨hx, hb, hml, hown, hts, hret, hlocks, hname, htr, hT, hK, hRf, hRl, hRc, hRs⟩ := C
  subst hq
  intro A H locs hl hM hS
  exact lv_lconst hx hb d hv (K A H locs hl hM hS)
theorem pw_iload_n {Γ : CX} {G : GC} {Z : State → Prop} {i : MI} {T : List ExceptionTableEntry} {mc ms pc q k n : Nat} {ls : LL} {st : List Value} {M : PH} {z : Fin 4} {j : Nat} {x : Int32} (C : Cx Γ G i T mc ms) (d : decode i.2.1 pc = .ok (.iload_n z, 1)) (hj : (z : Nat) = j) (hk : lk ls j = some (.int x)) (hq : pc + 1 = q) (K : PW Γ G Z q ls (.int x :: st) M k n) : PW Γ G Z pc ls st M k n := by
  obtain ⟨p, l, e, R, s, m, args, below, meth, c⟩ := Γ
  obtain ⟨hx, hb, hml, hown, hts, hret, hlocks, hname, htr, hT, hK, hRf, hRl, hRc, hRs⟩ := C
  subst hq
  intro A H locs hl hM hS
  exact lv_iload_n hx hb d hj (hl.at hk) (K A H locs hl hM hS)
theorem pw_iload {Γ : CX} {G : GC} {Z : State → Prop} {i : MI} {T : List ExceptionTableEntry} {mc ms pc q k n : Nat} {ls : LL} {st : List Value} {M : PH} {j : Nat} {x : Int32} (C : Cx Γ G i T mc ms) (d : decode i.2.1 pc = .ok (.iload j, 2)) (hk : lk ls j = some (.int x)) (hq : pc + 2 = q) (K : PW Γ G Z q ls (.int x :: st) M k n) : PW Γ G Z pc ls st M k n := by
  obtain ⟨p, l, e, R, s, m, args, below, meth, c⟩ := Γ
  obtain ⟨hx, hb, hml, hown, hts, hret, hlocks, hname, htr, hT, hK, hRf, hRl, hRc, hRs⟩ := C
  subst hq
  intro A H locs hl hM hS
  exact lv_iload hx hb d (hl.at hk) (K A H locs hl hM hS)
theorem pw_istore_n {Γ : CX} {G : GC} {Z : State → Prop} {i : MI} {T : List ExceptionTableEntry} {mc ms pc q k n : Nat} {ls : LL} {st : List Value} {M : PH} {z : Fin 4} {j : Nat} {x : Int32} (C : Cx Γ G i T mc ms) (d : decode i.2.1 pc = .ok (.istore_n z, 1)) (hj : (z : Nat) = j) (hok : okst ls j = true) (hi : j < i.2.2.1) (hq : pc + 1 = q) (K : PW Γ G Z q (lset ls j (some (.int x))) st M k n) : PW Γ G Z pc ls (.int x :: st) M k n := by
  obtain ⟨p, l, e, R, s, m, args, below, meth, c⟩ := Γ
  obtain ⟨hx, hb, hml, hown, hts, hret, hlocks, hname, htr, hT, hK, hRf, hRl, hRc, hRs⟩ := C
  subst hq
  intro A H locs hl hM hS
  exact lv_istore_n hx hb d hj hl.has (by rw [hml]; exact hi) rfl fun B hB => K B H locs (hl.st1 hok (by rw [hml]; exact hi) hB) hM hS
theorem pw_istore {Γ : CX} {G : GC} {Z : State → Prop} {i : MI} {T : List ExceptionTableEntry} {mc ms pc q k n : Nat} {ls : LL} {st : List Value} {M : PH} {j : Nat} {x : Int32} (C : Cx Γ G i T mc ms) (d : decode i.2.1 pc = .ok (.istore j, 2))  (hok : okst ls j = true) (hi : j < i.2.2.1) (hq : pc + 2 = q) (K : PW Γ G Z q (lset ls j (some (.int x))) st M k n) : PW Γ G Z pc ls (.int x :: st) M k n := by
  obtain ⟨p, l, e, R, s, m, args, below, meth, c⟩ := Γ
  obtain ⟨hx, hb, hml, hown, hts, hret, hlocks, hname, htr, hT, hK, hRf, hRl, hRc, hRs⟩ := C
  subst hq
  intro A H locs hl hM hS
  exact lv_istore hx hb d  hl.has (by rw [hml]; exact hi) rfl fun B hB => K B H locs (hl.st1 hok (by rw [hml]; exact hi) hB) hM hS
theorem pw_lload_n {Γ : CX} {G : GC} {Z : State → Prop} {i : MI} {T : List ExceptionTableEntry} {mc ms pc q k n : Nat} {ls : LL} {st : List Value} {M : PH} {z : Fin 4} {j : Nat} {x : Int64} (C : Cx Γ G i T mc ms) (d : decode i.2.1 pc = .ok (.lload_n z, 1)) (hj : (z : Nat) = j) (hk : lk ls j = some (.long x)) (hq : pc + 1 = q) (K : PW Γ G Z q ls (.long x :: st) M k n) : PW Γ G Z pc ls st M k n := by
  obtain ⟨p, l, e, R, s, m, args, below, meth, c⟩ := Γ
  obtain ⟨hx, hb, hml, hown, hts, hret, hlocks, hname, htr, hT, hK, hRf, hRl, hRc, hRs⟩ := C
  subst hq
  intro A H locs hl hM hS
  exact lv_lload_n hx hb d hj (hl.at hk) (K A H locs hl hM hS)
theorem pw_lload {Γ : CX} {G : GC} {Z : State → Prop} {i : MI} {T : List ExceptionTableEntry} {mc ms pc q k n : Nat} {ls : LL} {st : List Value} {M : PH} {j : Nat} {x : Int64} (C : Cx Γ G i T mc ms) (d : decode i.2.1 pc = .ok (.lload j, 2)) (hk : lk ls j = some (.long x)) (hq : pc + 2 = q) (K : PW Γ G Z q ls (.long x :: st) M k n) : PW Γ G Z pc ls st M k n := by
  obtain ⟨p, l, e, R, s, m, args, below, meth, c⟩ := Γ
  obtain ⟨hx, hb, hml, hown, hts, hret, hlocks, hname, htr, hT, hK, hRf, hRl, hRc, hRs⟩ := C
  subst hq
  intro A H locs hl hM hS
  exact lv_lload hx hb d (hl.at hk) (K A H locs hl hM hS)
theorem pw_lstore_n {Γ : CX} {G : GC} {Z : State → Prop} {i : MI} {T : List ExceptionTableEntry} {mc ms pc q k n : Nat} {ls : LL} {st : List Value} {M : PH} {z : Fin 4} {j : Nat} {x : Int64} (C : Cx Γ G i T mc ms) (d : decode i.2.1 pc = .ok (.lstore_n z, 1)) (hj : (z : Nat) = j) (hok : okst ls j = true) (hi : j + 1 < i.2.2.1) (hq : pc + 1 = q) (K : PW Γ G Z q (lset (lset ls j (some (.long x))) (j + 1) none) st M k n) : PW Γ G Z pc ls (.long x :: st) M k n := by
  obtain ⟨p, l, e, R, s, m, args, below, meth, c⟩ := Γ
  obtain ⟨hx, hb, hml, hown, hts, hret, hlocks, hname, htr, hT, hK, hRf, hRl, hRc, hRs⟩ := C
  subst hq
  intro A H locs hl hM hS
  exact lv_lstore_n hx hb d hj hl.has (by rw [hml]; exact hi) rfl fun B hB => K B H locs (hl.st2 hok (by rw [hml]; exact hi) hB) hM hS
theorem pw_lstore {Γ : CX} {G : GC} {Z : State → Prop} {i : MI} {T : List ExceptionTableEntry} {mc ms pc q k n : Nat} {ls : LL} {st : List Value} {M : PH} {j : Nat} {x : Int64} (C : Cx Γ G i T mc ms) (d : decode i.2.1 pc = .ok (.lstore j, 2))  (hok : okst ls j = true) (hi : j + 1 < i.2.2.1) (hq : pc + 2 = q) (K : PW Γ G Z q (lset (lset ls j (some (.long x))) (j + 1) none) st M k n) : PW Γ G Z pc ls (.long x :: st) M k n := by
  obtain ⟨p, l, e, R, s, m, args, below, meth, c⟩ := Γ
  obtain ⟨hx, hb, hml, hown, hts, hret, hlocks, hname, htr, hT, hK, hRf, hRl, hRc, hRs⟩ := C
  subst hq
  intro A H locs hl hM hS
  exact lv_lstore hx hb d  hl.has (by rw [hml]; exact hi) rfl fun B hB => K B H locs (hl.st2 hok (by rw [hml]; exact hi) hB) hM hS
theorem pw_aload_n {Γ : CX} {G : GC} {Z : State → Prop} {i : MI} {T : List ExceptionTableEntry} {mc ms pc q k n : Nat} {ls : LL} {st : List Value} {M : PH} {z : Fin 4} {j : Nat} {x : Nat} (C : Cx Γ G i T mc ms) (d : decode i.2.1 pc = .ok (.aload_n z, 1)) (hj : (z : Nat) = j) (hk : lk ls j = some (.ref x)) (hq : pc + 1 = q) (K : PW Γ G Z q ls (.ref x :: st) M k n) : PW Γ G Z pc ls st M k n := by
  obtain ⟨p, l, e, R, s, m, args, below, meth, c⟩ := Γ
  obtain ⟨hx, hb, hml, hown, hts, hret, hlocks, hname, htr, hT, hK, hRf, hRl, hRc, hRs⟩ := C
  subst hq
  intro A H locs hl hM hS
  exact lv_aload_n hx hb d hj (hl.at hk) (K A H locs hl hM hS)
theorem pw_aload {Γ : CX} {G : GC} {Z : State → Prop} {i : MI} {T : List ExceptionTableEntry} {mc ms pc q k n : Nat} {ls : LL} {st : List Value} {M : PH} {j : Nat} {x : Nat} (C : Cx Γ G i T mc ms) (d : decode i.2.1 pc = .ok (.aload j, 2)) (hk : lk ls j = some (.ref x)) (hq : pc + 2 = q) (K : PW Γ G Z q ls (.ref x :: st) M k n) : PW Γ G Z pc ls st M k n := by
  obtain ⟨p, l, e, R, s, m, args, below, meth, c⟩ := Γ
  obtain ⟨hx, hb, hml, hown, hts, hret, hlocks, hname, htr, hT, hK, hRf, hRl, hRc, hRs⟩ := C
  subst hq
  intro A H locs hl hM hS
  exact lv_aload hx hb d (hl.at hk) (K A H locs hl hM hS)
theorem pw_astore_n {Γ : CX} {G : GC} {Z : State → Prop} {i : MI} {T : List ExceptionTableEntry} {mc ms pc q k n : Nat} {ls : LL} {st : List Value} {M : PH} {z : Fin 4} {j : Nat} {x : Nat} (C : Cx Γ G i T mc ms) (d : decode i.2.1 pc = .ok (.astore_n z, 1)) (hj : (z : Nat) = j) (hok : okst ls j = true) (hi : j < i.2.2.1) (hq : pc + 1 = q) (K : PW Γ G Z q (lset ls j (some (.ref x))) st M k n) : PW Γ G Z pc ls (.ref x :: st) M k n := by
  obtain ⟨p, l, e, R, s, m, args, below, meth, c⟩ := Γ
  obtain ⟨hx, hb, hml, hown, hts, hret, hlocks, hname, htr, hT, hK, hRf, hRl, hRc, hRs⟩ := C
  subst hq
  intro A H locs hl hM hS
  exact lv_astore_n hx hb d hj hl.has (by rw [hml]; exact hi) rfl fun B hB => K B H locs (hl.st1 hok (by rw [hml]; exact hi) hB) hM hS
theorem pw_astore {Γ : CX} {G : GC} {Z : State → Prop} {i : MI} {T : List ExceptionTableEntry} {mc ms pc q k n : Nat} {ls : LL} {st : List Value} {M : PH} {j : Nat} {x : Nat} (C : Cx Γ G i T mc ms) (d : decode i.2.1 pc = .ok (.astore j, 2))  (hok : okst ls j = true) (hi : j < i.2.2.1) (hq : pc + 2 = q) (K : PW Γ G Z q (lset ls j (some (.ref x))) st M k n) : PW Γ G Z pc ls (.ref x :: st) M k n := by
  obtain ⟨p, l, e, R, s, m, args, below, meth, c⟩ := Γ
  obtain ⟨hx, hb, hml, hown, hts, hret, hlocks, hname, htr, hT, hK, hRf, hRl, hRc, hRs⟩ := C
  subst hq
  intro A H locs hl hM hS
  exact lv_astore hx hb d  hl.has (by rw [hml]; exact hi) rfl fun B hB => K B H locs (hl.st1 hok (by rw [hml]; exact hi) hB) hM hS
theorem pw_iinc {Γ : CX} {G : GC} {Z : State → Prop} {i : MI} {T : List ExceptionTableEntry} {mc ms pc q k n : Nat} {ls : LL} {st : List Value} {M : PH} {j : Nat} {z : Int} {x v : Int32} (C : Cx Γ G i T mc ms) (d : decode i.2.1 pc = .ok (.iinc j z, 3)) (hk : lk ls j = some (.int x)) (hv : x + Int32.ofInt z = v) (hok : okst ls j = true) (hi : j < i.2.2.1) (hq : pc + 3 = q) (K : PW Γ G Z q (lset ls j (some (.int v))) st M k n) : PW Γ G Z pc ls st M k n := by
  obtain ⟨p, l, e, R, s, m, args, below, meth, c⟩ := Γ
  obtain ⟨hx, hb, hml, hown, hts, hret, hlocks, hname, htr, hT, hK, hRf, hRl, hRc, hRs⟩ := C
  subst hq
  intro A H locs hl hM hS
  obtain ⟨k0, hk0⟩ := List.getElem?_of_mem (mem_lasc.mpr hk)
  exact lv_iinc hx hb d hl.has hk0 hv (by rw [hml]; exact hi) rfl fun B hB => K B H locs (hl.st1 hok (by rw [hml]; exact hi) hB) hM hS
theorem pw_iadd {Γ : CX} {G : GC} {Z : State → Prop} {i : MI} {T : List ExceptionTableEntry} {mc ms pc q k n : Nat} {ls : LL} {st : List Value} {M : PH} {x y : Int32} (C : Cx Γ G i T mc ms) (d : decode i.2.1 pc = .ok (.iadd, 1))  (hq : pc + 1 = q) (K : PW Γ G Z q ls (.int (x + y) :: st) M k n) : PW Γ G Z pc ls (.int y :: .int x :: st) M k n := by
  obtain ⟨p, l, e, R, s, m, args, below, meth, c⟩ := Γ
  obtain ⟨hx, hb, hml, hown, hts, hret, hlocks, hname, htr, hT, hK, hRf, hRl, hRc, hRs⟩ := C
  subst hq
  intro A H locs hl hM hS
  exact lv_iadd hx hb d  (K A H locs hl hM hS)
theorem pw_ladd {Γ : CX} {G : GC} {Z : State → Prop} {i : MI} {T : List ExceptionTableEntry} {mc ms pc q k n : Nat} {ls : LL} {st : List Value} {M : PH} {x y : Int64} (C : Cx Γ G i T mc ms) (d : decode i.2.1 pc = .ok (.ladd, 1))  (hq : pc + 1 = q) (K : PW Γ G Z q ls (.long (x + y) :: st) M k n) : PW Γ G Z pc ls (.long y :: .long x :: st) M k n := by
  obtain ⟨p, l, e, R, s, m, args, below, meth, c⟩ := Γ
  obtain ⟨hx, hb, hml, hown, hts, hret, hlocks, hname, htr, hT, hK, hRf, hRl, hRc, hRs⟩ := C
  subst hq
  intro A H locs hl hM hS
  exact lv_ladd hx hb d  (K A H locs hl hM hS)
theorem pw_isub {Γ : CX} {G : GC} {Z : State → Prop} {i : MI} {T : List ExceptionTableEntry} {mc ms pc q k n : Nat} {ls : LL} {st : List Value} {M : PH} {x y : Int32} (C : Cx Γ G i T mc ms) (d : decode i.2.1 pc = .ok (.isub, 1))  (hq : pc + 1 = q) (K : PW Γ G Z q ls (.int (x - y) :: st) M k n) : PW Γ G Z pc ls (.int y :: .int x :: st) M k n := by
  obtain ⟨p, l, e, R, s, m, args, below, meth, c⟩ := Γ
  obtain ⟨hx, hb, hml, hown, hts, hret, hlocks, hname, htr, hT, hK, hRf, hRl, hRc, hRs⟩ := C
  subst hq
  intro A H locs hl hM hS
  exact lv_isub hx hb d  (K A H locs hl hM hS)
theorem pw_lsub {Γ : CX} {G : GC} {Z : State → Prop} {i : MI} {T : List ExceptionTableEntry} {mc ms pc q k n : Nat} {ls : LL} {st : List Value} {M : PH} {x y : Int64} (C : Cx Γ G i T mc ms) (d : decode i.2.1 pc = .ok (.lsub, 1))  (hq : pc + 1 = q) (K : PW Γ G Z q ls (.long (x - y) :: st) M k n) : PW Γ G Z pc ls (.long y :: .long x :: st) M k n := by
  obtain ⟨p, l, e, R, s, m, args, below, meth, c⟩ := Γ
  obtain ⟨hx, hb, hml, hown, hts, hret, hlocks, hname, htr, hT, hK, hRf, hRl, hRc, hRs⟩ := C
  subst hq
  intro A H locs hl hM hS
  exact lv_lsub hx hb d  (K A H locs hl hM hS)
theorem pw_imul {Γ : CX} {G : GC} {Z : State → Prop} {i : MI} {T : List ExceptionTableEntry} {mc ms pc q k n : Nat} {ls : LL} {st : List Value} {M : PH} {x y : Int32} (C : Cx Γ G i T mc ms) (d : decode i.2.1 pc = .ok (.imul, 1))  (hq : pc + 1 = q) (K : PW Γ G Z q ls (.int (x * y) :: st) M k n) : PW Γ G Z pc ls (.int y :: .int x :: st) M k n := by
  obtain ⟨p, l, e, R, s, m, args, below, meth, c⟩ := Γ
  obtain ⟨hx, hb, hml, hown, hts, hret, hlocks, hname, htr, hT, hK, hRf, hRl, hRc, hRs⟩ := C
  subst hq
  intro A H locs hl hM hS
  exact lv_imul hx hb d  (K A H locs hl hM hS)
theorem pw_lmul {Γ : CX} {G : GC} {Z : State → Prop} {i : MI} {T : List ExceptionTableEntry} {mc ms pc q k n : Nat} {ls : LL} {st : List Value} {M : PH} {x y : Int64} (C : Cx Γ G i T mc ms) (d : decode i.2.1 pc = .ok (.lmul, 1))  (hq : pc + 1 = q) (K : PW Γ G Z q ls (.long (x * y) :: st) M k n) : PW Γ G Z pc ls (.long y :: .long x :: st) M k n := by
  obtain ⟨p, l, e, R, s, m, args, below, meth, c⟩ := Γ
  obtain ⟨hx, hb, hml, hown, hts, hret, hlocks, hname, htr, hT, hK, hRf, hRl, hRc, hRs⟩ := C
  subst hq
  intro A H locs hl hM hS
  exact lv_lmul hx hb d  (K A H locs hl hM hS)
theorem pw_iand {Γ : CX} {G : GC} {Z : State → Prop} {i : MI} {T : List ExceptionTableEntry} {mc ms pc q k n : Nat} {ls : LL} {st : List Value} {M : PH} {x y : Int32} (C : Cx Γ G i T mc ms) (d : decode i.2.1 pc = .ok (.iand, 1))  (hq : pc + 1 = q) (K : PW Γ G Z q ls (.int (x &&& y) :: st) M k n) : PW Γ G Z pc ls (.int y :: .int x :: st) M k n := by
  obtain ⟨p, l, e, R, s, m, args, below, meth, c⟩ := Γ
  obtain ⟨hx, hb, hml, hown, hts, hret, hlocks, hname, htr, hT, hK, hRf, hRl, hRc, hRs⟩ := C
  subst hq
  intro A H locs hl hM hS
  exact lv_iand hx hb d  (K A H locs hl hM hS)
theorem pw_land {Γ : CX} {G : GC} {Z : State → Prop} {i : MI} {T : List ExceptionTableEntry} {mc ms pc q k n : Nat} {ls : LL} {st : List Value} {M : PH} {x y : Int64} (C : Cx Γ G i T mc ms) (d : decode i.2.1 pc = .ok (.land, 1))  (hq : pc + 1 = q) (K : PW Γ G Z q ls (.long (x &&& y) :: st) M k n) : PW Γ G Z pc ls (.long y :: .long x :: st) M k n := by
  obtain ⟨p, l, e, R, s, m, args, below, meth, c⟩ := Γ
  obtain ⟨hx, hb, hml, hown, hts, hret, hlocks, hname, htr, hT, hK, hRf, hRl, hRc, hRs⟩ := C
  subst hq
  intro A H locs hl hM hS
  exact lv_land hx hb d  (K A H locs hl hM hS)
theorem pw_ior {Γ : CX} {G : GC} {Z : State → Prop} {i : MI} {T : List ExceptionTableEntry} {mc ms pc q k n : Nat} {ls : LL} {st : List Value} {M : PH} {x y : Int32} (C : Cx Γ G i T mc ms) (d : decode i.2.1 pc = .ok (.ior, 1))  (hq : pc + 1 = q) (K : PW Γ G Z q ls (.int (x ||| y) :: st) M k n) : PW Γ G Z pc ls (.int y :: .int x :: st) M k n := by
  obtain ⟨p, l, e, R, s, m, args, below, meth, c⟩ := Γ
  obtain ⟨hx, hb, hml, hown, hts, hret, hlocks, hname, htr, hT, hK, hRf, hRl, hRc, hRs⟩ := C
  subst hq
  intro A H locs hl hM hS
  exact lv_ior hx hb d  (K A H locs hl hM hS)
theorem pw_lor {Γ : CX} {G : GC} {Z : State → Prop} {i : MI} {T : List ExceptionTableEntry} {mc ms pc q k n : Nat} {ls : LL} {st : List Value} {M : PH} {x y : Int64} (C : Cx Γ G i T mc ms) (d : decode i.2.1 pc = .ok (.lor, 1))  (hq : pc + 1 = q) (K : PW Γ G Z q ls (.long (x ||| y) :: st) M k n) : PW Γ G Z pc ls (.long y :: .long x :: st) M k n := by
  obtain ⟨p, l, e, R, s, m, args, below, meth, c⟩ := Γ
  obtain ⟨hx, hb, hml, hown, hts, hret, hlocks, hname, htr, hT, hK, hRf, hRl, hRc, hRs⟩ := C
  subst hq
  intro A H locs hl hM hS
  exact lv_lor hx hb d  (K A H locs hl hM hS)
theorem pw_ineg {Γ : CX} {G : GC} {Z : State → Prop} {i : MI} {T : List ExceptionTableEntry} {mc ms pc q k n : Nat} {ls : LL} {st : List Value} {M : PH} {x : Int32} (C : Cx Γ G i T mc ms) (d : decode i.2.1 pc = .ok (.ineg, 1))  (hq : pc + 1 = q) (K : PW Γ G Z q ls (.int (-x) :: st) M k n) : PW Γ G Z pc ls (.int x :: st) M k n := by
  obtain ⟨p, l, e, R, s, m, args, below, meth, c⟩ := Γ
  obtain ⟨hx, hb, hml, hown, hts, hret, hlocks, hname, htr, hT, hK, hRf, hRl, hRc, hRs⟩ := C
  subst hq
  intro A H locs hl hM hS
  exact lv_ineg hx hb d  (K A H locs hl hM hS)
theorem pw_idiv {Γ : CX} {G : GC} {Z : State → Prop} {i : MI} {T : List ExceptionTableEntry} {mc ms pc q k n : Nat} {ls : LL} {st : List Value} {M : PH} {x y : Int32} (C : Cx Γ G i T mc ms) (d : decode i.2.1 pc = .ok (.idiv, 1)) (hne : ¬ y = 0) (hq : pc + 1 = q) (K : PW Γ G Z q ls (.int (x / y) :: st) M k n) : PW Γ G Z pc ls (.int y :: .int x :: st) M k n := by
  obtain ⟨p, l, e, R, s, m, args, below, meth, c⟩ := Γ
  obtain ⟨hx, hb, hml, hown, hts, hret, hlocks, hname, htr, hT, hK, hRf, hRl, hRc, hRs⟩ := C
  subst hq
  intro A H locs hl hM hS
  exact lv_idiv hx hb d hne (K A H locs hl hM hS)
theorem pw_irem {Γ : CX} {G : GC} {Z : State → Prop} {i : MI} {T : List ExceptionTableEntry} {mc ms pc q k n : Nat} {ls : LL} {st : List Value} {M : PH} {x y : Int32} (C : Cx Γ G i T mc ms) (d : decode i.2.1 pc = .ok (.irem, 1)) (hne : ¬ y = 0) (hq : pc + 1 = q) (K : PW Γ G Z q ls (.int (x - (x / y) * y) :: st) M k n) : PW Γ G Z pc ls (.int y :: .int x :: st) M k n := by
  obtain ⟨p, l, e, R, s, m, args, below, meth, c⟩ := Γ
  obtain ⟨hx, hb, hml, hown, hts, hret, hlocks, hname, htr, hT, hK, hRf, hRl, hRc, hRs⟩ := C
  subst hq
  intro A H locs hl hM hS
  exact lv_irem hx hb d hne (K A H locs hl hM hS)
theorem pw_ldiv {Γ : CX} {G : GC} {Z : State → Prop} {i : MI} {T : List ExceptionTableEntry} {mc ms pc q k n : Nat} {ls : LL} {st : List Value} {M : PH} {x y : Int64} (C : Cx Γ G i T mc ms) (d : decode i.2.1 pc = .ok (.ldiv, 1)) (hne : ¬ y = 0) (hq : pc + 1 = q) (K : PW Γ G Z q ls (.long (x / y) :: st) M k n) : PW Γ G Z pc ls (.long y :: .long x :: st) M k n := by
  obtain ⟨p, l, e, R, s, m, args, below, meth, c⟩ := Γ
  obtain ⟨hx, hb, hml, hown, hts, hret, hlocks, hname, htr, hT, hK, hRf, hRl, hRc, hRs⟩ := C
  subst hq
  intro A H locs hl hM hS
  exact lv_ldiv hx hb d hne (K A H locs hl hM hS)
theorem pw_lrem {Γ : CX} {G : GC} {Z : State → Prop} {i : MI} {T : List ExceptionTableEntry} {mc ms pc q k n : Nat} {ls : LL} {st : List Value} {M : PH} {x y : Int64} (C : Cx Γ G i T mc ms) (d : decode i.2.1 pc = .ok (.lrem, 1)) (hne : ¬ y = 0) (hq : pc + 1 = q) (K : PW Γ G Z q ls (.long (x - (x / y) * y) :: st) M k n) : PW Γ G Z pc ls (.long y :: .long x :: st) M k n := by
  obtain ⟨p, l, e, R, s, m, args, below, meth, c⟩ := Γ
  obtain ⟨hx, hb, hml, hown, hts, hret, hlocks, hname, htr, hT, hK, hRf, hRl, hRc, hRs⟩ := C
  subst hq
  intro A H locs hl hM hS
  exact lv_lrem hx hb d hne (K A H locs hl hM hS)
theorem pw_i2l {Γ : CX} {G : GC} {Z : State → Prop} {i : MI} {T : List ExceptionTableEntry} {mc ms pc q k n : Nat} {ls : LL} {st : List Value} {M : PH} {x : Int32} (C : Cx Γ G i T mc ms) (d : decode i.2.1 pc = .ok (.i2l, 1))  (hq : pc + 1 = q) (K : PW Γ G Z q ls (.long x.toInt64 :: st) M k n) : PW Γ G Z pc ls (.int x :: st) M k n := by
  obtain ⟨p, l, e, R, s, m, args, below, meth, c⟩ := Γ
  obtain ⟨hx, hb, hml, hown, hts, hret, hlocks, hname, htr, hT, hK, hRf, hRl, hRc, hRs⟩ := C
  subst hq
  intro A H locs hl hM hS
  exact lv_i2l hx hb d rfl (K A H locs hl hM hS)
theorem pw_l2i {Γ : CX} {G : GC} {Z : State → Prop} {i : MI} {T : List ExceptionTableEntry} {mc ms pc q k n : Nat} {ls : LL} {st : List Value} {M : PH} {x : Int64} (C : Cx Γ G i T mc ms) (d : decode i.2.1 pc = .ok (.l2i, 1))  (hq : pc + 1 = q) (K : PW Γ G Z q ls (.int x.toInt32 :: st) M k n) : PW Γ G Z pc ls (.long x :: st) M k n := by
  obtain ⟨p, l, e, R, s, m, args, below, meth, c⟩ := Γ
  obtain ⟨hx, hb, hml, hown, hts, hret, hlocks, hname, htr, hT, hK, hRf, hRl, hRc, hRs⟩ := C
  subst hq
  intro A H locs hl hM hS
  exact lv_l2i hx hb d rfl (K A H locs hl hM hS)
theorem pw_i2c {Γ : CX} {G : GC} {Z : State → Prop} {i : MI} {T : List ExceptionTableEntry} {mc ms pc q k n : Nat} {ls : LL} {st : List Value} {M : PH} {x : Int32} (C : Cx Γ G i T mc ms) (d : decode i.2.1 pc = .ok (.i2c, 1))  (hq : pc + 1 = q) (K : PW Γ G Z q ls (.int (x.toUInt32 % 65536).toInt32 :: st) M k n) : PW Γ G Z pc ls (.int x :: st) M k n := by
  obtain ⟨p, l, e, R, s, m, args, below, meth, c⟩ := Γ
  obtain ⟨hx, hb, hml, hown, hts, hret, hlocks, hname, htr, hT, hK, hRf, hRl, hRc, hRs⟩ := C
  subst hq
  intro A H locs hl hM hS
  exact lv_i2c hx hb d rfl (K A H locs hl hM hS)
theorem pw_lushr {Γ : CX} {G : GC} {Z : State → Prop} {i : MI} {T : List ExceptionTableEntry} {mc ms pc q k n : Nat} {ls : LL} {st : List Value} {M : PH} {x : Int64} {y : Int32} (C : Cx Γ G i T mc ms) (d : decode i.2.1 pc = .ok (.lushr, 1))  (hq : pc + 1 = q) (K : PW Γ G Z q ls (.long (x.toUInt64 >>> (y.toInt64.toUInt64 &&& Int64.toUInt64 63)).toInt64 :: st) M k n) : PW Γ G Z pc ls (.int y :: .long x :: st) M k n := by
  obtain ⟨p, l, e, R, s, m, args, below, meth, c⟩ := Γ
  obtain ⟨hx, hb, hml, hown, hts, hret, hlocks, hname, htr, hT, hK, hRf, hRl, hRc, hRs⟩ := C
  subst hq
  intro A H locs hl hM hS
  exact lv_lushr hx hb d rfl (K A H locs hl hM hS)
theorem pw_lshl {Γ : CX} {G : GC} {Z : State → Prop} {i : MI} {T : List ExceptionTableEntry} {mc ms pc q k n : Nat} {ls : LL} {st : List Value} {M : PH} {x : Int64} {y : Int32} (C : Cx Γ G i T mc ms) (d : decode i.2.1 pc = .ok (.lshl, 1))  (hq : pc + 1 = q) (K : PW Γ G Z q ls (.long (x <<< (y.toInt64 &&& 63)) :: st) M k n) : PW Γ G Z pc ls (.int y :: .long x :: st) M k n := by
  obtain ⟨p, l, e, R, s, m, args, below, meth, c⟩ := Γ
  obtain ⟨hx, hb, hml, hown, hts, hret, hlocks, hname, htr, hT, hK, hRf, hRl, hRc, hRs⟩ := C
  subst hq
  intro A H locs hl hM hS
  exact lv_lshl hx hb d rfl (K A H locs hl hM hS)
theorem pw_lcmp {Γ : CX} {G : GC} {Z : State → Prop} {i : MI} {T : List ExceptionTableEntry} {mc ms pc q k n : Nat} {ls : LL} {st : List Value} {M : PH} {x y : Int64} (C : Cx Γ G i T mc ms) (d : decode i.2.1 pc = .ok (.lcmp, 1))  (hq : pc + 1 = q) (K : PW Γ G Z q ls (.int (lg_cmp x y) :: st) M k n) : PW Γ G Z pc ls (.long y :: .long x :: st) M k n := by
  obtain ⟨p, l, e, R, s, m, args, below, meth, c⟩ := Γ
  obtain ⟨hx, hb, hml, hown, hts, hret, hlocks, hname, htr, hT, hK, hRf, hRl, hRc, hRs⟩ := C
  subst hq
  intro A H locs hl hM hS
  exact W.lcmp hx hb d  (K A H locs hl hM hS)
theorem pw_dup {Γ : CX} {G : GC} {Z : State → Prop} {i : MI} {T : List ExceptionTableEntry} {mc ms pc q k n : Nat} {ls : LL} {st : List Value} {M : PH} {va : Value} (C : Cx Γ G i T mc ms) (d : decode i.2.1 pc = .ok (.dup, 1)) (hva : va.category = 1) (hq : pc + 1 = q) (K : PW Γ G Z q ls (va :: va :: st) M k n) : PW Γ G Z pc ls (va :: st) M k n := by
  obtain ⟨p, l, e, R, s, m, args, below, meth, c⟩ := Γ
  obtain ⟨hx, hb, hml, hown, hts, hret, hlocks, hname, htr, hT, hK, hRf, hRl, hRc, hRs⟩ := C
  subst hq
  intro A H locs hl hM hS
  exact lv_dup hx hb d hva (K A H locs hl hM hS)
theorem pw_pop {Γ : CX} {G : GC} {Z : State → Prop} {i : MI} {T : List ExceptionTableEntry} {mc ms pc q k n : Nat} {ls : LL} {st : List Value} {M : PH} {va : Value} (C : Cx Γ G i T mc ms) (d : decode i.2.1 pc = .ok (.pop, 1)) (hva : va.category = 1) (hq : pc + 1 = q) (K : PW Γ G Z q ls st M k n) : PW Γ G Z pc ls (va :: st) M k n := by
  obtain ⟨p, l, e, R, s, m, args, below, meth, c⟩ := Γ
  obtain ⟨hx, hb, hml, hown, hts, hret, hlocks, hname, htr, hT, hK, hRf, hRl, hRc, hRs⟩ := C
  subst hq
  intro A H locs hl hM hS
  exact lv_pop hx hb d hva (K A H locs hl hM hS)
theorem pw_dup2 {Γ : CX} {G : GC} {Z : State → Prop} {i : MI} {T : List ExceptionTableEntry} {mc ms pc q k n : Nat} {ls : LL} {st : List Value} {M : PH} {va vb : Value} (C : Cx Γ G i T mc ms) (d : decode i.2.1 pc = .ok (.dup2, 1)) (hva : va.category = 1) (hvb : vb.category = 1) (hq : pc + 1 = q) (K : PW Γ G Z q ls (va :: vb :: va :: vb :: st) M k n) : PW Γ G Z pc ls (va :: vb :: st) M k n := by
  obtain ⟨p, l, e, R, s, m, args, below, meth, c⟩ := Γ
  obtain ⟨hx, hb, hml, hown, hts, hret, hlocks, hname, htr, hT, hK, hRf, hRl, hRc, hRs⟩ := C
  subst hq
  intro A H locs hl hM hS
  exact lv_dup2_11 hx hb d hva hvb (K A H locs hl hM hS)
theorem pw_if_eq {Γ : CX} {G : GC} {Z : State → Prop} {i : MI} {T : List ExceptionTableEntry} {mc ms pc q k n : Nat} {ls : LL} {st : List Value} {M : PH} {x : Int32} {off : Int} (tgt : Nat) (C : Cx Γ G i T mc ms) (d : decode i.2.1 pc = .ok (.ifCond .eq off, 3)) (ht : (pc : Int) + off = (tgt : Int)) (hq : pc + 3 = q) (Kt : x = 0 → PW Γ G Z tgt ls st M k n) (Kf : ¬ x = 0 → PW Γ G Z q ls st M k n) : PW Γ G Z pc ls (.int x :: st) M k n := by
  obtain ⟨p, l, e, R, s, m, args, below, meth, c⟩ := Γ
  obtain ⟨hx, hb, hml, hown, hts, hret, hlocks, hname, htr, hT, hK, hRf, hRl, hRc, hRs⟩ := C
  subst hq
  intro A H locs hl hM hS
  exact lv_if_eq hx hb d ht (fun h => Kt h A H locs hl hM hS) (fun h => Kf (by first | exact h | exact Decidable.not_not.mp h) A H locs hl hM hS)
theorem pw_icmp_eq {Γ : CX} {G : GC} {Z : State → Prop} {i : MI} {T : List ExceptionTableEntry} {mc ms pc q k n : Nat} {ls : LL} {st : List Value} {M : PH} {x y : Int32} {off : Int} (tgt : Nat) (C : Cx Γ G i T mc ms) (d : decode i.2.1 pc = .ok (.if_icmp .eq off, 3)) (ht : (pc : Int) + off = (tgt : Int)) (hq : pc + 3 = q) (Kt : x = y → PW Γ G Z tgt ls st M k n) (Kf : ¬ x = y → PW Γ G Z q ls st M k n) : PW Γ G Z pc ls (.int y :: .int x :: st) M k n := by
  obtain ⟨p, l, e, R, s, m, args, below, meth, c⟩ := Γ
  obtain ⟨hx, hb, hml, hown, hts, hret, hlocks, hname, htr, hT, hK, hRf, hRl, hRc, hRs⟩ := C
  subst hq
  intro A H locs hl hM hS
  exact lv_icmp_eq hx hb d ht (fun h => Kt h A H locs hl hM hS) (fun h => Kf (by first | exact h | exact Decidable.not_not.mp h) A H locs hl hM hS)
theorem pw_if_ne {Γ : CX} {G : GC} {Z : State → Prop} {i : MI} {T : List ExceptionTableEntry} {mc ms pc q k n : Nat} {ls : LL} {st : List Value} {M : PH} {x : Int32} {off : Int} (tgt : Nat) (C : Cx Γ G i T mc ms) (d : decode i.2.1 pc = .ok (.ifCond .ne off, 3)) (ht : (pc : Int) + off = (tgt : Int)) (hq : pc + 3 = q) (Kt : ¬ x = 0 → PW Γ G Z tgt ls st M k n) (Kf : x = 0 → PW Γ G Z q ls st M k n) : PW Γ G Z pc ls (.int x :: st) M k n := by
  obtain ⟨p, l, e, R, s, m, args, below, meth, c⟩ := Γ
  obtain ⟨hx, hb, hml, hown, hts, hret, hlocks, hname, htr, hT, hK, hRf, hRl, hRc, hRs⟩ := C
  subst hq
  intro A H locs hl hM hS
  exact lv_if_ne hx hb d ht (fun h => Kt h A H locs hl hM hS) (fun h => Kf (by first | exact h | exact Decidable.not_not.mp h) A H locs hl hM hS)
theorem pw_icmp_ne {Γ : CX} {G : GC} {Z : State → Prop} {i : MI} {T : List ExceptionTableEntry} {mc ms pc q k n : Nat} {ls : LL} {st : List Value} {M : PH} {x y : Int32} {off : Int} (tgt : Nat) (C : Cx Γ G i T mc ms) (d : decode i.2.1 pc = .ok (.if_icmp .ne off, 3)) (ht : (pc : Int) + off = (tgt : Int)) (hq : pc + 3 = q) (Kt : ¬ x = y → PW Γ G Z tgt ls st M k n) (Kf : x = y → PW Γ G Z q ls st M k n) : PW Γ G Z pc ls (.int y :: .int x :: st) M k n := by
  obtain ⟨p, l, e, R, s, m, args, below, meth, c⟩ := Γ
  obtain ⟨hx, hb, hml, hown, hts, hret, hlocks, hname, htr, hT, hK, hRf, hRl, hRc, hRs⟩ := C
  subst hq
  intro A H locs hl hM hS
  exact lv_icmp_ne hx hb d ht (fun h => Kt h A H locs hl hM hS) (fun h => Kf (by first | exact h | exact Decidable.not_not.mp h) A H locs hl hM hS)
theorem pw_if_lt {Γ : CX} {G : GC} {Z : State → Prop} {i : MI} {T : List ExceptionTableEntry} {mc ms pc q k n : Nat} {ls : LL} {st : List Value} {M : PH} {x : Int32} {off : Int} (tgt : Nat) (C : Cx Γ G i T mc ms) (d : decode i.2.1 pc = .ok (.ifCond .lt off, 3)) (ht : (pc : Int) + off = (tgt : Int)) (hq : pc + 3 = q) (Kt : x < 0 → PW Γ G Z tgt ls st M k n) (Kf : ¬ x < 0 → PW Γ G Z q ls st M k n) : PW Γ G Z pc ls (.int x :: st) M k n := by
  obtain ⟨p, l, e, R, s, m, args, below, meth, c⟩ := Γ
  obtain ⟨hx, hb, hml, hown, hts, hret, hlocks, hname, htr, hT, hK, hRf, hRl, hRc, hRs⟩ := C
  subst hq
  intro A H locs hl hM hS
  exact lv_if_lt hx hb d ht (fun h => Kt h A H locs hl hM hS) (fun h => Kf (by first | exact h | exact Decidable.not_not.mp h) A H locs hl hM hS)
theorem pw_icmp_lt {Γ : CX} {G : GC} {Z : State → Prop} {i : MI} {T : List ExceptionTableEntry} {mc ms pc q k n : Nat} {ls : LL} {st : List Value} {M : PH} {x y : Int32} {off : Int} (tgt : Nat) (C : Cx Γ G i T mc ms) (d : decode i.2.1 pc = .ok (.if_icmp .lt off, 3)) (ht : (pc : Int) + off = (tgt : Int)) (hq : pc + 3 = q) (Kt : x < y → PW Γ G Z tgt ls st M k n) (Kf : ¬ x < y → PW Γ G Z q ls st M k n) : PW Γ G Z pc ls (.int y :: .int x :: st) M k n := by
  obtain ⟨p, l, e, R, s, m, args, below, meth, c⟩ := Γ
  obtain ⟨hx, hb, hml, hown, hts, hret, hlocks, hname, htr, hT, hK, hRf, hRl, hRc, hRs⟩ := C
  subst hq
  intro A H locs hl hM hS
  exact lv_icmp_lt hx hb d ht (fun h => Kt h A H locs hl hM hS) (fun h => Kf (by first | exact h | exact Decidable.not_not.mp h) A H locs hl hM hS)
theorem pw_if_ge {Γ : CX} {G : GC} {Z : State → Prop} {i : MI} {T : List ExceptionTableEntry} {mc ms pc q k n : Nat} {ls : LL} {st : List Value} {M : PH} {x : Int32} {off : Int} (tgt : Nat) (C : Cx Γ G i T mc ms) (d : decode i.2.1 pc = .ok (.ifCond .ge off, 3)) (ht : (pc : Int) + off = (tgt : Int)) (hq : pc + 3 = q) (Kt : 0 ≤ x → PW Γ G Z tgt ls st M k n) (Kf : ¬ 0 ≤ x → PW Γ G Z q ls st M k n) : PW Γ G Z pc ls (.int x :: st) M k n := by
  obtain ⟨p, l, e, R, s, m, args, below, meth, c⟩ := Γ
  obtain ⟨hx, hb, hml, hown, hts, hret, hlocks, hname, htr, hT, hK, hRf, hRl, hRc, hRs⟩ := C
  subst hq
  intro A H locs hl hM hS
  exact lv_if_ge hx hb d ht (fun h => Kt h A H locs hl hM hS) (fun h => Kf (by first | exact h | exact Decidable.not_not.mp h) A H locs hl hM hS)
theorem pw_icmp_ge {Γ : CX} {G : GC} {Z : State → Prop} {i : MI} {T : List ExceptionTableEntry} {mc ms pc q k n : Nat} {ls : LL} {st : List Value} {M : PH} {x y : Int32} {off : Int} (tgt : Nat) (C : Cx Γ G i T mc ms) (d : decode i.2.1 pc = .ok (.if_icmp .ge off, 3)) (ht : (pc : Int) + off = (tgt : Int)) (hq : pc + 3 = q) (Kt : y ≤ x → PW Γ G Z tgt ls st M k n) (Kf : ¬ y ≤ x → PW Γ G Z q ls st M k n) : PW Γ G Z pc ls (.int y :: .int x :: st) M k n := by
  obtain ⟨p, l, e, R, s, m, args, below, meth, c⟩ := Γ
  obtain ⟨hx, hb, hml, hown, hts, hret, hlocks, hname, htr, hT, hK, hRf, hRl, hRc, hRs⟩ := C
  subst hq
  intro A H locs hl hM hS
  exact lv_icmp_ge hx hb d ht (fun h => Kt h A H locs hl hM hS) (fun h => Kf (by first | exact h | exact Decidable.not_not.mp h) A H locs hl hM hS)
theorem pw_if_gt {Γ : CX} {G : GC} {Z : State → Prop} {i : MI} {T : List ExceptionTableEntry} {mc ms pc q k n : Nat} {ls : LL} {st : List Value} {M : PH} {x : Int32} {off : Int} (tgt : Nat) (C : Cx Γ G i T mc ms) (d : decode i.2.1 pc = .ok (.ifCond .gt off, 3)) (ht : (pc : Int) + off = (tgt : Int)) (hq : pc + 3 = q) (Kt : 0 < x → PW Γ G Z tgt ls st M k n) (Kf : ¬ 0 < x → PW Γ G Z q ls st M k n) : PW Γ G Z pc ls (.int x :: st) M k n := by
  obtain ⟨p, l, e, R, s, m, args, below, meth, c⟩ := Γ
  obtain ⟨hx, hb, hml, hown, hts, hret, hlocks, hname, htr, hT, hK, hRf, hRl, hRc, hRs⟩ := C
  subst hq
  intro A H locs hl hM hS
  exact lv_if_gt hx hb d ht (fun h => Kt h A H locs hl hM hS) (fun h => Kf (by first | exact h | exact Decidable.not_not.mp h) A H locs hl hM hS)
theorem pw_icmp_gt {Γ : CX} {G : GC} {Z : State → Prop} {i : MI} {T : List ExceptionTableEntry} {mc ms pc q k n : Nat} {ls : LL} {st : List Value} {M : PH} {x y : Int32} {off : Int} (tgt : Nat) (C : Cx Γ G i T mc ms) (d : decode i.2.1 pc = .ok (.if_icmp .gt off, 3)) (ht : (pc : Int) + off = (tgt : Int)) (hq : pc + 3 = q) (Kt : y < x → PW Γ G Z tgt ls st M k n) (Kf : ¬ y < x → PW Γ G Z q ls st M k n) : PW Γ G Z pc ls (.int y :: .int x :: st) M k n := by
  obtain ⟨p, l, e, R, s, m, args, below, meth, c⟩ := Γ
  obtain ⟨hx, hb, hml, hown, hts, hret, hlocks, hname, htr, hT, hK, hRf, hRl, hRc, hRs⟩ := C
  subst hq
  intro A H locs hl hM hS
  exact lv_icmp_gt hx hb d ht (fun h => Kt h A H locs hl hM hS) (fun h => Kf (by first | exact h | exact Decidable.not_not.mp h) A H locs hl hM hS)
theorem pw_if_le {Γ : CX} {G : GC} {Z : State → Prop} {i : MI} {T : List ExceptionTableEntry} {mc ms pc q k n : Nat} {ls : LL} {st : List Value} {M : PH} {x : Int32} {off : Int} (tgt : Nat) (C : Cx Γ G i T mc ms) (d : decode i.2.1 pc = .ok (.ifCond .le off, 3)) (ht : (pc : Int) + off = (tgt : Int)) (hq : pc + 3 = q) (Kt : x ≤ 0 → PW Γ G Z tgt ls st M k n) (Kf : ¬ x ≤ 0 → PW Γ G Z q ls st M k n) : PW Γ G Z pc ls (.int x :: st) M k n := by
  obtain ⟨p, l, e, R, s, m, args, below, meth, c⟩ := Γ
  obtain ⟨hx, hb, hml, hown, hts, hret, hlocks, hname, htr, hT, hK, hRf, hRl, hRc, hRs⟩ := C
  subst hq
  intro A H locs hl hM hS
  exact lv_if_le hx hb d ht (fun h => Kt h A H locs hl hM hS) (fun h => Kf (by first | exact h | exact Decidable.not_not.mp h) A H locs hl hM hS)
theorem pw_icmp_le {Γ : CX} {G : GC} {Z : State → Prop} {i : MI} {T : List ExceptionTableEntry} {mc ms pc q k n : Nat} {ls : LL} {st : List Value} {M : PH} {x y : Int32} {off : Int} (tgt : Nat) (C : Cx Γ G i T mc ms) (d : decode i.2.1 pc = .ok (.if_icmp .le off, 3)) (ht : (pc : Int) + off = (tgt : Int)) (hq : pc + 3 = q) (Kt : x ≤ y → PW Γ G Z tgt ls st M k n) (Kf : ¬ x ≤ y → PW Γ G Z q ls st M k n) : PW Γ G Z pc ls (.int y :: .int x :: st) M k n := by
  obtain ⟨p, l, e, R, s, m, args, below, meth, c⟩ := Γ
  obtain ⟨hx, hb, hml, hown, hts, hret, hlocks, hname, htr, hT, hK, hRf, hRl, hRc, hRs⟩ := C
  subst hq
  intro A H locs hl hM hS
  exact lv_icmp_le hx hb d ht (fun h => Kt h A H locs hl hM hS) (fun h => Kf (by first | exact h | exact Decidable.not_not.mp h) A H locs hl hM hS)
theorem pw_goto {Γ : CX} {G : GC} {Z : State → Prop} {i : MI} {T : List ExceptionTableEntry} {mc ms pc q k n : Nat} {ls : LL} {st : List Value} {M : PH} {off : Int} (tgt : Nat) (C : Cx Γ G i T mc ms) (d : decode i.2.1 pc = .ok (.goto off, 3)) (ht : (pc : Int) + off = (tgt : Int)) (K : PW Γ G Z tgt ls st M k n) : PW Γ G Z pc ls st M k n := by
  obtain ⟨p, l, e, R, s, m, args, below, meth, c⟩ := Γ
  obtain ⟨hx, hb, hml, hown, hts, hret, hlocks, hname, htr, hT, hK, hRf, hRl, hRc, hRs⟩ := C
  intro A H locs hl hM hS
  exact lv_goto hx hb d ht (K A H locs hl hM hS)
theorem pw_ifnull {Γ : CX} {G : GC} {Z : State → Prop} {i : MI} {T : List ExceptionTableEntry} {mc ms pc q k n : Nat} {ls : LL} {st : List Value} {M : PH} {off : Int} {a : Nat} (C : Cx Γ G i T mc ms) (d : decode i.2.1 pc = .ok (.ifnull off, 3)) (hq : pc + 3 = q) (K : PW Γ G Z q ls st M k n) : PW Γ G Z pc ls (.ref a :: st) M k n := by
  obtain ⟨p, l, e, R, s, m, args, below, meth, c⟩ := Γ
  obtain ⟨hx, hb, hml, hown, hts, hret, hlocks, hname, htr, hT, hK, hRf, hRl, hRc, hRs⟩ := C
  subst hq
  intro A H locs hl hM hS
  exact lv_ifnull hx hb d (K A H locs hl hM hS)
theorem pw_tableIn {Γ : CX} {G : GC} {Z : State → Prop} {i : MI} {T : List ExceptionTableEntry} {mc ms pc q k n : Nat} {ls : LL} {st : List Value} {M : PH} {dflt lo hi off : Int} {offs : Array Int} {len : Nat} {x : Int32} (tgt : Nat) (C : Cx Γ G i T mc ms) (d : decode i.2.1 pc = .ok (.tableswitch dflt lo hi offs, len)) (h1 : ¬ x.toInt < lo) (h2 : ¬ hi < x.toInt) (ho : offs[(x.toInt - lo).toNat]? = some off) (ht : (pc : Int) + off = (tgt : Int)) (K : PW Γ G Z tgt ls st M k n) : PW Γ G Z pc ls (.int x :: st) M k n := by
  obtain ⟨p, l, e, R, s, m, args, below, meth, c⟩ := Γ
  obtain ⟨hx, hb, hml, hown, hts, hret, hlocks, hname, htr, hT, hK, hRf, hRl, hRc, hRs⟩ := C
  intro A H locs hl hM hS
  exact lv_tableIn hx hb d h1 h2 ho ht (K A H locs hl hM hS)
theorem pw_tableOut {Γ : CX} {G : GC} {Z : State → Prop} {i : MI} {T : List ExceptionTableEntry} {mc ms pc q k n : Nat} {ls : LL} {st : List Value} {M : PH} {dflt lo hi : Int} {offs : Array Int} {len : Nat} {x : Int32} (tgt : Nat) (C : Cx Γ G i T mc ms) (d : decode i.2.1 pc = .ok (.tableswitch dflt lo hi offs, len)) (h : x.toInt < lo ∨ hi < x.toInt) (ht : (pc : Int) + dflt = (tgt : Int)) (K : PW Γ G Z tgt ls st M k n) : PW Γ G Z pc ls (.int x :: st) M k n := by
  obtain ⟨p, l, e, R, s, m, args, below, meth, c⟩ := Γ
  obtain ⟨hx, hb, hml, hown, hts, hret, hlocks, hname, htr, hT, hK, hRf, hRl, hRc, hRs⟩ := C
  intro A H locs hl hM hS
  exact lv_tableOut hx hb d h ht (K A H locs hl hM hS)
theorem pw_lookup {Γ : CX} {G : GC} {Z : State → Prop} {i : MI} {T : List ExceptionTableEntry} {mc ms pc q k n : Nat} {ls : LL} {st : List Value} {M : PH} {dflt off : Int} {ps : Array (Int × Int)} {len : Nat} {x : Int32} (tgt : Nat) (C : Cx Γ G i T mc ms) (d : decode i.2.1 pc = .ok (.lookupswitch dflt ps, len)) (hp : (ps.toList.zip (ps.toList.drop 1)).all (fun (a, next) => a.1 < next.1) = true) (ho : Op.lookupswitch.offset ps.toList dflt x.toInt = off) (ht : (pc : Int) + off = (tgt : Int)) (K : PW Γ G Z tgt ls st M k n) : PW Γ G Z pc ls (.int x :: st) M k n := by
  obtain ⟨p, l, e, R, s, m, args, below, meth, c⟩ := Γ
  obtain ⟨hx, hb, hml, hown, hts, hret, hlocks, hname, htr, hT, hK, hRf, hRl, hRc, hRs⟩ := C
  intro A H locs hl hM hS
  exact lv_lookup hx hb d hp ho ht (K A H locs hl hM hS)
theorem pw_ldc2 {Γ : CX} {G : GC} {Z : State → Prop} {i : MI} {T : List ExceptionTableEntry} {mc ms pc q k n : Nat} {ls : LL} {st : List Value} {M : PH} {idx : Nat} {v : Int64} (C : Cx Γ G i T mc ms) (d : decode i.2.1 pc = .ok (.ldc2_w idx, 3)) (hw : Cond.constantLong i.1.cls idx v ∈ GW) (hq : pc + 3 = q) (K : PW Γ G Z q ls (.long v :: st) M k n) : PW Γ G Z pc ls st M k n := by
  obtain ⟨p, l, e, R, s, m, args, below, meth, c⟩ := Γ
  obtain ⟨hx, hb, hml, hown, hts, hret, hlocks, hname, htr, hT, hK, hRf, hRl, hRc, hRs⟩ := C
  subst hq
  intro A H locs hl hM hS
  exact lv_ldc2 hx hb hown (hts _ hw) d  (K A H locs hl hM hS)
-- classes and fields
def KC (ci : Nat) (D : String) (T : u_T) (N : Nat) (ty : Nat → FieldType) : Prop := vwCl[ci]? = some (D, T, N) ∧ (∀ k, k < N → parseFieldDescriptor (T k).2.2.1 = some (ty k)) ∧ (∀ a, a < N → ∀ b, b < N → a ≠ b → (T a).2.1 ≠ (T b).2.1) ∧ ∀ x ∈ u_ws D T N, x ∈ GW
def FL (own : String) (idx ci kf : Nat) (ty : FieldType) (fin : Bool) : Prop := ∃ (D : String) (T : u_T) (N : Nat) (tf : Nat → FieldType), KC ci D T N tf ∧ kf < N ∧ Cond.fieldLink own idx (T kf).1 (T kf).2.1 (T kf).2.2.1 ∈ GW ∧ tf kf = ty ∧ (T kf).2.2.2 = fin ∧ (T kf).1 = D
def NC (own : String) (idx ci N : Nat) (fs : List Value) : Prop := ∃ (D : String) (T : u_T) (tf : Nat → FieldType), KC ci D T N tf ∧ Cond.classLink own idx D ∈ GW ∧ Cond.instantiable D N ∈ GW ∧ Cond.initialized D ∈ GW ∧ ∀ j, j < N → defaultValue (tf j) = vp_V fs j
theorem pw_getf {Γ : CX} {G : GC} {Z : State → Prop} {i : MI} {T : List ExceptionTableEntry} {mc ms pc q k n : Nat} {ls : LL} {st : List Value} {M : PH} {idx ci kf a : Nat} {ty : FieldType} {fin : Bool} {fs : List Value} {v : Value} (C : Cx Γ G i T mc ms) (d : decode i.2.1 pc = .ok (.getfield idx, 3)) (hf : FL i.1.cls idx ci kf ty fin) (hM0 : M.2 a = some (.inr (ci, fs))) (hv : fs[kf]? = some v) (hq : pc + 3 = q) (K : PW Γ G Z q ls (v :: st) M k n) : PW Γ G Z pc ls (.ref a :: st) M k n := by
  obtain ⟨p, l, e, R, s, m, args, below, meth, c⟩ := Γ
  obtain ⟨hx, hb, hml, hown, hts, hret, hlocks, hname, htr, hT, hK, hRf, hRl, hRc, hRs⟩ := C
  subst hq
  intro A H locs hl hM hS
  obtain ⟨D, T, N, tf, ⟨hc, hty, hnm, hin⟩, hk, hlink, -, -, -⟩ := hf
  exact va_get (ws := [(a, pmE G (.inr (ci, fs)))]) hx hb hts hin hown hK.1 (hM.P1 hM0) 0 rfl hc kf hk (hts _ hlink) (fun _ h9 => h9) hv d (K A H locs hl hM hS)
theorem pw_put {Γ : CX} {G : GC} {Z : State → Prop} {i : MI} {T : List ExceptionTableEntry} {mc ms pc q k n : Nat} {ls : LL} {st : List Value} {M : PH} {idx ci kf a : Nat} {ty : FieldType} {fs : List Value} {v : Value} (C : Cx Γ G i T mc ms) (d : decode i.2.1 pc = .ok (.putfield idx, 3)) (hf : FL i.1.cls idx ci kf ty false) (hM0 : M.2 a = some (.inr (ci, fs))) (hn : narrow ty v = v) (hfit : fits ty v = true) (hlen : kf < fs.length) (hq : pc + 3 = q) (K : PW Γ G Z q ls st (hput M a (.inr (ci, fs.set kf v))) k n) : PW Γ G Z pc ls (v :: .ref a :: st) M k n := by
  obtain ⟨p, l, e, R, s, m, args, below, meth, c⟩ := Γ
  obtain ⟨hx, hb, hml, hown, hts, hret, hlocks, hname, htr, hT, hK, hRf, hRl, hRc, hRs⟩ := C
  subst hq
  intro A H locs hl hM hS
  obtain ⟨D, T, N, tf, ⟨hc, hty, hnm, hin⟩, hk, hlink, htf, hfin, hdec⟩ := hf
  subst htf
  have hP := hM.P1 hM0
  have hap := va_apart (own := i.1.cls) hts hin tf hty hnm hK.1 hc
  obtain ⟨r, h1, cell, q1, q2, q3, q4⟩ := hP 0 _ rfl
  have hr : r = (D, T, N) := Option.some.inj (h1.symm.trans hc)
  subst hr
  obtain ⟨hS1, hfc, kC, hkC, hkind⟩ := hK.1.1 ci _ hc
  obtain ⟨cf, kf0, fi, f, hi, hsl⟩ := hS1 kf hk
  have hbase := (hM.2 a _ hM0).1
  have hlay := hts _ (hin _ (u_in_lay hk))
  unfold u_lay at hlay
  rw [if_neg (by rw [hfin]; decide)] at hlay
  have hst := (u_facts hfc hkC (u_lays hts hin hk) hi).1
  have h6 := u_store hfc hkC hkind hlay hi (hty kf hk) hn hfit
  refine W.putK hx hb (f := f) ⟨hown, hts _ hlink, ⟨_, _, _, hi⟩, hst⟩ (by rw [q2]; exact h6) q1 q3 (by rw [hsl]; exact k2_hasslot (q4 kf hk)) rfl rfl d fun H1 e1 e2 e3 => ?_
  rw [hsl] at e1 ⊢
  exact K A H1 _ hl (hM.put e2 e3 hbase ⟨_, hc, t_OB.to (V := updV (vp_V fs) kf v) ⟨_, e1, q2, q3, t_set q4 hap hk v⟩ (fun j _ => vp_updV_set hlen v j)⟩) (hS.put e2 e3 hbase)
theorem pw_putF {Γ : CX} {G : GC} {Z : State → Prop} {i : MI} {T : List ExceptionTableEntry} {mc ms pc q k n : Nat} {ls : LL} {st : List Value} {M : PH} {idx ci kf a : Nat} {ty : FieldType} {fs : List Value} {v : Value} (C : Cx Γ G i T mc ms) (d : decode i.2.1 pc = .ok (.putfield idx, 3)) (hin2 : i.1.name = "<init>") (hf : FL i.1.cls idx ci kf ty true) (hcls : (vwCl[ci]?).map (fun r => r.1) = some i.1.cls) (hM0 : M.2 a = some (.inr (ci, fs))) (hn : narrow ty v = v) (hfit : fits ty v = true) (hlen : kf < fs.length) (hq : pc + 3 = q) (K : PW Γ G Z q ls st (hput M a (.inr (ci, fs.set kf v))) k n) : PW Γ G Z pc ls (v :: .ref a :: st) M k n := by
  obtain ⟨p, l, e, R, s, m, args, below, meth, c⟩ := Γ
  obtain ⟨hx, hb, hml, hown, hts, hret, hlocks, hname, htr, hT, hK, hRf, hRl, hRc, hRs⟩ := C
  subst hq
  intro A H locs hl hM hS
  obtain ⟨D, T, N, tf, ⟨hc, hty, hnm, hin⟩, hk, hlink, htf, hfin, hdec⟩ := hf
  subst htf
  have hP := hM.P1 hM0
  have hap := va_apart (own := i.1.cls) hts hin tf hty hnm hK.1 hc
  obtain ⟨r, h1, cell, q1, q2, q3, q4⟩ := hP 0 _ rfl
  have hr : r = (D, T, N) := Option.some.inj (h1.symm.trans hc)
  subst hr
  obtain ⟨hS1, hfc, kC, hkC, hkind⟩ := hK.1.1 ci _ hc
  obtain ⟨cf, kf0, fi, f, hi, hsl⟩ := hS1 kf hk
  have hbase := (hM.2 a _ hM0).1
  have hlay := hts _ (hin _ (u_in_lay hk))
  unfold u_lay at hlay
  rw [if_pos hfin] at hlay
  have hst := (u_facts hfc hkC (u_lays hts hin hk) hi).1
  have hD : D = i.1.cls := by rw [hc] at hcls; exact Option.some.inj hcls
  have hcf : m.cls = cf := by
    obtain ⟨_, _, c', _, _, _, -, -, hf', -, -, -, hown2, -⟩ := Cond.laysFinal_spec hlay
    have e1 : c' = cf := by have := hi.symm.trans hf'; simp at this; exact this.1.symm
    rw [hdec, hD] at hown2
    rw [← e1]; exact Option.some.inj (hown.symm.trans hown2)
  have h6 := u_fits hfc hkC hkind (Or.inr hlay) hi (hty kf hk) hn hfit
  refine W.putFinK hx hb hown (hts _ hlink) hi hst hcf (hname.trans hin2) (by rw [q2]; exact h6) q1 q3 (by rw [hsl]; exact k2_hasslot (q4 kf hk)) rfl rfl d fun H1 e1 e2 e3 => ?_
  rw [hsl] at e1 ⊢
  exact K A H1 _ hl (hM.put e2 e3 hbase ⟨_, hc, t_OB.to (V := updV (vp_V fs) kf v) ⟨_, e1, q2, q3, t_set q4 hap hk v⟩ (fun j _ => vp_updV_set hlen v j)⟩) (hS.put e2 e3 hbase)
theorem ks_ty {G : GC} {s : State} (hK : KS G s) {t : Nat} {ty : FieldType} (ht : tyL[t]? = some ty) : G.2.1[t]? = some ((G.2.1.getD t (0, .int)).1, ty) := by
  have h2 := hK.2.1
  rw [← h2, List.getElem?_map] at ht
  obtain ⟨y, hy, rfl⟩ := Option.map_eq_some_iff.mp ht
  rw [hy]
  simp [List.getD, hy]
theorem pw_iald {Γ : CX} {G : GC} {Z : State → Prop} {i : MI} {T : List ExceptionTableEntry} {mc ms pc q k n : Nat} {ls : LL} {st : List Value} {M : PH} {a z : Nat} {f : Nat → Int32} {j : Int32} (C : Cx Γ G i T mc ms) (d : decode i.2.1 pc = .ok (.iaload, 1)) (hM0 : M.2 a = some (.inl (0, z, .inl f))) (hin : vp_in j z) (hq : pc + 1 = q) (K : PW Γ G Z q ls (.int (f j.toNatClampNeg) :: st) M k n) : PW Γ G Z pc ls (.int j :: .ref a :: st) M k n := by
  obtain ⟨p, l, e, R, s, m, args, below, meth, c⟩ := Γ
  obtain ⟨hx, hb, hml, hown, hts, hret, hlocks, hname, htr, hT, hK, hRf, hRl, hRc, hRs⟩ := C
  subst hq
  intro A H locs hl hM hS
  exact va_iald (ws := [(a, pmE G (.inl (0, z, .inl f)))]) hx hb hK.1 (hM.P1 hM0) 0 0 rfl (ks_ty hK (t := 0) rfl) hin d (K A H locs hl hM hS)
theorem pw_cald {Γ : CX} {G : GC} {Z : State → Prop} {i : MI} {T : List ExceptionTableEntry} {mc ms pc q k n : Nat} {ls : LL} {st : List Value} {M : PH} {a z : Nat} {f : Nat → Int32} {j : Int32} (C : Cx Γ G i T mc ms) (d : decode i.2.1 pc = .ok (.caload, 1)) (hM0 : M.2 a = some (.inl (1, z, .inl f))) (hin : vp_in j z) (hq : pc + 1 = q) (K : PW Γ G Z q ls (.int (f j.toNatClampNeg) :: st) M k n) : PW Γ G Z pc ls (.int j :: .ref a :: st) M k n := by
  obtain ⟨p, l, e, R, s, m, args, below, meth, c⟩ := Γ
  obtain ⟨hx, hb, hml, hown, hts, hret, hlocks, hname, htr, hT, hK, hRf, hRl, hRc, hRs⟩ := C
  subst hq
  intro A H locs hl hM hS
  exact va_cald (ws := [(a, pmE G (.inl (1, z, .inl f)))]) hx hb hK.1 (hM.P1 hM0) 0 1 rfl (ks_ty hK (t := 1) rfl) hin d (K A H locs hl hM hS)
theorem pw_zald {Γ : CX} {G : GC} {Z : State → Prop} {i : MI} {T : List ExceptionTableEntry} {mc ms pc q k n : Nat} {ls : LL} {st : List Value} {M : PH} {a z : Nat} {f : Nat → Int32} {j : Int32} (C : Cx Γ G i T mc ms) (d : decode i.2.1 pc = .ok (.baload, 1)) (hM0 : M.2 a = some (.inl (2, z, .inl f))) (hin : vp_in j z) (hq : pc + 1 = q) (K : PW Γ G Z q ls (.int (f j.toNatClampNeg) :: st) M k n) : PW Γ G Z pc ls (.int j :: .ref a :: st) M k n := by
  obtain ⟨p, l, e, R, s, m, args, below, meth, c⟩ := Γ
  obtain ⟨hx, hb, hml, hown, hts, hret, hlocks, hname, htr, hT, hK, hRf, hRl, hRc, hRs⟩ := C
  subst hq
  intro A H locs hl hM hS
  exact va_zald (ws := [(a, pmE G (.inl (2, z, .inl f)))]) hx hb hK.1 (hM.P1 hM0) 0 2 rfl (ks_ty hK (t := 2) rfl) hin d (K A H locs hl hM hS)
theorem pw_aald {Γ : CX} {G : GC} {Z : State → Prop} {i : MI} {T : List ExceptionTableEntry} {mc ms pc q k n : Nat} {ls : LL} {st : List Value} {M : PH} {a z b : Nat} {f : Nat → Option Nat} {j : Int32} (C : Cx Γ G i T mc ms) (d : decode i.2.1 pc = .ok (.aaload, 1)) (hM0 : M.2 a = some (.inl (4, z, .inr (.inr (.inr (.inr f)))))) (hin : vp_in j z) (hv : f j.toNatClampNeg = some b) (hq : pc + 1 = q) (K : PW Γ G Z q ls (.ref b :: st) M k n) : PW Γ G Z pc ls (.int j :: .ref a :: st) M k n := by
  obtain ⟨p, l, e, R, s, m, args, below, meth, c⟩ := Γ
  obtain ⟨hx, hb, hml, hown, hts, hret, hlocks, hname, htr, hT, hK, hRf, hRl, hRc, hRs⟩ := C
  subst hq
  intro A H locs hl hM hS
  refine va_aldq (ws := [(a, pmE G (.inl (4, z, .inr (.inr (.inr (.inr f))))))]) hx hb hK.1 (hM.P1 hM0) 0 4 rfl (ks_ty hK (t := 4) rfl) hin d ?_
  rw [hv]
  exact K A H locs hl hM hS
theorem pw_alen {Γ : CX} {G : GC} {Z : State → Prop} {i : MI} {T : List ExceptionTableEntry} {mc ms pc q k n : Nat} {ls : LL} {st : List Value} {M : PH} {a z t : Nat} {y : vp_A} {ty : FieldType} {v : Int32} (C : Cx Γ G i T mc ms) (d : decode i.2.1 pc = .ok (.arraylength, 1)) (hM0 : M.2 a = some (.inl (t, y))) (ht : tyL[t]? = some ty) (hv : Int32.ofNat y.1 = v) (hq : pc + 1 = q) (K : PW Γ G Z q ls (.int v :: st) M k n) : PW Γ G Z pc ls (.ref a :: st) M k n := by
  obtain ⟨p, l, e, R, s, m, args, below, meth, c⟩ := Γ
  obtain ⟨hx, hb, hml, hown, hts, hret, hlocks, hname, htr, hT, hK, hRf, hRl, hRc, hRs⟩ := C
  subst hq
  intro A H locs hl hM hS
  exact va_alen (ws := [(a, pmE G (.inl (t, y)))]) hx hb hK.1 (hM.P1 hM0) 0 t rfl (ks_ty hK ht) hv d (K A H locs hl hM hS)
theorem pw_iast {Γ : CX} {G : GC} {Z : State → Prop} {i : MI} {T : List ExceptionTableEntry} {mc ms pc q k n : Nat} {ls : LL} {st : List Value} {M : PH} {a z : Nat} {f : Nat → Int32} {j : Int32} {x : Int32} (C : Cx Γ G i T mc ms) (d : decode i.2.1 pc = .ok (.iastore, 1)) (hM0 : M.2 a = some (.inl (0, z, .inl (f)))) (hin : vp_in j z) (hq : pc + 1 = q) (K : PW Γ G Z q ls st (hput M a (.inl (0, z, .inl (upd f j.toNatClampNeg x)))) k n) : PW Γ G Z pc ls (.int x :: .int j :: .ref a :: st) M k n := by
  obtain ⟨p, l, e, R, s, m, args, below, meth, c⟩ := Γ
  obtain ⟨hx, hb, hml, hown, hts, hret, hlocks, hname, htr, hT, hK, hRf, hRl, hRc, hRs⟩ := C
  subst hq
  intro A H locs hl hM hS
  have hP := hM.P1 hM0
  have hbase := (hM.2 a _ hM0).1
  have hty := ks_ty hK (t := 0) rfl
  refine W.iast hx hb (hP 0 _ rfl) ((hK.1.2 0 _ hty).1 z (fun j => .int (f j))) (fun q => by cases q) (by show ¬ (j < 0 ∨ (arrV _ _ _).slots.size ≤ _); rw [arrV_size]; exact hin) rfl rfl d fun H1 e1 e2 e3 => ?_
  refine K A H1 _ hl (hM.put e2 e3 hbase ?_) (hS.put e2 e3 hbase)
  show H1[a]? = some (vp_cell _ _)
  rw [e1]
  rw [vp_cell_i, vp_cell_i, arrV_store]
  congr 2
  funext q
  by_cases hq : q = j.toNatClampNeg
  · subst hq
    simp [updV, upd]
  · simp [updV, upd, hq]
theorem pw_cast {Γ : CX} {G : GC} {Z : State → Prop} {i : MI} {T : List ExceptionTableEntry} {mc ms pc q k n : Nat} {ls : LL} {st : List Value} {M : PH} {a z : Nat} {f : Nat → Int32} {j : Int32} {x : Int32} (C : Cx Γ G i T mc ms) (d : decode i.2.1 pc = .ok (.castore, 1)) (hM0 : M.2 a = some (.inl (1, z, .inl (f)))) (hin : vp_in j z) (hq : pc + 1 = q) (K : PW Γ G Z q ls st (hput M a (.inl (1, z, .inl (upd f j.toNatClampNeg (vp_nar .char x))))) k n) : PW Γ G Z pc ls (.int x :: .int j :: .ref a :: st) M k n := by
  obtain ⟨p, l, e, R, s, m, args, below, meth, c⟩ := Γ
  obtain ⟨hx, hb, hml, hown, hts, hret, hlocks, hname, htr, hT, hK, hRf, hRl, hRc, hRs⟩ := C
  subst hq
  intro A H locs hl hM hS
  have hP := hM.P1 hM0
  have hbase := (hM.2 a _ hM0).1
  have hty := ks_ty hK (t := 1) rfl
  refine W.cast hx hb (hP 0 _ rfl) ((hK.1.2 1 _ hty).1 z (fun j => .int (f j))) (fun q => by cases q) (by show ¬ (j < 0 ∨ (arrV _ _ _).slots.size ≤ _); rw [arrV_size]; exact hin) rfl rfl d fun H1 e1 e2 e3 => ?_
  refine K A H1 _ hl (hM.put e2 e3 hbase ?_) (hS.put e2 e3 hbase)
  show H1[a]? = some (vp_cell _ _)
  rw [e1]
  rw [vp_cell_i, vp_cell_i, arrV_store]
  congr 2
  funext q
  by_cases hq : q = j.toNatClampNeg
  · subst hq
    simp [updV, upd, vp_nar]
    try rfl
  · simp [updV, upd, hq]
theorem pw_zast {Γ : CX} {G : GC} {Z : State → Prop} {i : MI} {T : List ExceptionTableEntry} {mc ms pc q k n : Nat} {ls : LL} {st : List Value} {M : PH} {a z : Nat} {f : Nat → Int32} {j : Int32} {x : Int32} (C : Cx Γ G i T mc ms) (d : decode i.2.1 pc = .ok (.bastore, 1)) (hM0 : M.2 a = some (.inl (2, z, .inl (f)))) (hin : vp_in j z) (hq : pc + 1 = q) (K : PW Γ G Z q ls st (hput M a (.inl (2, z, .inl (upd f j.toNatClampNeg (vp_nar .boolean x))))) k n) : PW Γ G Z pc ls (.int x :: .int j :: .ref a :: st) M k n := by
  obtain ⟨p, l, e, R, s, m, args, below, meth, c⟩ := Γ
  obtain ⟨hx, hb, hml, hown, hts, hret, hlocks, hname, htr, hT, hK, hRf, hRl, hRc, hRs⟩ := C
  subst hq
  intro A H locs hl hM hS
  have hP := hM.P1 hM0
  have hbase := (hM.2 a _ hM0).1
  have hty := ks_ty hK (t := 2) rfl
  refine W.zast hx hb (hP 0 _ rfl) ((hK.1.2 2 _ hty).1 z (fun j => .int (f j))) (fun q => by cases q) (by show ¬ (j < 0 ∨ (arrV _ _ _).slots.size ≤ _); rw [arrV_size]; exact hin) rfl rfl d fun H1 e1 e2 e3 => ?_
  refine K A H1 _ hl (hM.put e2 e3 hbase ?_) (hS.put e2 e3 hbase)
  show H1[a]? = some (vp_cell _ _)
  rw [e1]
  rw [vp_cell_i, vp_cell_i, arrV_store]
  congr 2
  funext q
  by_cases hq : q = j.toNatClampNeg
  · subst hq
    simp [updV, upd, vp_nar]
    try rfl
  · simp [updV, upd, hq]
theorem pw_aast {Γ : CX} {G : GC} {Z : State → Prop} {i : MI} {T : List ExceptionTableEntry} {mc ms pc q k n : Nat} {ls : LL} {st : List Value} {M : PH} {a z b cb : Nat} {vs : List Value} {f : Nat → Option Nat} {j : Int32} (C : Cx Γ G i T mc ms) (d : decode i.2.1 pc = .ok (.aastore, 1)) (hM0 : M.2 a = some (.inl (4, z, .inr (.inr (.inr (.inr f)))))) (hin : vp_in j z) (hb0 : M.2 b = some (.inr (1, vs))) (hq : pc + 1 = q) (K : PW Γ G Z q ls st (hput M a (.inl (4, z, .inr (.inr (.inr (.inr (va_up f j.toNatClampNeg (some b)))))))) k n) : PW Γ G Z pc ls (.ref b :: .int j :: .ref a :: st) M k n := by
  obtain ⟨p, l, e, R, s, m, args, below, meth, c⟩ := Γ
  obtain ⟨hx, hb, hml, hown, hts, hret, hlocks, hname, htr, hT, hK, hRf, hRl, hRc, hRs⟩ := C
  subst hq
  intro A H locs hl hM hS
  have hP := hM.P1 hM0
  have hbase := (hM.2 a _ hM0).1
  have hty := ks_ty hK (t := 4) rfl
  have hlt : j.toNatClampNeg < z := Nat.not_le.mp fun q => hin (Or.inr q)
  have h0 : ¬ j < 0 := fun q => hin (Or.inl q)
  obtain ⟨r', hr', cellV, g1, g2, g3, -⟩ := hM.P1 hb0 0 _ rfl
  have hcls := (hK.1.1 1 _ rfl).2
  obtain ⟨kA, comp, k1, k2, k3, -⟩ := (hK.1.2 4 _ hty).2
  have hcomp : comp = G.1.1 1 := Option.some.inj (k3.symm.trans hcls.1)
  subst hcomp
  obtain ⟨kC, hkC, -⟩ := hcls.2
  refine W.aast hx hb (hP 0 _ rfl) (fun q h => by cases h) (fun h => by cases h) k1 k2 rfl hkC ⟨h0, by show _ < (arrV _ _ _).slots.size; rw [arrV_size]; exact hlt⟩ g1 (fun q h => by rw [g3] at h; cases h) (by rw [g2]; exact hkC) (by rw [g2]; exact va_assign hcls) rfl rfl d fun H1 e1 e2 e3 => ?_
  refine K A H1 _ hl (hM.put e2 e3 hbase ?_) (hS.put e2 e3 hbase)
  show H1[a]? = some (vp_cell _ _)
  rw [e1]
  rw [vp_cell_q, vp_cell_q, arrV_store]
  congr 2
  funext q
  by_cases hq : q = j.toNatClampNeg
  · subst hq
    simp [updV, va_up, va_rf]
  · simp [updV, va_up, hq]
theorem pw_new {Γ : CX} {G : GC} {Z : State → Prop} {i : MI} {T : List ExceptionTableEntry} {mc ms pc q k n : Nat} {ls : LL} {st : List Value} {M : PH} {idx ci N : Nat} {fs : List Value} (C : Cx Γ G i T mc ms) (d : decode i.2.1 pc = .ok (.new idx, 3)) (hn : NC i.1.cls idx ci N fs) (hroom : k + 1 ≤ mc ∧ n + N ≤ ms) (hq : pc + 3 = q) (K : PW Γ G Z q ls (.ref M.1 :: st) (hnew M (.inr (ci, fs))) (k + 1) (n + N)) : PW Γ G Z pc ls st M k n := by
  obtain ⟨p, l, e, R, s, m, args, below, meth, c⟩ := Γ
  obtain ⟨hx, hb, hml, hown, hts, hret, hlocks, hname, htr, hT, hK, hRf, hRl, hRc, hRs⟩ := C
  subst hq
  intro A H locs hl hM hS
  obtain ⟨D, T, tf, ⟨hc, hty, hnm, hin⟩, hcl, hins, hini, hfs⟩ := hn
  have hKn := hK.1.1 ci _ hc
  have hbase : G.2.2 ≤ H.size := Nat.le_trans hK.2.2.2.2.1 hS.1
  rw [← hRc, ← hRs] at hroom
  refine W.newcK hx hb hown (hts _ hcl) (hts _ hins) (hts _ hini) rfl d hroom.1 hroom.2 hKn.2.1 rfl fun H1 kC hkC e1 z1 o1 => ?_
  have h := K A H1 locs hl (hM.new z1 o1 hbase ⟨_, hc, (u_born tf hts hin hKn hkC e1 hty).to hfs⟩) ⟨Nat.le_trans hS.1 (by omega), fun x h1 h2 => (o1 x (Nat.lt_of_lt_of_le h1 hS.1)).trans (hS.2.1 x h1 h2), hS.2.2⟩
  rw [hM.1] at h
  exact h
theorem pw_newa_int {Γ : CX} {G : GC} {Z : State → Prop} {i : MI} {T : List ExceptionTableEntry} {mc ms pc q k n : Nat} {ls : LL} {st : List Value} {M : PH} {v : Int32} {N : Nat} (C : Cx Γ G i T mc ms) (d : decode i.2.1 pc = .ok (.newarray .int, 2)) (hw : Cond.arrayClass .int ∈ GW) (hn : ¬ v < 0) (hN : v.toNatClampNeg = N) (hbytes : N * componentBytes .int ≤ 536870912) (hroom : k + 1 ≤ mc ∧ n + N ≤ ms) (hq : pc + 2 = q) (K : PW Γ G Z q ls (.ref M.1 :: st) (hnew M (.inl (0, N, .inl (fun _ => 0)))) (k + 1) (n + N)) : PW Γ G Z pc ls (.int v :: st) M k n := by
  obtain ⟨p, l, e, R, s, m, args, below, meth, c⟩ := Γ
  obtain ⟨hx, hb, hml, hown, hts, hret, hlocks, hname, htr, hT, hK, hRf, hRl, hRc, hRs⟩ := C
  subst hq
  intro A H locs hl hM hS
  have hbase : G.2.2 ≤ H.size := Nat.le_trans hK.2.2.2.2.1 hS.1
  rw [← hRc, ← hRs] at hroom
  refine va_newaK (atype := .int) hx hb (hts _ hw) rfl d rfl hn hN hbytes hroom.1 hroom.2 rfl fun H1 cA e1 z1 o1 hAr hNm => ?_
  have hc : cA = (G.2.1.getD 0 (0, .int)).1 := by
    have h9 := (hK.1.2 0 _ (ks_ty hK (t := 0) rfl)).2
    exact Option.some.inj (hNm.symm.trans h9)
  subst hc
  have h := K A H1 locs hl (hM.new z1 o1 hbase (show H1[H.size]? = some (vp_cell _ _) from e1)) ⟨Nat.le_trans hS.1 (by omega), fun x h1 h2 => (o1 x (Nat.lt_of_lt_of_le h1 hS.1)).trans (hS.2.1 x h1 h2), hS.2.2⟩
  rw [hM.1] at h
  exact h
theorem pw_newa_char {Γ : CX} {G : GC} {Z : State → Prop} {i : MI} {T : List ExceptionTableEntry} {mc ms pc q k n : Nat} {ls : LL} {st : List Value} {M : PH} {v : Int32} {N : Nat} (C : Cx Γ G i T mc ms) (d : decode i.2.1 pc = .ok (.newarray .char, 2)) (hw : Cond.arrayClass .char ∈ GW) (hn : ¬ v < 0) (hN : v.toNatClampNeg = N) (hbytes : N * componentBytes .char ≤ 536870912) (hroom : k + 1 ≤ mc ∧ n + N ≤ ms) (hq : pc + 2 = q) (K : PW Γ G Z q ls (.ref M.1 :: st) (hnew M (.inl (1, N, .inl (fun _ => 0)))) (k + 1) (n + N)) : PW Γ G Z pc ls (.int v :: st) M k n := by
  obtain ⟨p, l, e, R, s, m, args, below, meth, c⟩ := Γ
  obtain ⟨hx, hb, hml, hown, hts, hret, hlocks, hname, htr, hT, hK, hRf, hRl, hRc, hRs⟩ := C
  subst hq
  intro A H locs hl hM hS
  have hbase : G.2.2 ≤ H.size := Nat.le_trans hK.2.2.2.2.1 hS.1
  rw [← hRc, ← hRs] at hroom
  refine va_newaK (atype := .char) hx hb (hts _ hw) rfl d rfl hn hN hbytes hroom.1 hroom.2 rfl fun H1 cA e1 z1 o1 hAr hNm => ?_
  have hc : cA = (G.2.1.getD 1 (0, .int)).1 := by
    have h9 := (hK.1.2 1 _ (ks_ty hK (t := 1) rfl)).2
    exact Option.some.inj (hNm.symm.trans h9)
  subst hc
  have h := K A H1 locs hl (hM.new z1 o1 hbase (show H1[H.size]? = some (vp_cell _ _) from e1)) ⟨Nat.le_trans hS.1 (by omega), fun x h1 h2 => (o1 x (Nat.lt_of_lt_of_le h1 hS.1)).trans (hS.2.1 x h1 h2), hS.2.2⟩
  rw [hM.1] at h
  exact h
theorem pw_newa_boolean {Γ : CX} {G : GC} {Z : State → Prop} {i : MI} {T : List ExceptionTableEntry} {mc ms pc q k n : Nat} {ls : LL} {st : List Value} {M : PH} {v : Int32} {N : Nat} (C : Cx Γ G i T mc ms) (d : decode i.2.1 pc = .ok (.newarray .boolean, 2)) (hw : Cond.arrayClass .boolean ∈ GW) (hn : ¬ v < 0) (hN : v.toNatClampNeg = N) (hbytes : N * componentBytes .boolean ≤ 536870912) (hroom : k + 1 ≤ mc ∧ n + N ≤ ms) (hq : pc + 2 = q) (K : PW Γ G Z q ls (.ref M.1 :: st) (hnew M (.inl (2, N, .inl (fun _ => 0)))) (k + 1) (n + N)) : PW Γ G Z pc ls (.int v :: st) M k n := by
  obtain ⟨p, l, e, R, s, m, args, below, meth, c⟩ := Γ
  obtain ⟨hx, hb, hml, hown, hts, hret, hlocks, hname, htr, hT, hK, hRf, hRl, hRc, hRs⟩ := C
  subst hq
  intro A H locs hl hM hS
  have hbase : G.2.2 ≤ H.size := Nat.le_trans hK.2.2.2.2.1 hS.1
  rw [← hRc, ← hRs] at hroom
  refine va_newaK (atype := .boolean) hx hb (hts _ hw) rfl d rfl hn hN hbytes hroom.1 hroom.2 rfl fun H1 cA e1 z1 o1 hAr hNm => ?_
  have hc : cA = (G.2.1.getD 2 (0, .int)).1 := by
    have h9 := (hK.1.2 2 _ (ks_ty hK (t := 2) rfl)).2
    exact Option.some.inj (hNm.symm.trans h9)
  subst hc
  have h := K A H1 locs hl (hM.new z1 o1 hbase (show H1[H.size]? = some (vp_cell _ _) from e1)) ⟨Nat.le_trans hS.1 (by omega), fun x h1 h2 => (o1 x (Nat.lt_of_lt_of_le h1 hS.1)).trans (hS.2.1 x h1 h2), hS.2.2⟩
  rw [hM.1] at h
  exact h
theorem pw_anewa {Γ : CX} {G : GC} {Z : State → Prop} {i : MI} {T : List ExceptionTableEntry} {mc ms pc q k n : Nat} {ls : LL} {st : List Value} {M : PH} {v : Int32} {N idx : Nat} (C : Cx Γ G i T mc ms) (d : decode i.2.1 pc = .ok (.anewarray idx, 3)) (hcl : Cond.classLink i.1.cls idx "AshlarLodge$Lodge" ∈ GW) (hn : ¬ v < 0) (hN : v.toNatClampNeg = N) (hbytes : N * 4 ≤ 536870912) (hroom : k + 1 ≤ mc ∧ n + N ≤ ms) (hq : pc + 3 = q) (K : PW Γ G Z q ls (.ref M.1 :: st) (hnew M (.inl (4, N, .inr (.inr (.inr (.inr (fun _ => none))))))) (k + 1) (n + N)) : PW Γ G Z pc ls (.int v :: st) M k n := by
  obtain ⟨p, l, e, R, s, m, args, below, meth, c⟩ := Γ
  obtain ⟨hx, hb, hml, hown, hts, hret, hlocks, hname, htr, hT, hK, hRf, hRl, hRc, hRs⟩ := C
  subst hq
  intro A H locs hl hM hS
  have hbase : G.2.2 ≤ H.size := Nat.le_trans hK.2.2.2.2.1 hS.1
  rw [← hRc, ← hRs] at hroom
  subst hN
  refine W.anew hx hb hown (hts _ hcl) (va_AO.use hK.2.2.2.2.2.2.2.1) rfl d rfl hn hbytes hroom.1 hroom.2 fun cA kA comp h1 h2 h3 h4 => ?_
  have hc : cA = (G.2.1.getD 4 (0, .int)).1 := by
    obtain ⟨_, _, _, _, _, h9⟩ := (hK.1.2 4 _ (ks_ty hK (t := 4) rfl)).2
    exact Option.some.inj (h1.symm.trans h9)
  subst hc
  have z1 : (H.push ({ cls := (G.2.1.getD 4 (0, .int)).1, slots := Array.replicate v.toNatClampNeg .null, vm := .none } : Cell)).size = H.size + 1 := by simp
  have o1 : ∀ q : Nat, q < H.size → (H.push ({ cls := (G.2.1.getD 4 (0, .int)).1, slots := Array.replicate v.toNatClampNeg .null, vm := .none } : Cell))[q]? = H[q]? := fun q hq => by
    rw [Array.getElem?_push, if_neg (Nat.ne_of_lt hq)]
  have e1 : (H.push ({ cls := (G.2.1.getD 4 (0, .int)).1, slots := Array.replicate v.toNatClampNeg .null, vm := .none } : Cell))[H.size]? = some (vp_cell (G.2.1.getD 4 (0, .int)).1 (v.toNatClampNeg, .inr (.inr (.inr (.inr (fun _ => none)))))) := by
    rw [vp_cell_q]
    simp only [va_rf]
    rw [← arrV_new]
    simp
  have h := K A _ locs hl (hM.new z1 o1 hbase e1) ⟨Nat.le_trans hS.1 (by omega), fun x h1 h2 => (o1 x (Nat.lt_of_lt_of_le h1 hS.1)).trans (hS.2.1 x h1 h2), hS.2.2⟩
  rw [hM.1] at h
  exact h
theorem pw_iret {Γ : CX} {G : GC} {i : MI} {T : List ExceptionTableEntry} {mc ms pc k n : Nat} {ls : LL} {M : PH} {Q : OC → PH → Prop} {x : Int32} (C : Cx Γ G i T mc ms) (d : decode i.2.1 pc = .ok (.ireturn, 1)) (hr : i.2.2.2.1 = some .int)  (hkn : k ≤ mc ∧ n ≤ ms) (hQ : Q (.inl (some (.int x))) M) : PW Γ G (ZJ Γ G mc ms Q) pc ls [.int x] M k n := by
  obtain ⟨p, l, e, R, s, m, args, below, meth, c⟩ := Γ
  obtain ⟨hx, hb, hml, hown, hts, hret, hlocks, hname, htr, hT, hK, hRf, hRl, hRc, hRs⟩ := C
  intro A H locs hl hM hS
  refine W.widen hkn.1 hkn.2 ?_
  exact vx_ret (W.iret hx hb (hret.trans hr) (fun t ht hW => ⟨⟨_, M, rfl, hQ, by rw [ht]; exact hM⟩, hS.F ht⟩) hS.2.2 d)
theorem pw_zret {Γ : CX} {G : GC} {i : MI} {T : List ExceptionTableEntry} {mc ms pc k n : Nat} {ls : LL} {M : PH} {Q : OC → PH → Prop} {x : Int32} (C : Cx Γ G i T mc ms) (d : decode i.2.1 pc = .ok (.ireturn, 1)) (hr : i.2.2.2.1 = some .boolean) (hn : narrow .boolean (.int x) = .int x) (hkn : k ≤ mc ∧ n ≤ ms) (hQ : Q (.inl (some (.int x))) M) : PW Γ G (ZJ Γ G mc ms Q) pc ls [.int x] M k n := by
  obtain ⟨p, l, e, R, s, m, args, below, meth, c⟩ := Γ
  obtain ⟨hx, hb, hml, hown, hts, hret, hlocks, hname, htr, hT, hK, hRf, hRl, hRc, hRs⟩ := C
  intro A H locs hl hM hS
  refine W.widen hkn.1 hkn.2 ?_
  exact vx_ret (W.zret hx hb (hret.trans hr) hn (fun t ht hW => ⟨⟨_, M, rfl, hQ, by rw [ht]; exact hM⟩, hS.F ht⟩) hS.2.2 d)
theorem pw_cret {Γ : CX} {G : GC} {i : MI} {T : List ExceptionTableEntry} {mc ms pc k n : Nat} {ls : LL} {M : PH} {Q : OC → PH → Prop} {x : Int32} (C : Cx Γ G i T mc ms) (d : decode i.2.1 pc = .ok (.ireturn, 1)) (hr : i.2.2.2.1 = some .char) (hn : narrow .char (.int x) = .int x) (hkn : k ≤ mc ∧ n ≤ ms) (hQ : Q (.inl (some (.int x))) M) : PW Γ G (ZJ Γ G mc ms Q) pc ls [.int x] M k n := by
  obtain ⟨p, l, e, R, s, m, args, below, meth, c⟩ := Γ
  obtain ⟨hx, hb, hml, hown, hts, hret, hlocks, hname, htr, hT, hK, hRf, hRl, hRc, hRs⟩ := C
  intro A H locs hl hM hS
  refine W.widen hkn.1 hkn.2 ?_
  exact vx_ret (W.zret hx hb (hret.trans hr) hn (fun t ht hW => ⟨⟨_, M, rfl, hQ, by rw [ht]; exact hM⟩, hS.F ht⟩) hS.2.2 d)
theorem pw_lret {Γ : CX} {G : GC} {i : MI} {T : List ExceptionTableEntry} {mc ms pc k n : Nat} {ls : LL} {M : PH} {Q : OC → PH → Prop} {x : Int64} (C : Cx Γ G i T mc ms) (d : decode i.2.1 pc = .ok (.lreturn, 1)) (hr : i.2.2.2.1 = some .long)  (hkn : k ≤ mc ∧ n ≤ ms) (hQ : Q (.inl (some (.long x))) M) : PW Γ G (ZJ Γ G mc ms Q) pc ls [.long x] M k n := by
  obtain ⟨p, l, e, R, s, m, args, below, meth, c⟩ := Γ
  obtain ⟨hx, hb, hml, hown, hts, hret, hlocks, hname, htr, hT, hK, hRf, hRl, hRc, hRs⟩ := C
  intro A H locs hl hM hS
  refine W.widen hkn.1 hkn.2 ?_
  exact vx_ret (W.lret hx hb (hret.trans hr) (fun t ht hW => ⟨⟨_, M, rfl, hQ, by rw [ht]; exact hM⟩, hS.F ht⟩) hS.2.2 d)
theorem pw_vret {Γ : CX} {G : GC} {i : MI} {T : List ExceptionTableEntry} {mc ms pc k n : Nat} {ls : LL} {M : PH} {Q : OC → PH → Prop}  (C : Cx Γ G i T mc ms) (d : decode i.2.1 pc = .ok (.return_, 1)) (hr : i.2.2.2.1 = none)  (hkn : k ≤ mc ∧ n ≤ ms) (hQ : Q (.inl none) M) : PW Γ G (ZJ Γ G mc ms Q) pc ls [] M k n := by
  obtain ⟨p, l, e, R, s, m, args, below, meth, c⟩ := Γ
  obtain ⟨hx, hb, hml, hown, hts, hret, hlocks, hname, htr, hT, hK, hRf, hRl, hRc, hRs⟩ := C
  intro A H locs hl hM hS
  refine W.widen hkn.1 hkn.2 ?_
  exact vx_ret (W.vret hx hb (hret.trans hr) (fun t ht hW => ⟨⟨_, M, rfl, hQ, by rw [ht]; exact hM⟩, hS.F ht⟩) hS.2.2 d)
