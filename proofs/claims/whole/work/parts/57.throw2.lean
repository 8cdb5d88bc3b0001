/-! A method that throws: what it stands on beside the good words, its contract, its start, its throw. -/
/-- cells of statics are as they were -/
def vx_hs (H H1 : Heap) : Prop := ∀ (a : Nat) (cell : Cell), H[a]? = some cell → cell.vm.isStatics = true → H1[a]? = some cell
theorem vx_hs.rf {H : Heap} : vx_hs H H := fun _ _ h _ => h
theorem vx_hs.tr {H H1 H2 : Heap} (h : vx_hs H H1) (h1 : vx_hs H1 H2) : vx_hs H H2 := fun a cell g1 g2 => h1 a cell (h a cell g1 g2) g2
/-- a static that holds a reference, as two words -/
def vx_XS (C n d : String) (U : State) : Prop := (∀ A, (Cond.laysStatic C n d).before A U = true) ∧ ∀ A, (Cond.isRef (.static C n d)).before A U = true
theorem vx_XS.move {C n d : String} {u U : State} (hvm : u.vm.Alike U.vm) (hh : vx_hs u.heap U.heap) (h : vx_XS C n d u) : vx_XS C n d U := by
  obtain ⟨c, k, i, f, a, cell, hc, hi, hst, ha, hcell, hs, hcls, hlt, hty⟩ := Cond.laysStatic_spec (h.1 #[])
  obtain ⟨k', hi', he⟩ := State.fieldFound?_setVm hvm hi
  have hi2 : U.fieldFound? C n d = some (c, k', i, f) := hi'
  have hcell2 := hh a cell hcell hs
  have ha2 : k'.statics = some a := by rw [he]; exact ha
  refine ⟨fun A => Cond.laysStatic_of (by rw [hvm.findClass]; exact hc) hi2 hst ha2 hcell2 hs hcls hlt (by rw [he]; exact hty), fun A => ?_⟩
  have h2 := h.2 A
  simp [Cond.before, Cond.holds, Cond.value, Term.eval, State.fieldNamed?, hi, hst, ha, hcell, hs] at h2
  simp [Cond.before, Cond.holds, Cond.value, Term.eval, State.fieldNamed?, hi2, hst, ha2, hcell2, hs]
  exact h2
/-- the words that are not among the good ones -/
def vx_kb : Cond → Bool
  | .castable .. => true
  | .not (.castable ..) => true
  | .declares _ => true
  | .methodLinkNest .. => true
  | .fieldLinkNest .. => true
  | _ => false
theorem vx_kb.move {w : Cond} (hk : vx_kb w = true) {u U : State} (hW : u.WarmedH U.vm) (h : ∀ A, w.before A u = true) : ∀ A, w.before A U = true := by
  intro A
  unfold vx_kb at hk
  split at hk
  · exact va_Nw.use rfl (va_Nw.warmC hW (va_Nw.of (A := #[]) rfl (h #[])))
  · rename_i C T
    have h2 := Cond.holds_not_iff.mp (h A)
    refine Cond.holds_not_iff.mpr ?_
    simp only [Cond.value, hW.alike.findClass, hW.alike.assignable] at h2 ⊢
    exact h2
  · exact va_Nw.use rfl (va_Nw.warmD hW (va_Nw.of (A := #[]) rfl (h #[])))
  · exact va_Nw.use rfl (va_Nw.warmM hW (va_Nw.of (A := #[]) rfl (h #[])))
  · exact va_Nw.use rfl (va_Nw.warmF hW (va_Nw.of (A := #[]) rfl (h #[])))
  · cases hk
/-- what a throw stands on beside the good words: two statics, words, texts -/
def vx_XT (xW : List Cond) (own : String) (xS : List (Nat × String)) (U : State) : Prop :=
  vx_XS Bundle.tN "UNASSIGNED_STACK" Bundle.steD U ∧ vx_XS Bundle.tN "SUPPRESSED_SENTINEL" Bundle.listD U ∧ (∀ w ∈ xW, vx_kb w = true ∧ ∀ A, w.before A U = true) ∧ ∀ q ∈ xS, ∃ a, vk_R own q.1 q.2 a U
theorem vx_XT.move {xW : List Cond} {own : String} {xS : List (Nat × String)} {u U : State} (hW : u.WarmedH U.vm) (hh : vx_hs u.heap U.heap) (h : vx_XT xW own xS u) : vx_XT xW own xS U := by
  obtain ⟨h1, h2, h3, h4⟩ := h
  refine ⟨h1.move hW.alike hh, h2.move hW.alike hh, fun w hw => ⟨(h3 w hw).1, vx_kb.move (h3 w hw).1 hW (h3 w hw).2⟩, fun q hq => ?_⟩
  obtain ⟨a, ha⟩ := h4 q hq
  exact ⟨a, ha.warm hW⟩
/-- cells of the world are no statics -/
theorem vx_nost {D : va_G} {cl : List vw_C} {ws : va_W} {H : Heap} (hP : va_P D cl ws H) : ∀ (q : Nat) (cell : Cell), va_A ws H.size q → H[q]? = some cell → cell.vm.isStatics = false := by
  intro q cell hA hc
  rcases hA with ⟨k, en, hk⟩ | h
  · have h1 := hP k _ hk
    rcases en with a | o
    · have h2 : H[q]? = some (vp_cell a.1 a.2) := h1
      cases hc.symm.trans h2
      obtain ⟨c0, n, f⟩ := a
      rcases f with f | f | f | f | f <;> rfl
    · obtain ⟨r, -, cell', g1, g2, g3, -⟩ := h1
      cases hc.symm.trans g1
      rw [g3]; rfl
  · exact absurd (Array.getElem?_eq_some_iff.mp hc).1 (Nat.not_lt.mpr h)
theorem vx_hs.of {A : Nat → Prop} {H0 H : Heap} {locs : List Loc} (hS : va_S A H0 H locs) (hN : ∀ (q : Nat) (cell : Cell), A q → H0[q]? = some cell → cell.vm.isStatics = false) : vx_hs H0 H := fun a cell h1 h2 => by
  rw [hS.2.1 a (Array.getElem?_eq_some_iff.mp h1).1 (fun z => by rw [hN a cell z h1] at h2; cases h2)]
  exact h1
/-- the contract of a method that throws X -/
def vx_Qx (X : String) (D : va_G) (cl : List vw_C) (tys : List (ClassId × FieldType)) (A : Nat → Prop) (mc ms : Nat) (post : va_W → Prop) : Array Value → State → Outcome → State → Prop := fun _ st oc t =>
  ∃ (b : Nat) (ce : Cell) (w : va_W) (L : List Loc), oc = .threw b ∧ st.heap.size ≤ b ∧ t.heap[b]? = some ce ∧ st.vm.findClass X = some ce.cls ∧ ce.vm = .none ∧ post w ∧ vx_B D cl tys A w t ∧ va_F A st t ∧ st.WarmedH t.vm ∧ st.sameButNew ({ t with vm := st.vm } : State) L mc ms ∧ ∀ q ∈ L, A q.base
def vx_Px (xW : List Cond) (own : String) (xS : List (Nat × String)) (D : va_G) (cl : List vw_C) (tys : List (ClassId × FieldType)) (av : List Value) (ws : va_W) (sz : Nat) : Array Value → State → Prop := fun a U => vx_Pc D cl tys av ws sz a U ∧ vx_XT xW own xS U
theorem vx_Px.blind {xW : List Cond} {own : String} {xS : List (Nat × String)} {D : va_G} {cl : List vw_C} {tys : List (ClassId × FieldType)} {av : List Value} {ws : va_W} {sz : Nat} : FrameBlind (vx_Px xW own xS D cl tys av ws sz) := fun a U g mk q =>
  ⟨vx_blind a U g mk q.1, vx_XT.move (u := U) (U := U.calling g mk a) (State.WarmedH.refl U) vx_hs.rf q.2⟩
def vx_MQ (below : List Frame) (Qc : Array Value → State → Outcome → State → Prop) (a : Array Value) (s : State) : State → Prop := fun t => ∃ o, t.status = .running ∧ Ended t below o ∧ Qc a s o t
def vx_Mx (l : Launch) (y : MethodName) (wy : List Cond) (rm : Room) (xW : List Cond) (own : String) (xS : List (Nat × String)) (D : va_G) (cl : List vw_C) (tys : List (ClassId × FieldType)) (av : List Value) (ws : va_W) (X : String) (post : va_W → Prop) : Prop :=
  ∀ sz : Nat, MetFree l y (headSpec wy rm) (vx_Px xW own xS D cl tys av ws sz) (fun _ _ _ _ _ => True) (vx_Qx X D cl tys (va_A ws sz) rm.cells rm.slots post)
section VXX
variable {l : Launch} {y : MethodName} {wy wy' : List Cond} {rm : Room} {D : va_G} {cl : List vw_C} {tys : List (ClassId × FieldType)} {av : List Value} {ws : va_W} {cc : ByteArray} {maxL : Nat} {ret : Option FieldType} {xW : List Cond} {own : String} {xS : List (Nat × String)} {X : String} {post : va_W → Prop}
theorem vx_startX (hl : l.stackTraces = false) (hy : plainName y.cls = true) (hw : wy = Cond.code y cc maxL ret :: wy') (hlen : (lg_sl av).length ≤ maxL)
    (body : ∀ (p : Program) (e : Env) (s : State) (m : MethodId) (below : List Frame) (meth : Method) (c : Code) (A : Nat → Prop) (ls : Array Slot), vx_C p s m av.toArray meth c cc maxL y ret wy → (e.platform.stackTraces = false ∧ (∀ pc, ∀ x ∈ c.exceptionTable.toList, covers x pc = false) ∧ vx_XT xW own xS s ∧ ∀ (q : Nat) (cell : Cell), A q → s.heap[q]? = some cell → cell.vm.isStatics = false) →
      va_K D cl tys s → va_P D cl ws s.heap → va_D A ws → va_S A s.heap s.heap [] → (∀ q : Nat, s.heap.size ≤ q → A q) → lv_has ls maxL (lv_args 0 av) →
      W p l e rm s m av.toArray below meth c s.heap [] 0 0 (vx_MQ below (vx_Qx X D cl tys A rm.cells rm.slots post) av.toArray s) (F0 m 0 ls [])) : vx_Mx l y wy rm xW own xS D cl tys av ws X post := by
  intro sz
  refine MetFree.of_bodyS (code := cc) (maxLocals := maxL) (ret := ret) hy ?_ ?_
  · intro args s m h hn
    obtain ⟨meth, c, h1, h2, h3, h4, h5, h6, -, -⟩ := Cond.code_spec hn (atoms_spec (ws := wy) h _ (by rw [hw]; exact List.mem_cons_self))
    exact ⟨meth, c, h1, h2, h3, h4, h5, h6⟩
  · intro p e s m args below meth c s₁ B hml hP _
    obtain ⟨⟨rfl, hsz, hP, hK, hD0⟩, hX⟩ := hP
    subst hsz
    have hh0 : s₁.heap = s.heap := by rw [B.state]; rfl
    have X₀ := Stand.of_body B
    have hle := lv_entry av (n := maxL) hlen
    have htr : e.platform.stackTraces = false := by rw [X₀.admits.platform]; exact hl
    have hcodeV := atoms_spec (ws := wy) B.pre _ (by rw [hw]; exact List.mem_cons_self)
    rw [lg_entry_eq]
    obtain ⟨t, a1, o, b1, b2, b3⟩ := body p e s m below meth c (va_A ws s.heap.size) _ ⟨B.exec, B.bytes, B.returns, hml, findClass_of_methodNamed B.named, atoms_spec (ws := wy) B.pre, B.notSynchronized, (name_of_methodNamed B.named B.method).1⟩
      ⟨htr, fun pc => covers_of_empty (B.noHandlers hcodeV) pc, hX, vx_nost hP⟩ hK hP hD0.self va_S.rf (fun _ h => Or.inr h) hle s₁ hh0 X₀
    exact ⟨t, o, a1, b1, b2, b3⟩
end VXX
