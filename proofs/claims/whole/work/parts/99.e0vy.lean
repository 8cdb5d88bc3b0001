/-! Methods that stand on more: the words of a throw, private constructors of a nest, and a static array that nobody writes. -/
def repI (sr : Nat) : Int32 := if sr = 0 then -1 else if sr = 1 then nI 10 else if sr = 2 then nI 97 else nI 0
abbrev vy_C : String := "StepMachines$States"
abbrev vy_n : String := "BEFORE"
abbrev vy_d : String := "[I"
def vy_E (xW : List Cond) (own : String) (xS : List (Nat × String)) (q : Nat) (U : State) : Prop := vx_XT xW own xS U ∧ va_Z vy_C vy_n vy_d (.ref q) (fun _ => False) U U.heap ∧ va_X q 4 repI U U.heap
theorem vy_E.move {xW : List Cond} {own : String} {xS : List (Nat × String)} {q : Nat} {u U : State} (hW : u.WarmedH U.vm) (hh : vx_hs u.heap U.heap) (hq : U.heap[q]? = u.heap[q]?) (h : vy_E xW own xS q u) : vy_E xW own xS q U := by
  refine ⟨h.1.move hW hh, ?_, va_X.moved hW.alike (va_X.kept h.2.2 hq)⟩
  obtain ⟨cf, kf, fi, f, a, cell, h1, h2, h3, h4, h5, h6, h7, h8⟩ := va_Z.moved hW.alike h.2.1
  exact ⟨cf, kf, fi, f, a, cell, h1, h2, h3, h4, hh a cell h5 h6, h6, h7, h8⟩
theorem vy_z {xW : List Cond} {own : String} {xS : List (Nat × String)} {q : Nat} {A : Nat → Prop} {s : State} (h : vy_E xW own xS q s) (hN : ∀ (q : Nat) (cell : Cell), A q → s.heap[q]? = some cell → cell.vm.isStatics = false) : va_Z vy_C vy_n vy_d (.ref q) A s s.heap := by
  obtain ⟨cf, kf, fi, f, a, cell, h1, h2, h3, h4, h5, h6, h7, h8⟩ := h.2.1
  exact ⟨cf, kf, fi, f, a, cell, h1, h2, h3, h4, h5, h6, h7, fun z => by rw [hN a cell z h5] at h6; cases h6⟩
def vy_P (xW : List Cond) (own : String) (xS : List (Nat × String)) (q : Nat) (D : va_G) (cl : List vw_C) (tys : List (ClassId × FieldType)) (av : List Value) (ws : va_W) (sz : Nat) : Array Value → State → Prop := fun a U => vx_Pc D cl tys av ws sz a U ∧ vy_E xW own xS q U ∧ ∀ (k : Nat) (x : Nat × va_E), ws[k]? = some x → x.1 ≠ q
theorem vy_lt {xW : List Cond} {own : String} {xS : List (Nat × String)} {q : Nat} {s : State} (h : vy_E xW own xS q s) : q < s.heap.size := by
  obtain ⟨scr, h1, -⟩ := h.2.2
  exact (Array.getElem?_eq_some_iff.mp h1).1
theorem vy_na {xW : List Cond} {own : String} {xS : List (Nat × String)} {q : Nat} {s : State} {ws : va_W} (h : vy_E xW own xS q s) (hw : ∀ (k : Nat) (x : Nat × va_E), ws[k]? = some x → x.1 ≠ q) : ¬ va_A ws s.heap.size q := by
  rintro (⟨k, en, hk⟩ | hk)
  · exact hw k _ hk rfl
  · exact absurd (vy_lt h) (Nat.not_lt.mpr hk)
theorem vy_P.blind {xW : List Cond} {own : String} {xS : List (Nat × String)} {q : Nat} {D : va_G} {cl : List vw_C} {tys : List (ClassId × FieldType)} {av : List Value} {ws : va_W} {sz : Nat} : FrameBlind (vy_P xW own xS q D cl tys av ws sz) := fun a U g mk h =>
  ⟨vx_blind a U g mk h.1, vy_E.move (u := U) (U := U.calling g mk a) (State.WarmedH.refl U) vx_hs.rf rfl h.2.1, h.2.2⟩
def vy_Mi (l : Launch) (y : MethodName) (wy : List Cond) (rm : Room) (xW : List Cond) (own : String) (xS : List (Nat × String)) (q : Nat) (D : va_G) (cl : List vw_C) (tys : List (ClassId × FieldType)) (av : List Value) (ws : va_W) (post : Int32 → va_W → Prop) : Prop := ∀ sz : Nat, Met l y wy rm (vy_P xW own xS q D cl tys av ws sz) (va_Qi post (vx_B D cl tys (va_A ws sz)) (va_A ws sz)) rm.cells rm.slots (va_A ws sz)
def vy_Mv (l : Launch) (y : MethodName) (wy : List Cond) (rm : Room) (xW : List Cond) (own : String) (xS : List (Nat × String)) (q : Nat) (D : va_G) (cl : List vw_C) (tys : List (ClassId × FieldType)) (av : List Value) (ws : va_W) (post : va_W → Prop) : Prop := ∀ sz : Nat, Met l y wy rm (vy_P xW own xS q D cl tys av ws sz) (va_Qv post (vx_B D cl tys (va_A ws sz)) (va_A ws sz)) rm.cells rm.slots (va_A ws sz)
section VY
variable {l : Launch} {y : MethodName} {wy wy' : List Cond} {rm : Room} {D : va_G} {cl : List vw_C} {tys : List (ClassId × FieldType)} {av : List Value} {ws : va_W} {cc : ByteArray} {maxL : Nat} {ret : Option FieldType} {xW : List Cond} {own : String} {xS : List (Nat × String)} {q : Nat} {hh : List (Nat × Nat × Nat × Nat)}
theorem vy_start {Qc : Nat → Array Value → State → Outcome → State → Prop} (hy : plainName y.cls = true) (hw : wy = Cond.code y cc maxL ret :: wy') (hlen : (lg_sl av).length ≤ maxL)
    (body : ∀ (p : Program) (e : Env) (s : State) (m : MethodId) (below : List Frame) (meth : Method) (c : Code) (ls : Array Slot), vx_C p s m av.toArray meth c cc maxL y ret wy → (vy_E xW own xS q s ∧ (∀ (z : Nat) (cell : Cell), va_A ws s.heap.size z → s.heap[z]? = some cell → cell.vm.isStatics = false) ∧ ¬ va_A ws s.heap.size q) → va_K D cl tys s → va_P D cl ws s.heap → va_D (va_A ws s.heap.size) ws → lv_has ls maxL (lv_args 0 av) →
      W p l e rm s m av.toArray below meth c s.heap [] 0 0 (MQ below (Qc s.heap.size) av.toArray s rm.cells rm.slots (va_A ws s.heap.size)) (F0 m 0 ls [])) :
    ∀ sz : Nat, Met l y wy rm (vy_P xW own xS q D cl tys av ws sz) (Qc sz) rm.cells rm.slots (va_A ws sz) := by
  intro sz
  refine Met.ofW (cc := cc) (maxL := maxL) (ret := ret) hy hw ?_
  intro p e s m args below meth c s₁ B hml hv
  obtain ⟨⟨rfl, hsz, hP, hK, hD0⟩, hE, hW⟩ := hv
  subst hsz
  have hl := lv_entry av (n := maxL) hlen
  rw [lg_entry_eq]
  exact body p e s m below meth c _ ⟨B.exec, B.bytes, B.returns, hml, findClass_of_methodNamed B.named, atoms_spec (ws := wy) B.pre, B.notSynchronized, (name_of_methodNamed B.named B.method).1⟩ ⟨hE, vx_nost hP, vy_na hE hW⟩ hK hP hD0.self hl
theorem vy_startI {post : Int32 → va_W → Prop} (hy : plainName y.cls = true) (hw : wy = Cond.code y cc maxL ret :: wy') (hlen : (lg_sl av).length ≤ maxL)
    (body : ∀ (p : Program) (e : Env) (s : State) (m : MethodId) (below : List Frame) (meth : Method) (c : Code) (A : Nat → Prop) (ls : Array Slot), vx_C p s m av.toArray meth c cc maxL y ret wy → (vy_E xW own xS q s ∧ (∀ (z : Nat) (cell : Cell), A z → s.heap[z]? = some cell → cell.vm.isStatics = false) ∧ ¬ A q) → va_K D cl tys s → va_P D cl ws s.heap → va_D A ws → va_S A s.heap s.heap [] → (∀ q : Nat, s.heap.size ≤ q → A q) → lv_has ls maxL (lv_args 0 av) →
      W p l e rm s m av.toArray below meth c s.heap [] 0 0 (MQ below (va_Qi post (vx_B D cl tys A) A) av.toArray s rm.cells rm.slots A) (F0 m 0 ls [])) : vy_Mi l y wy rm xW own xS q D cl tys av ws post :=
  vy_start (Qc := fun sz => va_Qi post (vx_B D cl tys (va_A ws sz)) (va_A ws sz)) hy hw hlen (fun p e s m below meth c ls C Z hK hP hD hl => body p e s m below meth c _ ls C Z hK hP hD va_S.rf (fun _ h => Or.inr h) hl)
theorem vy_startV {post : va_W → Prop} (hy : plainName y.cls = true) (hw : wy = Cond.code y cc maxL ret :: wy') (hlen : (lg_sl av).length ≤ maxL)
    (body : ∀ (p : Program) (e : Env) (s : State) (m : MethodId) (below : List Frame) (meth : Method) (c : Code) (A : Nat → Prop) (ls : Array Slot), vx_C p s m av.toArray meth c cc maxL y ret wy → (vy_E xW own xS q s ∧ (∀ (z : Nat) (cell : Cell), A z → s.heap[z]? = some cell → cell.vm.isStatics = false) ∧ ¬ A q) → va_K D cl tys s → va_P D cl ws s.heap → va_D A ws → va_S A s.heap s.heap [] → (∀ q : Nat, s.heap.size ≤ q → A q) → lv_has ls maxL (lv_args 0 av) →
      W p l e rm s m av.toArray below meth c s.heap [] 0 0 (MQ below (va_Qv post (vx_B D cl tys A) A) av.toArray s rm.cells rm.slots A) (F0 m 0 ls [])) : vy_Mv l y wy rm xW own xS q D cl tys av ws post :=
  vy_start (Qc := fun sz => va_Qv post (vx_B D cl tys (va_A ws sz)) (va_A ws sz)) hy hw hlen (fun p e s m below meth c ls C Z hK hP hD hl => body p e s m below meth c _ ls C Z hK hP hD va_S.rf (fun _ h => Or.inr h) hl)
/-- the same of a method with rows for what it catches -/
theorem vy_startIW {post : Int32 → va_W → Prop} (hy : plainName y.cls = true) (hw : wy = Cond.codeWith y cc maxL ret hh :: wy') (hlen : (lg_sl av).length ≤ maxL)
    (body : ∀ (p : Program) (e : Env) (s : State) (m : MethodId) (below : List Frame) (meth : Method) (c : Code) (A : Nat → Prop) (ls : Array Slot), vx_C p s m av.toArray meth c cc maxL y ret wy → ((vy_E xW own xS q s ∧ (∀ (z : Nat) (cell : Cell), A z → s.heap[z]? = some cell → cell.vm.isStatics = false) ∧ ¬ A q) ∧ c.exceptionTable.toList.map vx_hq = hh) →
      va_K D cl tys s → va_P D cl ws s.heap → va_D A ws → va_S A s.heap s.heap [] → (∀ q : Nat, s.heap.size ≤ q → A q) → lv_has ls maxL (lv_args 0 av) →
      W p l e rm s m av.toArray below meth c s.heap [] 0 0 (MQ below (va_Qi post (vx_B D cl tys A) A) av.toArray s rm.cells rm.slots A) (F0 m 0 ls [])) : vy_Mi l y wy rm xW own xS q D cl tys av ws post := by
  intro sz
  refine va_MetW (cc := cc) (maxL := maxL) (ret := ret) (hh := hh) hy hw ?_
  intro p e s m args below meth c s₁ B hml hv
  obtain ⟨⟨rfl, hsz, hP, hK, hD0⟩, hX, hW⟩ := hv
  subst hsz
  have hle := lv_entry av (n := maxL) hlen
  have hcodeV := atoms_spec (ws := wy) B.pre _ (by rw [hw]; exact List.mem_cons_self)
  obtain ⟨m9, meth9, c9, hn9, h1, h2, -, -, h5, -⟩ := Cond.codeWith_spec hcodeV
  cases B.named.symm.trans hn9
  cases B.method.symm.trans h1
  cases (Stand.of_body B).code.symm.trans h2
  rw [lg_entry_eq]
  exact body p e s m below meth c (va_A ws s.heap.size) _ ⟨B.exec, B.bytes, B.returns, hml, findClass_of_methodNamed B.named, atoms_spec (ws := wy) B.pre, B.notSynchronized, (name_of_methodNamed B.named B.method).1⟩ ⟨⟨hX, vx_nost hP, vy_na hX hW⟩, h5⟩ hK hP hD0.self va_S.rf (fun _ h => Or.inr h) hle
theorem vy_startVW {post : va_W → Prop} (hy : plainName y.cls = true) (hw : wy = Cond.codeWith y cc maxL ret hh :: wy') (hlen : (lg_sl av).length ≤ maxL)
    (body : ∀ (p : Program) (e : Env) (s : State) (m : MethodId) (below : List Frame) (meth : Method) (c : Code) (A : Nat → Prop) (ls : Array Slot), vx_C p s m av.toArray meth c cc maxL y ret wy → ((vy_E xW own xS q s ∧ (∀ (z : Nat) (cell : Cell), A z → s.heap[z]? = some cell → cell.vm.isStatics = false) ∧ ¬ A q) ∧ c.exceptionTable.toList.map vx_hq = hh) →
      va_K D cl tys s → va_P D cl ws s.heap → va_D A ws → va_S A s.heap s.heap [] → (∀ q : Nat, s.heap.size ≤ q → A q) → lv_has ls maxL (lv_args 0 av) →
      W p l e rm s m av.toArray below meth c s.heap [] 0 0 (MQ below (va_Qv post (vx_B D cl tys A) A) av.toArray s rm.cells rm.slots A) (F0 m 0 ls [])) : vy_Mv l y wy rm xW own xS q D cl tys av ws post := by
  intro sz
  refine va_MetW (cc := cc) (maxL := maxL) (ret := ret) (hh := hh) hy hw ?_
  intro p e s m args below meth c s₁ B hml hv
  obtain ⟨⟨rfl, hsz, hP, hK, hD0⟩, hX, hW⟩ := hv
  subst hsz
  have hle := lv_entry av (n := maxL) hlen
  have hcodeV := atoms_spec (ws := wy) B.pre _ (by rw [hw]; exact List.mem_cons_self)
  obtain ⟨m9, meth9, c9, hn9, h1, h2, -, -, h5, -⟩ := Cond.codeWith_spec hcodeV
  cases B.named.symm.trans hn9
  cases B.method.symm.trans h1
  cases (Stand.of_body B).code.symm.trans h2
  rw [lg_entry_eq]
  exact body p e s m below meth c (va_A ws s.heap.size) _ ⟨B.exec, B.bytes, B.returns, hml, findClass_of_methodNamed B.named, atoms_spec (ws := wy) B.pre, B.notSynchronized, (name_of_methodNamed B.named B.method).1⟩ ⟨⟨hX, vx_nost hP, vy_na hX hW⟩, h5⟩ hK hP hD0.self va_S.rf (fun _ h => Or.inr h) hle
end VY
section VYP
variable {s : State} {H : Heap} {locs : List Loc} {D : va_G} {cl : List vw_C} {tys : List (ClassId × FieldType)} {A : Nat → Prop} {xW : List Cond} {own' : String} {xS : List (Nat × String)} {q : Nat}
theorem vy_preV {ws wc : va_W} {C : String} {b : Nat} {As : List Value} {T : u_T} {N ci : Nat} {fs : List Value} (isC : List Nat) (Z : vy_E xW own' xS q s ∧ (∀ (q : Nat) (cell : Cell), A q → s.heap[q]? = some cell → cell.vm.isStatics = false) ∧ ¬ A q) (hS : va_S A s.heap H locs) (hK : va_K D cl tys s) (hP : va_P D cl ws H) (hD : va_D A ws) (hn : va_nd isC = true) (hC : isC.map (fun i => ws[i]?) = wc.map some) (hc : cl[ci]? = some (C, T, N)) (q0 : Nat) (hq : ws[q0]? = some (b, .inr (ci, fs))) : PreV s H C b (vy_P xW own' xS q D cl tys (.ref b :: As) wc H.size) As := by
  obtain ⟨-, h2, h3⟩ := vx_preV (As := As) isC hK hP hD hn hC hc q0 hq
  exact ⟨vy_P.blind, h2, fun U hU hW => ⟨h3 U hU hW, Z.1.move hW (by rw [hU]; exact vx_hs.of hS Z.2.1) (by rw [hU]; exact hS.2.1 q (vy_lt Z.1) Z.2.2), fun k x hx hxq => Z.2.2 (by rw [← hxq]; exact (hD.sub isC hn hC).2 k x hx)⟩⟩
theorem vy_preS {ws wc : va_W} {As : List Value} (isC : List Nat) (Z : vy_E xW own' xS q s ∧ (∀ (q : Nat) (cell : Cell), A q → s.heap[q]? = some cell → cell.vm.isStatics = false) ∧ ¬ A q) (hS : va_S A s.heap H locs) (hK : va_K D cl tys s) (hP : va_P D cl ws H) (hD : va_D A ws) (hn : va_nd isC = true) (hC : isC.map (fun i => ws[i]?) = wc.map some) : PreS s H (vy_P xW own' xS q D cl tys As wc H.size) As := by
  obtain ⟨-, h3⟩ := vx_preS (As := As) isC hK hP hD hn hC
  exact ⟨vy_P.blind, fun U hU hW => ⟨h3 U hU hW, Z.1.move hW (by rw [hU]; exact vx_hs.of hS Z.2.1) (by rw [hU]; exact hS.2.1 q (vy_lt Z.1) Z.2.2), fun k x hx hxq => Z.2.2 (by rw [← hxq]; exact (hD.sub isC hn hC).2 k x hx)⟩⟩
end VYP
