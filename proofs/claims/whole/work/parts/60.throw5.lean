/-! The start of a method that catches; its rows by their numbers. -/
def vx_hq (h : ExceptionTableEntry) : Nat × Nat × Nat × Nat := (h.startPc, h.endPc, h.handlerPc, h.catchType)
def vx_MiX (l : Launch) (y : MethodName) (wy : List Cond) (rm : Room) (xW : List Cond) (own : String) (xS : List (Nat × String)) (D : va_G) (cl : List vw_C) (tys : List (ClassId × FieldType)) (av : List Value) (ws : va_W) (post : Int32 → va_W → Prop) : Prop :=
  ∀ sz : Nat, Met l y wy rm (vx_Px xW own xS D cl tys av ws sz) (va_Qi post (vx_B D cl tys (va_A ws sz)) (va_A ws sz)) rm.cells rm.slots (va_A ws sz)
section VXH
variable {l : Launch} {y : MethodName} {wy wy' : List Cond} {rm : Room} {D : va_G} {cl : List vw_C} {tys : List (ClassId × FieldType)} {av : List Value} {ws : va_W} {cc : ByteArray} {maxL : Nat} {ret : Option FieldType} {xW : List Cond} {own : String} {xS : List (Nat × String)} {hh : List (Nat × Nat × Nat × Nat)}
theorem vx_startIW {post : Int32 → va_W → Prop} (hy : plainName y.cls = true) (hw : wy = Cond.codeWith y cc maxL ret hh :: wy') (hlen : (lg_sl av).length ≤ maxL)
    (body : ∀ (p : Program) (e : Env) (s : State) (m : MethodId) (below : List Frame) (meth : Method) (c : Code) (A : Nat → Prop) (ls : Array Slot), vx_C p s m av.toArray meth c cc maxL y ret wy → (c.exceptionTable.toList.map vx_hq = hh ∧ vx_XT xW own xS s ∧ ∀ (q : Nat) (cell : Cell), A q → s.heap[q]? = some cell → cell.vm.isStatics = false) →
      va_K D cl tys s → va_P D cl ws s.heap → va_D A ws → va_S A s.heap s.heap [] → (∀ q : Nat, s.heap.size ≤ q → A q) → lv_has ls maxL (lv_args 0 av) →
      W p l e rm s m av.toArray below meth c s.heap [] 0 0 (MQ below (va_Qi post (vx_B D cl tys A) A) av.toArray s rm.cells rm.slots A) (F0 m 0 ls [])) : vx_MiX l y wy rm xW own xS D cl tys av ws post := by
  intro sz
  refine va_MetW (cc := cc) (maxL := maxL) (ret := ret) (hh := hh) hy hw ?_
  intro p e s m args below meth c s₁ B hml hv
  obtain ⟨⟨rfl, hsz, hP, hK, hD0⟩, hX⟩ := hv
  subst hsz
  have hle := lv_entry av (n := maxL) hlen
  have hcodeV := atoms_spec (ws := wy) B.pre _ (by rw [hw]; exact List.mem_cons_self)
  obtain ⟨m9, meth9, c9, hn9, h1, h2, -, -, h5, -⟩ := Cond.codeWith_spec hcodeV
  cases B.named.symm.trans hn9
  cases B.method.symm.trans h1
  cases (Stand.of_body B).code.symm.trans h2
  rw [lg_entry_eq]
  exact body p e s m below meth c (va_A ws s.heap.size) _ ⟨B.exec, B.bytes, B.returns, hml, findClass_of_methodNamed B.named, atoms_spec (ws := wy) B.pre, B.notSynchronized, (name_of_methodNamed B.named B.method).1⟩ ⟨h5, hX, vx_nost hP⟩ hK hP hD0.self va_S.rf (fun _ h => Or.inr h) hle
end VXH
section VXH2
variable {l : Launch} {e : Env} {s : State} {m : MethodId} {args : Array Value} {c : Code} {own X Y : String} {f : JFrame} {a0 b0 h0 t0 a1 b1 h1 t1 : Nat}
theorem vx_cov {x : ExceptionTableEntry} {pc : Nat} (hx : vx_hq x = (a0, b0, h0, t0)) (h : a0 ≤ pc ∧ pc < b0) : covers x pc = true := by
  simp only [vx_hq, Prod.mk.injEq] at hx
  obtain ⟨rfl, rfl, rfl, rfl⟩ := hx
  simp [covers, h.1, h.2]
theorem vx_cat1h (hh : c.exceptionTable.toList.map vx_hq = [(a0, b0, h0, t0)]) (hown : s.vm.findClass own = some m.cls) (hg : f.method = m) (hcov : a0 ≤ f.pc ∧ f.pc < b0) (ht0 : t0 ≠ 0) (hl : (Cond.classLink own t0 X).before args s = true) (hc : (Cond.castable X X).before args s = true) :
    l.admits e → ∀ (b' : Nat) (S : State) (cell : Cell), s.WarmedH S.vm → S.heap[b']? = some cell → cell.vm = .none → s.vm.findClass X = some cell.cls → ∃ vm', s.WarmedH vm' ∧ vx_Fd e f b' c.exceptionTable.toList S h0 vm' := by
  obtain ⟨x, r, hx, hq, hr⟩ := List.map_eq_cons_iff.mp hh
  cases List.map_eq_nil_iff.mp hr
  have hq' := hq
  simp only [vx_hq, Prod.mk.injEq] at hq'
  obtain ⟨-, -, rfl, rfl⟩ := hq'
  exact vx_cat1 hown hg hx (vx_cov hq hcov) ht0 hl hc
theorem vx_cat2ah (hh : c.exceptionTable.toList.map vx_hq = [(a0, b0, h0, t0), (a1, b1, h1, t1)]) (hown : s.vm.findClass own = some m.cls) (hg : f.method = m) (hcov : a0 ≤ f.pc ∧ f.pc < b0) (ht0 : t0 ≠ 0) (hl : (Cond.classLink own t0 X).before args s = true) (hc : (Cond.castable X X).before args s = true) :
    l.admits e → ∀ (b' : Nat) (S : State) (cell : Cell), s.WarmedH S.vm → S.heap[b']? = some cell → cell.vm = .none → s.vm.findClass X = some cell.cls → ∃ vm', s.WarmedH vm' ∧ vx_Fd e f b' c.exceptionTable.toList S h0 vm' := by
  obtain ⟨x, r, hx, hq, hr⟩ := List.map_eq_cons_iff.mp hh
  obtain ⟨x2, r2, hx2, hq2, hr2⟩ := List.map_eq_cons_iff.mp hr
  cases List.map_eq_nil_iff.mp hr2
  subst hx2
  have hq' := hq
  simp only [vx_hq, Prod.mk.injEq] at hq'
  obtain ⟨-, -, rfl, rfl⟩ := hq'
  exact vx_cat2a hown hg hx (vx_cov hq hcov) ht0 hl hc
theorem vx_cat2bh (hh : c.exceptionTable.toList.map vx_hq = [(a0, b0, h0, t0), (a1, b1, h1, t1)]) (hown : s.vm.findClass own = some m.cls) (hg : f.method = m) (hcov : a0 ≤ f.pc ∧ f.pc < b0) (ht0 : t0 ≠ 0) (hl : (Cond.classLink own t0 Y).before args s = true) (hnc : (Cond.not (.castable X Y)).before args s = true)
    (hcov1 : a1 ≤ f.pc ∧ f.pc < b1) (ht1 : t1 ≠ 0) (hl1 : (Cond.classLink own t1 X).before args s = true) (hc : (Cond.castable X X).before args s = true) :
    l.admits e → ∀ (b' : Nat) (S : State) (cell : Cell), s.WarmedH S.vm → S.heap[b']? = some cell → cell.vm = .none → s.vm.findClass X = some cell.cls → ∃ vm', s.WarmedH vm' ∧ vx_Fd e f b' c.exceptionTable.toList S h1 vm' := by
  obtain ⟨x, r, hx, hq, hr⟩ := List.map_eq_cons_iff.mp hh
  obtain ⟨x2, r2, hx2, hq2, hr2⟩ := List.map_eq_cons_iff.mp hr
  cases List.map_eq_nil_iff.mp hr2
  subst hx2
  have hq' := hq
  have hq2' := hq2
  simp only [vx_hq, Prod.mk.injEq] at hq' hq2'
  obtain ⟨-, -, -, rfl⟩ := hq'
  obtain ⟨-, -, rfl, rfl⟩ := hq2'
  exact vx_cat2b hown hg hx (vx_cov hq hcov) ht0 hl hnc (vx_cov hq2 hcov1) ht1 hl1 hc
end VXH2
