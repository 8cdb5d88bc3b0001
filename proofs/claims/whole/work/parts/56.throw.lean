/-! Throws: a handler whose class is not yet looked up; a call that throws; a throw. -/
section VXT1
variable {e : Env} {f : JFrame} {a : Addr}
/-- the search through these rows ends at pc, and leaves these tables -/
def vx_Fd (e : Env) (f : JFrame) (a : Addr) (es : List ExceptionTableEntry) (S : State) (pc : Nat) (vm' : Vm) : Prop :=
  ∀ (Q : Handler → Pre) (E : CtlPost) (d : Bool) (acts : List Action), wp (findHandler.go f a es) Q E e d acts S ↔ Q (.found pc) d acts (S.setVm vm')
/-- one row that covers: its class is looked up; it takes the object, or the search goes on -/
theorem vx_Fd.row {S s : State} {x : ExceptionTableEntry} {t : List ExceptionTableEntry} {ci : ClassId} {cell : Cell} (hW : s.WarmedH S.vm) (hx : covers x f.pc = true) (h0 : x.catchType ≠ 0) (hl : s.vm.ClassLinks e.platform f.method.cls x.catchType ci)
    (hcell : S.heap[a]? = some cell) (hobj : ∀ k, cell.vm ≠ .statics k) (hk : ∃ k, s.vm.classes[cell.cls]? = some k) :
    ∃ vm1, s.WarmedH vm1 ∧ (s.vm.assignable cell.cls ci = true → vx_Fd e f a (x :: t) S x.handlerPc vm1) ∧ (s.vm.assignable cell.cls ci = false → ∀ pc vm', vx_Fd e f a t (S.setVm vm1) pc vm' → vx_Fd e f a (x :: t) S pc vm') := by
  obtain ⟨dk, _, _, kt, hd, _, _, _, _, hkt, _, hopen⟩ := hl.here
  obtain ⟨k1, hk1⟩ := hk
  have hW1 : s.WarmedH (S.vm.noted f.method.cls x.catchType (.cls ci)) := hW.noted hd hopen (State.rightAt_cls hl)
  obtain ⟨k1', hk1', -⟩ := hW1.alike.2.2 _ _ hk1
  obtain ⟨k2', hk2', -⟩ := hW1.alike.2.2 _ _ hkt
  have has := hW1.alike.assignable
  obtain ⟨ha, ht⟩ := (resolveClass_links e.toSetting (hW.classLinks hl)).op (op := VmOp.resolveClass f.method.cls x.catchType) rfl
  simp only [covers] at hx
  refine ⟨_, hW1, fun hfit Q E d acts => ?_, fun hno pc vm' hr Q E d acts => ?_⟩
  · have hfit' : (S.vm.noted f.method.cls x.catchType (.cls ci)).assignable cell.cls ci = true := by rw [has]; exact hfit
    simp [findHandler.go, hx, h0, ha, ht, hcell, hobj, hk1', hk2', hfit', VmOp.dirties, VmOp.acts]
  · have hno' : (S.vm.noted f.method.cls x.catchType (.cls ci)).assignable cell.cls ci = false := by rw [has]; exact hno
    have := hr Q E
    simp [findHandler.go, hx, h0, ha, ht, hcell, hobj, hk1', hk2', hno', VmOp.dirties, VmOp.acts]
    exact hr Q E _ _
end VXT1
section VXT2
variable {p : Program} {l : Launch} {e : Env} {R : Room} {s : State} {m : MethodId} {args : Array Value} {below : List Frame} {meth : Method} {c : Code} {T : State} {locs : List Loc} {cells slots : Nat}
/-- caught: the walk goes on at the handler -/
theorem vx_catch (X : Stand p l e R s m args below meth c T locs cells slots) {b : Addr} {g : JFrame} (hg : g.method = m) {pc : Nat} {vm' : Vm} (hW : s.WarmedH vm') (hf : vx_Fd e g b c.exceptionTable.toList ((T.setTop g).pushFrame (.throwing b)) pc vm') :
    Stand p l e R s m args below meth c (T.setVm vm') locs cells slots ∧ ∀ tg, Steps p.tables e below ((T.setVm vm').setTop { g with pc := pc, stack := [.ref b] }) tg → Steps p.tables e below ((T.setTop g).pushFrame (.throwing b)) tg := by
  subst hg
  refine ⟨X.noted hW, fun tg hrest => ?_⟩
  obtain ⟨hgo, hw⟩ := X.here.throwing b
  refine Steps.head hgo hw ?_
  obtain ⟨g₀, hfr⟩ := X.frames_eq
  have h1 : (stepThrowing e ((T.setTop g).pushFrame (.throwing b)) b (.java g :: below)).Is ((((T.setTop g).pushFrame (.throwing b)).setVm vm').setFrames (.java { g with pc := pc, stack := [.ref b] } :: below)) [] := by
    simp only [stepThrowing, searchFrame, vmDo]
    generalize hr : Sem.go _ e false [] _ = res
    obtain ⟨as, rfl, ha⟩ := Sem.eq_ok_of hr (a := Handler.found pc) (s' := ((T.setTop g).pushFrame (.throwing b)).setVm vm') (acts' := []) (by
      have hm : ((T.setTop g).pushFrame (.throwing b)).vm.method? g.method = some meth := by rw [Stand.throwing_vm]; exact X.method'
      simp [W.findHandler_eq hm X.code, hf _ _ _ _])
    exact ⟨rfl, ha⟩
  rw [stepThread_throwing (frames_entered X.here.top _), X.tail, h1.1]
  have hfr' : (T.setVm vm').frames = .java g₀ :: below := hfr
  rw [State.setTop_of_frames _ hfr'] at hrest
  have e1 : (((T.setTop g).pushFrame (.throwing b)).setVm vm').setFrames (.java { g with pc := pc, stack := [.ref b] } :: below) = (T.setVm vm').setFrames (.java { g with pc := pc, stack := [.ref b] } :: below) := by
    rw [State.pushFrame, State.setTop_of_frames _ hfr, State.setFrames_setFrames]
    have h2 : ∀ (u : State) (F : List Frame), (u.setFrames F).setVm vm' = (u.setVm vm').setFrames F := fun _ _ => rfl
    rw [h2, State.setFrames_setFrames]
  rw [e1]
  exact hrest
/-- a call that throws: the exception lies over the frame -/
theorem vx_back {y : MethodName} {len Wt : Nat} {S : Spec} {P : Array Value → State → Prop} {Q : Array Value → State → Outcome → State → Prop} {bytes : ByteArray} {maxL : Nat} {ret : Option FieldType} {E : Nat → List Loc → Nat → Nat → State → Prop}
    (hM : MetFree l y S P (fun _ _ _ _ _ => True) Q) (hframes : S.room.frames + 1 ≤ R.frames) (hlocals : Wt + (maxL + 11) + S.room.locals ≤ R.locals)
    {g : JFrame} {ig : Instr} {mk : MethodId} {a : Array Value} (X : Stand p l e R s m args below meth c T locs cells slots) (hg : g.method = m) (hsize : g.locals.size = c.maxLocals) (hdg : decode c.code g.pc = .ok (ig, len))
    (hWt : 2 * g.monitorRoom + (g.stack.map fun v => v.category).sum ≤ Wt) (hn : T.methodNamed? y = some mk) (h1 : S.pre.before a T = true) (h2 : (Cond.code y bytes maxL ret).before a T = true) (h3 : (Cond.initialized y.cls).before a T = true)
    (h4 : cells + S.room.cells ≤ R.cells) (h5 : slots + S.room.slots ≤ R.slots) (hP : P a (T.calling g mk a))
    (hQ : ∀ o t, Q a (T.calling g mk a) o t → ∃ b L k n, o = .threw b ∧ (T.calling g mk a).WarmedH t.vm ∧ (T.calling g mk a).sameButNew ({ t with vm := (T.calling g mk a).vm } : State) L k n ∧ E b L k n t) :
    ∃ b L k n t V, Stand p l e R s m args below meth c V (locs ++ L) (cells + k) (slots + n) ∧ V.heap = t.heap ∧ V.vm = t.vm ∧ E b L k n t ∧ Steps p.tables e below (doInvoke e (T.setTop g) [] mk a).1 ((V.setTop g).pushFrame (.throwing b)) := by
  obtain ⟨methY, cY, hmY, hcY, -, hlY, -, -, -, -⟩ := Cond.code_spec hn h2
  obtain ⟨kY, hkY, -⟩ := className_of_methodNamed hn
  have hinitY : kY.init = .initialized := Cond.initialized_spec (findClass_of_methodNamed hn) hkY h3
  have h : At T g.method c below := by rw [hg]; exact X.here
  have happ : S.appliesLoose y e.platform (T.calling g mk a) = true :=
    Spec.appliesLoose_calling (g := g) h hdg hn hkY hinitY (X.room_calling (g := g) (R' := S.room) hsize hmY hcY hframes (by rw [hlY]; omega) h4 h5) h1
  obtain ⟨mid, hmid⟩ := h.above
  have hfr : (T.setTop g).frames = (.java g :: mid) ++ below := by rw [State.frames_setTop' g h.top, hmid]; rfl
  obtain ⟨o, s₂, hsteps, -, hend, hq⟩ := Steps.callFree hM p X.admits X.cas X.clock (acts := []) hfr happ hP trivial
  rw [State.frames_setTop' g h.top] at hend
  obtain ⟨b, L, k, n, rfl, hW₂, hsm, hE⟩ := hQ _ _ hq
  obtain ⟨e2, q2, q3, q4, q5, q6⟩ := hsm
  have hf₂ : s₂.frames = .throwing b :: .java g :: T.frames.tail := hend
  have hW' : T.WarmedH s₂.vm := hW₂
  have e3 : s₂ = ({ (T.calling g mk a).setFrames s₂.frames with heap := s₂.heap, slotsUsed := s₂.slotsUsed } : State).setVm s₂.vm := by
    have : s₂ = ({ s₂ with vm := (T.calling g mk a).vm } : State).setVm s₂.vm := rfl
    rw [e2] at this
    exact this
  obtain ⟨g₀, hg0⟩ := Option.isSome_iff_exists.mp h.top
  obtain ⟨r, hr⟩ := State.topJava?_eq_some.mp hg0
  have hs₂ : s₂ = ((({ T with heap := s₂.heap, slotsUsed := s₂.slotsUsed } : State).setVm s₂.vm).setTop g).pushFrame (.throwing b) := by
    have hr' : (({ T with heap := s₂.heap, slotsUsed := s₂.slotsUsed } : State).setVm s₂.vm).frames = .java g₀ :: r := hr
    refine e3.trans ?_
    rw [State.pushFrame, State.frames_setTop _ hr', State.setTop_of_frames _ hr', State.setFrames_setFrames, hf₂, State.calling_eq h.top, State.setFrames_setFrames, hr]
    rfl
  have hsame : T.sameButNew ({ T with heap := s₂.heap, slotsUsed := s₂.slotsUsed } : State) L k n := by
    refine ⟨?_, q2, q3, q4, q5, q6⟩
    obtain ⟨t, ht, -⟩ := State.frames_cons hr
    show ({ T with heap := s₂.heap, slotsUsed := s₂.slotsUsed } : State) = { T.setFrames T.frames with heap := s₂.heap, slotsUsed := s₂.slotsUsed }
    rw [State.setFrames_self ht]
  refine ⟨b, L, k, n, s₂, ({ T with heap := s₂.heap, slotsUsed := s₂.slotsUsed } : State).setVm s₂.vm,
    ⟨X.admits, X.cas, X.clock, X.frames, X.room, X.hears, X.method, X.code, (X.here.setHeapUsed s₂.heap s₂.slotsUsed).setVm hW'.alike, X.tail, State.WarmedH.trans X.warmed hW', X.limits, X.bytes, X.same.trans (hsame.setVm s.vm)⟩, rfl, rfl, hE, ?_⟩
  rw [← hs₂]
  exact hsteps
end VXT2
